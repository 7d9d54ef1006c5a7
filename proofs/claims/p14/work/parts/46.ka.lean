section
/-! WHAT HOLDS BETWEEN TWO CALLS OF THE LAW -/
noncomputable def kU (i : Nat → Int32) (a : Nat → List Int32) : Prop := kHold i a ∧ kCode i a ∧ kChg i a ∧ (i 7453).toInt ≤ (i 7452).toInt
noncomputable def kBod (i : Nat → Int32) (a : Nat → List Int32) : Prop := (i 6017).toInt = (i 7455).toInt ∧ a 95 = a 134
noncomputable def kAll (i : Nat → Int32) (a : Nat → List Int32) (q : Nat → List Int64) (r : Nat → Nat) : Prop := (kI i a q ∧ kr r) ∧ kU i a ∧ kShel i a q ∧ kBod i a
noncomputable def kFrU (w : kW) : Bool := !kM w.1 7432 && (!kM w.1 7452 && (!kM w.1 7453 && (!kM w.2.1 120 && (!kM w.2.1 121 && (!kM w.2.1 122 && (!kM w.2.1 123 && (!kM w.2.1 133 && !kM w.2.1 136)))))))
noncomputable def kFrS (w : kW) : Bool := (List.range 6).all (fun t => !kM w.1 (6656 + 128 * t) && (!kM w.1 (6657 + 128 * t) && (!kM w.1 (6658 + 128 * t) && (!kM w.1 (6659 + 128 * t) && !kM w.2.2.1 (105 + 2 * t))))) && (!kM w.2.1 136 && (!kM w.2.1 137 && !kM w.2.2.1 138))
noncomputable def kFrB (w : kW) : Bool := !kM w.1 6017 && (!kM w.1 7455 && (!kM w.2.1 95 && !kM w.2.1 134))
section FR
variable {w : kW} {i i1 : Nat → Int32} {a a1 : Nat → List Int32} {q q1 : Nat → List Int64} {r r1 : Nat → Nat}
theorem kI_ln (hI : kI i a q) : ∀ t : Nat, t < 6 → 0 ≤ (i (6659 + 128 * t)).toInt ∧ (i (6659 + 128 * t)).toInt ≤ 60 := fun t ht => match t, ht with
  | 0, _ => hI.1 6659
  | 1, _ => hI.1 6787
  | 2, _ => hI.1 6915
  | 3, _ => hI.1 7043
  | 4, _ => hI.1 7171
  | 5, _ => hI.1 7299
  | _ + 6, h => absurd h (by omega)
theorem kI_so (hI : kI i a q) : ∀ t : Nat, t < 6 → 0 ≤ (i (6658 + 128 * t)).toInt ∧ (i (6658 + 128 * t)).toInt ≤ 4 := fun t ht => match t, ht with
  | 0, _ => hI.1 6658
  | 1, _ => hI.1 6786
  | 2, _ => hI.1 6914
  | 3, _ => hI.1 7042
  | 4, _ => hI.1 7170
  | 5, _ => hI.1 7298
  | _ + 6, h => absurd h (by omega)
theorem kI_ho (hI : kI i a q) : ∀ t : Nat, t < 6 → 0 ≤ (i (6656 + 128 * t)).toInt ∧ (i (6656 + 128 * t)).toInt ≤ 2 := fun t ht => match t, ht with
  | 0, _ => hI.1 6656
  | 1, _ => hI.1 6784
  | 2, _ => hI.1 6912
  | 3, _ => hI.1 7040
  | 4, _ => hI.1 7168
  | 5, _ => hI.1 7296
  | _ + 6, h => absurd h (by omega)
theorem kI_ql (hI : kI i a q) : ∀ t : Nat, t < 6 → (q (105 + 2 * t)).length = 60 := fun t ht => match t, ht with
  | 0, _ => hI.2.2.2 105
  | 1, _ => hI.2.2.2 107
  | 2, _ => hI.2.2.2 109
  | 3, _ => hI.2.2.2 111
  | 4, _ => hI.2.2.2 113
  | 5, _ => hI.2.2.2 115
  | _ + 6, h => absurd h (by omega)
theorem kU_fr (g : kG w i a q r i1 a1 q1 r1) (f : kFrU w = true) (h : kU i a) : kU i1 a1 := by
  unfold kFrU at f
  simp only [Bool.and_eq_true, Bool.not_eq_true'] at f
  obtain ⟨f1, f2, f3, f4, f5, f6, f7, f8, f9⟩ := f
  exact ⟨kHold_of h.1 (g.fa _ f9), kCode_of h.2.1 (g.fi _ f1) (g.fa _ f4) (g.fa _ f5) (g.fa _ f6) (g.fa _ f7), kChg_of h.2.2.1 (g.fa _ f8), by rw [g.fi _ f2, g.fi _ f3]; exact h.2.2.2⟩
theorem kShel_fr (g : kG w i a q r i1 a1 q1 r1) (hI : kI i a q) (f : kFrS w = true) (h : kShel i a q) : kShel i1 a1 q1 := by
  unfold kFrS at f
  simp only [Bool.and_eq_true, Bool.not_eq_true', List.all_eq_true, List.mem_range] at f
  obtain ⟨f1, f2, f3, f4⟩ := f
  intro t ht
  obtain ⟨b0, b1, b2, b3, b4⟩ := f1 t ht
  exact kSh1_of (h t ht) (kVw_eq (g.fi _ b0) (g.fi _ b1) (g.fi _ b2) (g.fi _ b3) (g.fq _ b4)) (by rw [g.fa _ f2]) (by rw [g.fa _ f3]) (fun j _ => by rw [g.fq _ f4]) (kI_ln hI t ht).2
theorem kBod_fr (g : kG w i a q r i1 a1 q1 r1) (f : kFrB w = true) (h : kBod i a) : kBod i1 a1 := by
  unfold kFrB at f
  simp only [Bool.and_eq_true, Bool.not_eq_true'] at f
  obtain ⟨f1, f2, f3, f4⟩ := f
  exact ⟨by rw [g.fi _ f1, g.fi _ f2]; exact h.1, by rw [g.fa _ f3, g.fa _ f4]; exact h.2⟩
theorem kAll_fr (g : kG w i a q r i1 a1 q1 r1) (f : (kFrU w && (kFrS w && kFrB w)) = true) (h : kAll i a q r) : kAll i1 a1 q1 r1 := by
  obtain ⟨f1, f2⟩ := Bool.and_eq_true_iff.mp f
  obtain ⟨f2, f3⟩ := Bool.and_eq_true_iff.mp f2
  exact ⟨⟨g.I, g.R⟩, kU_fr g f1 h.2.1, kShel_fr g h.1.1 f2 h.2.2.1, kBod_fr g f3 h.2.2.2⟩
/-- the three methods of the reference that write what kU speaks of, and its law -/
theorem kAll_law (g : kG w i a q r i1 a1 q1 r1) (f : (!kM w.1 7452 && (!kM w.1 7453 && (!kM w.2.1 133 && !kM w.2.1 136)) && (kFrS w && kFrB w)) = true) (hc : kCode i1 a1) (h : kAll i a q r) : kAll i1 a1 q1 r1 := by
  simp only [Bool.and_eq_true, Bool.not_eq_true'] at f
  obtain ⟨⟨f1, f2, f3, f4⟩, f5, f6⟩ := f
  exact ⟨⟨g.I, g.R⟩, ⟨kHold_of h.2.1.1 (g.fa _ f4), hc, kChg_of h.2.1.2.2.1 (g.fa _ f3), by rw [g.fi _ f1, g.fi _ f2]; exact h.2.1.2.2.2⟩, kShel_fr g h.1.1 f5 h.2.2.1, kBod_fr g f6 h.2.2.2⟩
theorem kAll_chg (g : kG w i a q r i1 a1 q1 r1) (f : (!kM w.1 7432 && (!kM w.2.1 120 && (!kM w.2.1 121 && (!kM w.2.1 122 && (!kM w.2.1 123 && !kM w.2.1 136)))) && (kFrS w && kFrB w)) = true) (hc : kChg i1 a1) (hd : (i1 7453).toInt ≤ (i1 7452).toInt) (h : kAll i a q r) : kAll i1 a1 q1 r1 := by
  simp only [Bool.and_eq_true, Bool.not_eq_true'] at f
  obtain ⟨⟨f1, f2, f3, f4, f5, f6⟩, f7, f8⟩ := f
  exact ⟨⟨g.I, g.R⟩, ⟨kHold_of h.2.1.1 (g.fa _ f6), kCode_of h.2.1.2.1 (g.fi _ f1) (g.fa _ f2) (g.fa _ f3) (g.fa _ f4) (g.fa _ f5), hc, hd⟩, kShel_fr g h.1.1 f7 h.2.2.1, kBod_fr g f8 h.2.2.2⟩
end FR
theorem kset_gI {l : List Int32} {j m : Nat} {x : Int32} (h : j < l.length) : (l.set j x).getD m 0 = if m = j then x else l.getD m 0 := by
  by_cases e : m = j
  · subst e
    rw [if_pos rfl, List.getD_eq_getElem?_getD, List.getElem?_set_self h]
    rfl
  · rw [if_neg e, List.getD_eq_getElem?_getD, List.getElem?_set_ne (fun z => e z.symm), ← List.getD_eq_getElem?_getD]
theorem kj_t {x : Int32} {t : Nat} (c : (t : Int) = x.toInt) : x.toNatClampNeg = t := by have := Int32.toNat_toInt x; omega
theorem kj_ix {x y : Int32} {t j : Nat} (ht : (t : Int) = x.toInt) (h6 : t < 6) (hj : (j : Int) = y.toInt) (hk : j < 60) : ((60 * x) + y).toNatClampNeg = 60 * t + j := by
  have e0 : (60 * x).toInt = 60 * x.toInt := kd_cmul 60 (by decide) (by omega) (by omega)
  have e1 : ((60 * x) + y).toInt = (60 * x).toInt + y.toInt := kd_add (by omega) (by omega)
  have := Int32.toNat_toInt ((60 * x) + y)
  omega
theorem kj_v {v w : Int32} (h : v.toInt = w.toInt) : v = w := Int32.toInt_inj.mp h
theorem kj_v1 {v : Int32} (h : v.toInt = 1) : v = 1 := Int32.toInt_inj.mp (h.trans (by decide))
theorem kj_1v {v : Int32} (h : v = 1) : v.toInt = 1 := by subst h; decide

theorem st_keep {i i1 i2 : Nat → Int32} {a a1 a2 : Nat → List Int32} {q q1 q2 : Nat → List Int64} {r r1 r2 : Nat → Nat} {v w : Int32} {x1 : Int32} {x2 : Int32} (h : kAll i a q r) (g1 : kG xw113_0 i a q r i1 a1 q1 r1) (P1 : ((((v.toInt = 1) ∧ (((0 : Int) ≤ x1.toInt) ∧ (x1.toInt ≤ 5) ∧ ((x2.toInt = (-1)) ∨ (((0 : Int) ≤ x2.toInt) ∧ (x2.toInt < (i 6017).toInt))))) ∨ ((v.toInt = (-1)) ∧ (¬ (((0 : Int) ≤ x1.toInt) ∧ (x1.toInt ≤ 5) ∧ ((x2.toInt = (-1)) ∨ (((0 : Int) ≤ x2.toInt) ∧ (x2.toInt < (i 6017).toInt))))))) ∧ ((((v.toInt = 1) ∧ (x1.toInt = 0)) → ((((x2.toInt < 0) ∧ ((i1 6656).toInt = 0)) ∨ (((0 : Int) ≤ x2.toInt) ∧ ((i1 6656).toInt = 1))) ∧ ((i1 6657).toInt = x2.toInt)))) ∧ ((((v.toInt = 1) ∧ (x1.toInt = 1)) → ((((x2.toInt < 0) ∧ ((i1 6784).toInt = 0)) ∨ (((0 : Int) ≤ x2.toInt) ∧ ((i1 6784).toInt = 1))) ∧ ((i1 6785).toInt = x2.toInt)))) ∧ ((((v.toInt = 1) ∧ (x1.toInt = 2)) → ((((x2.toInt < 0) ∧ ((i1 6912).toInt = 0)) ∨ (((0 : Int) ≤ x2.toInt) ∧ ((i1 6912).toInt = 1))) ∧ ((i1 6913).toInt = x2.toInt)))) ∧ ((((v.toInt = 1) ∧ (x1.toInt = 3)) → ((((x2.toInt < 0) ∧ ((i1 7040).toInt = 0)) ∨ (((0 : Int) ≤ x2.toInt) ∧ ((i1 7040).toInt = 1))) ∧ ((i1 7041).toInt = x2.toInt)))) ∧ ((((v.toInt = 1) ∧ (x1.toInt = 4)) → ((((x2.toInt < 0) ∧ ((i1 7168).toInt = 0)) ∨ (((0 : Int) ≤ x2.toInt) ∧ ((i1 7168).toInt = 1))) ∧ ((i1 7169).toInt = x2.toInt)))) ∧ ((((v.toInt = 1) ∧ (x1.toInt = 5)) → ((((x2.toInt < 0) ∧ ((i1 7296).toInt = 0)) ∨ (((0 : Int) ≤ x2.toInt) ∧ ((i1 7296).toInt = 1))) ∧ ((i1 7297).toInt = x2.toInt))))) ∧ ((v = 1 → kOth i q i1 q1 x1.toInt) ∧ (v ≠ 1 → ∀ t : Nat, t < 6 → kVw i1 q1 t = kVw i q t))) (g2 : kG xw217_116 i1 a1 q1 r1 i2 a2 q2 r2) (P2 : (((w.toInt = 1) ∧ (((0 : Int) ≤ x1.toInt) ∧ (x1.toInt ≤ 5) ∧ (((-1) : Int) ≤ x2.toInt) ∧ (x2.toInt < (i1 7455).toInt))) ∨ ((w.toInt = (-1)) ∧ (¬ (((0 : Int) ≤ x1.toInt) ∧ (x1.toInt ≤ 5) ∧ (((-1) : Int) ≤ x2.toInt) ∧ (x2.toInt < (i1 7455).toInt))))) ∧ ((w = 1 → ∃ w : Int32, ((x2.toInt < 0 ∧ w.toInt = -1) ∨ (0 ≤ x2.toInt ∧ w.toInt = 10 + x2.toInt)) ∧ a2 136 = (a1 136).set x1.toNatClampNeg w ∧ a2 137 = (a1 137).set x1.toNatClampNeg 0) ∧ (w ≠ 1 → a2 136 = a1 136 ∧ a2 137 = a1 137))) : kAll i2 a2 q2 r2 ∧ v = w := by
  obtain ⟨⟨D, I0, I1, I2, I3, I4, I5⟩, o1, o2⟩ := P1
  obtain ⟨D1, p1, p2⟩ := P2
  have hC : v.toInt = 1 → ∀ t : Nat, t < 6 → (t : Int) = x1.toInt → ((x2.toInt < 0 ∧ (i1 (6656 + 128 * t)).toInt = 0) ∨ ((0 : Int) ≤ x2.toInt ∧ (i1 (6656 + 128 * t)).toInt = 1)) ∧ (i1 (6657 + 128 * t)).toInt = x2.toInt := fun hv1 t ht c => match t, ht, c with
    | 0, _, c => I0 ⟨hv1, c.symm⟩
    | 1, _, c => I1 ⟨hv1, c.symm⟩
    | 2, _, c => I2 ⟨hv1, c.symm⟩
    | 3, _, c => I3 ⟨hv1, c.symm⟩
    | 4, _, c => I4 ⟨hv1, c.symm⟩
    | 5, _, c => I5 ⟨hv1, c.symm⟩
    | _ + 6, hh, _ => absurd hh (by omega)
  clear I0 I1 I2 I3 I4 I5
  have eb := h.2.2.2.1
  have eb0 := h.1.1.1 6017
  have eb2 : 0 ≤ (i 6017).toInt := eb0.1
  have eb1 := g1.ti 7455 rfl
  have e : v = w := kj_v (by omega)
  refine ⟨?_, e⟩
  have hU1 := kU_fr g1 rfl h.2.1
  have hB2 := kBod_fr g2 rfl (kBod_fr g1 rfl h.2.2.2)
  have hl : (a1 136).length = 6 := g1.I.2.1 136
  by_cases hv : v = 1
  · have hv1 := kj_1v hv
    obtain ⟨u, hu, e1, e2⟩ := p1 (e ▸ hv)
    have ho := o1 hv
    have hx : 0 ≤ x1.toInt ∧ x1.toInt ≤ 5 := by omega
    have tx := Int32.toNat_toInt x1
    refine ⟨⟨g2.I, g2.R⟩, ⟨fun j => ?_, kCode_of hU1.2.1 (g2.fi _ rfl) (g2.fa _ rfl) (g2.fa _ rfl) (g2.fa _ rfl) (g2.fa _ rfl), kChg_of hU1.2.2.1 (g2.fa _ rfl), ?_⟩, fun t ht => ?_, hB2⟩
    · rw [e1, kset_gI (by omega)]
      by_cases c : j = x1.toNatClampNeg
      · rw [if_pos c]; omega
      · rw [if_neg c]; exact hU1.1 j
    · rw [g2.fi 7453 rfl, g2.fi 7452 rfl]; exact hU1.2.2.2
    · by_cases c : (t : Int) = x1.toInt
      · have hc := hC hv1 t ht c
        unfold kSh1
        rw [g2.fi _ rfl, g2.fi _ rfl, e1, e2, kset_gI (by omega), if_pos (by omega)]
        refine ⟨fun z => by omega, fun z => by omega, fun z => absurd z (by omega)⟩
      · have hn := ho t ht c
        refine kSh1_of (h.2.2.1 t ht) ((kVw_eq (g2.fi _ rfl) (g2.fi _ rfl) (g2.fi _ rfl) (g2.fi _ rfl) (g2.fq _ rfl)).trans hn) ?_ ?_ (fun j _ => by rw [g2.fq _ rfl, g1.fq _ rfl]) (kI_ln h.1.1 t ht).2
        · rw [e1, kset_gI (by omega), if_neg (by omega), g1.fa _ rfl]
        · have hl2 : (a1 137).length = 6 := g1.I.2.1 137
          rw [e2, kset_gI (by omega), if_neg (by omega), g1.fa _ rfl]
  · have hs := o2 hv
    obtain ⟨e1, e2⟩ := p2 (e ▸ hv)
    refine ⟨⟨g2.I, g2.R⟩, ⟨kHold_of hU1.1 e1, kCode_of hU1.2.1 (g2.fi _ rfl) (g2.fa _ rfl) (g2.fa _ rfl) (g2.fa _ rfl) (g2.fa _ rfl), kChg_of hU1.2.2.1 (g2.fa _ rfl), ?_⟩, fun t ht => ?_, hB2⟩
    · rw [g2.fi 7453 rfl, g2.fi 7452 rfl]; exact hU1.2.2.2
    · exact kSh1_of (h.2.2.1 t ht) ((kVw_eq (g2.fi _ rfl) (g2.fi _ rfl) (g2.fi _ rfl) (g2.fi _ rfl) (g2.fq _ rfl)).trans (hs t ht)) (by rw [e1, g1.fa _ rfl]) (by rw [e2, g1.fa _ rfl]) (fun j _ => by rw [g2.fq _ rfl, g1.fq _ rfl]) (kI_ln h.1.1 t ht).2
theorem st_row {i i1 i2 : Nat → Int32} {a a1 a2 : Nat → List Int32} {q q1 q2 : Nat → List Int64} {r r1 r2 : Nat → Nat} {v w : Int32} {x1 : Int32} {x2 : Int32} {x3 : Int32} (h : kAll i a q r) (g1 : kG xw114_0 i a q r i1 a1 q1 r1) (P1 : ((((v.toInt = 1) ∧ (((0 : Int) ≤ x1.toInt) ∧ (x1.toInt ≤ 5) ∧ ((0 : Int) ≤ x2.toInt) ∧ (x2.toInt ≤ 4) ∧ ((0 : Int) ≤ x3.toInt) ∧ (x3.toInt ≤ 60))) ∨ ((v.toInt = (-14)) ∧ ((0 : Int) ≤ x1.toInt) ∧ (x1.toInt ≤ 5) ∧ ((0 : Int) ≤ x2.toInt) ∧ (x2.toInt ≤ 4) ∧ (x3.toInt < 0)) ∨ ((v.toInt = (-1)) ∧ (¬ (((0 : Int) ≤ x1.toInt) ∧ (x1.toInt ≤ 5) ∧ ((0 : Int) ≤ x2.toInt) ∧ (x2.toInt ≤ 4) ∧ ((0 : Int) ≤ x3.toInt) ∧ (x3.toInt ≤ 60))) ∧ (¬ (((0 : Int) ≤ x1.toInt) ∧ (x1.toInt ≤ 5) ∧ ((0 : Int) ≤ x2.toInt) ∧ (x2.toInt ≤ 4) ∧ (x3.toInt < 0))))) ∧ ((((v.toInt = 1) ∧ (x1.toInt = 0)) → (((i1 6656).toInt = 2) ∧ ((i1 6658).toInt = x2.toInt) ∧ ((i1 6659).toInt = x3.toInt)))) ∧ ((((v.toInt = 1) ∧ (x1.toInt = 1)) → (((i1 6784).toInt = 2) ∧ ((i1 6786).toInt = x2.toInt) ∧ ((i1 6787).toInt = x3.toInt)))) ∧ ((((v.toInt = 1) ∧ (x1.toInt = 2)) → (((i1 6912).toInt = 2) ∧ ((i1 6914).toInt = x2.toInt) ∧ ((i1 6915).toInt = x3.toInt)))) ∧ ((((v.toInt = 1) ∧ (x1.toInt = 3)) → (((i1 7040).toInt = 2) ∧ ((i1 7042).toInt = x2.toInt) ∧ ((i1 7043).toInt = x3.toInt)))) ∧ ((((v.toInt = 1) ∧ (x1.toInt = 4)) → (((i1 7168).toInt = 2) ∧ ((i1 7170).toInt = x2.toInt) ∧ ((i1 7171).toInt = x3.toInt)))) ∧ ((((v.toInt = 1) ∧ (x1.toInt = 5)) → (((i1 7296).toInt = 2) ∧ ((i1 7298).toInt = x2.toInt) ∧ ((i1 7299).toInt = x3.toInt))))) ∧ ((v = 1 → kOth i q i1 q1 x1.toInt ∧ ∀ t : Nat, (t : Int) = x1.toInt → kZer (q1 (105 + 2 * t)) 0 x3.toInt.toNat) ∧ (v ≠ 1 → ∀ t : Nat, t < 6 → kVw i1 q1 t = kVw i q t))) (g2 : kG xw218_116 i1 a1 q1 r1 i2 a2 q2 r2) (P2 : (((w.toInt = 1) ∧ (((0 : Int) ≤ x1.toInt) ∧ (x1.toInt ≤ 5) ∧ ((0 : Int) ≤ x2.toInt) ∧ (x2.toInt ≤ 4) ∧ ((0 : Int) ≤ x3.toInt) ∧ (x3.toInt ≤ 60))) ∨ ((w.toInt = (-14)) ∧ ((0 : Int) ≤ x1.toInt) ∧ (x1.toInt ≤ 5) ∧ ((0 : Int) ≤ x2.toInt) ∧ (x2.toInt ≤ 4) ∧ (x3.toInt < 0)) ∨ ((w.toInt = (-1)) ∧ (¬ (((0 : Int) ≤ x1.toInt) ∧ (x1.toInt ≤ 5) ∧ ((0 : Int) ≤ x2.toInt) ∧ (x2.toInt ≤ 4) ∧ ((0 : Int) ≤ x3.toInt) ∧ (x3.toInt ≤ 60))) ∧ (¬ (((0 : Int) ≤ x1.toInt) ∧ (x1.toInt ≤ 5) ∧ ((0 : Int) ≤ x2.toInt) ∧ (x2.toInt ≤ 4) ∧ (x3.toInt < 0))))) ∧ ((w = 1 → a2 136 = (a1 136).set x1.toNatClampNeg x2 ∧ a2 137 = (a1 137).set x1.toNatClampNeg x3 ∧ kZer (q2 138) (60 * x1.toInt).toNat 60 ∧ kFar (q1 138) (q2 138) (60 * x1.toInt).toNat 60) ∧ (w ≠ 1 → a2 136 = a1 136 ∧ a2 137 = a1 137 ∧ q2 138 = q1 138))) : kAll i2 a2 q2 r2 ∧ v = w := by
  obtain ⟨⟨D, I0, I1, I2, I3, I4, I5⟩, o1, o2⟩ := P1
  obtain ⟨D1, p1, p2⟩ := P2
  have hC : v.toInt = 1 → ∀ t : Nat, t < 6 → (t : Int) = x1.toInt → (i1 (6656 + 128 * t)).toInt = 2 ∧ (i1 (6658 + 128 * t)).toInt = x2.toInt ∧ (i1 (6659 + 128 * t)).toInt = x3.toInt := fun hv1 t ht c => match t, ht, c with
    | 0, _, c => I0 ⟨hv1, c.symm⟩
    | 1, _, c => I1 ⟨hv1, c.symm⟩
    | 2, _, c => I2 ⟨hv1, c.symm⟩
    | 3, _, c => I3 ⟨hv1, c.symm⟩
    | 4, _, c => I4 ⟨hv1, c.symm⟩
    | 5, _, c => I5 ⟨hv1, c.symm⟩
    | _ + 6, hh, _ => absurd hh (by omega)
  clear I0 I1 I2 I3 I4 I5
  have e : v = w := kj_v (by omega)
  refine ⟨?_, e⟩
  have hU1 := kU_fr g1 rfl h.2.1
  have hB2 := kBod_fr g2 rfl (kBod_fr g1 rfl h.2.2.2)
  have hl : (a1 136).length = 6 := g1.I.2.1 136
  have hl2 : (a1 137).length = 6 := g1.I.2.1 137
  by_cases hv : v = 1
  · have hv1 := kj_1v hv
    obtain ⟨e1, e2, hz, hf⟩ := p1 (e ▸ hv)
    obtain ⟨ho, hq⟩ := o1 hv
    have hx : 0 ≤ x1.toInt ∧ x1.toInt ≤ 5 ∧ 0 ≤ x2.toInt ∧ x2.toInt ≤ 4 ∧ 0 ≤ x3.toInt ∧ x3.toInt ≤ 60 := by omega
    have tx := Int32.toNat_toInt x1
    refine ⟨⟨g2.I, g2.R⟩, ⟨fun j => ?_, kCode_of hU1.2.1 (g2.fi _ rfl) (g2.fa _ rfl) (g2.fa _ rfl) (g2.fa _ rfl) (g2.fa _ rfl), kChg_of hU1.2.2.1 (g2.fa _ rfl), ?_⟩, fun t ht => ?_, hB2⟩
    · rw [e1, kset_gI (by omega)]
      by_cases c : j = x1.toNatClampNeg
      · rw [if_pos c]; omega
      · rw [if_neg c]; exact hU1.1 j
    · rw [g2.fi 7453 rfl, g2.fi 7452 rfl]; exact hU1.2.2.2
    · by_cases c : (t : Int) = x1.toInt
      · have hc := hC hv1 t ht c
        unfold kSh1
        rw [g2.fi _ rfl, g2.fi _ rfl, g2.fi _ rfl, g2.fi _ rfl, e1, e2, kset_gI (by omega), if_pos (by omega), kset_gI (by omega), if_pos (by omega), g2.fq (105 + 2 * t) (by match t, ht with | 0, _ => rfl | 1, _ => rfl | 2, _ => rfl | 3, _ => rfl | 4, _ => rfl | 5, _ => rfl | _ + 6, hh => exact absurd hh (by omega))]
        refine ⟨fun z => absurd z (by omega), fun z => absurd z (by omega), fun z => ⟨by omega, by omega, fun j hj => ?_⟩⟩
        have z1 := hq t c j (by omega)
        have z2 := hz j (by omega)
        rw [Nat.zero_add] at z1
        have eb : (60 * x1.toInt).toNat = 60 * t := by omega
        rw [eb] at z2
        exact z1.trans z2.symm
      · have hn := ho t ht c
        refine kSh1_of (h.2.2.1 t ht) ((kVw_eq (g2.fi _ rfl) (g2.fi _ rfl) (g2.fi _ rfl) (g2.fi _ rfl) (g2.fq _ (by match t, ht with | 0, _ => rfl | 1, _ => rfl | 2, _ => rfl | 3, _ => rfl | 4, _ => rfl | 5, _ => rfl | _ + 6, hh => exact absurd hh (by omega)))).trans hn) ?_ ?_ (fun j hj => ?_) (kI_ln h.1.1 t ht).2
        · rw [e1, kset_gI (by omega), if_neg (by omega), g1.fa _ rfl]
        · rw [e2, kset_gI (by omega), if_neg (by omega), g1.fa _ rfl]
        · rw [hf (60 * t + j) (by omega), g1.fq _ rfl]
  · have hs := o2 hv
    obtain ⟨e1, e2, e3⟩ := p2 (e ▸ hv)
    refine ⟨⟨g2.I, g2.R⟩, ⟨kHold_of hU1.1 e1, kCode_of hU1.2.1 (g2.fi _ rfl) (g2.fa _ rfl) (g2.fa _ rfl) (g2.fa _ rfl) (g2.fa _ rfl), kChg_of hU1.2.2.1 (g2.fa _ rfl), ?_⟩, fun t ht => ?_, hB2⟩
    · rw [g2.fi 7453 rfl, g2.fi 7452 rfl]; exact hU1.2.2.2
    · exact kSh1_of (h.2.2.1 t ht) ((kVw_eq (g2.fi _ rfl) (g2.fi _ rfl) (g2.fi _ rfl) (g2.fi _ rfl) (g2.fq _ (by match t, ht with | 0, _ => rfl | 1, _ => rfl | 2, _ => rfl | 3, _ => rfl | 4, _ => rfl | 5, _ => rfl | _ + 6, hh => exact absurd hh (by omega)))).trans (hs t ht)) (by rw [e1, g1.fa _ rfl]) (by rw [e2, g1.fa _ rfl]) (fun j _ => by rw [e3, g1.fq _ rfl]) (kI_ln h.1.1 t ht).2
theorem st_put {i i1 i2 : Nat → Int32} {a a1 a2 : Nat → List Int32} {q q1 q2 : Nat → List Int64} {r r1 r2 : Nat → Nat} {v w : Int32} {x1 x2 : Int32} {x3 : Int64} (h : kAll i a q r) (g1 : kG xw115_0 i a q r i1 a1 q1 r1) (P1 : (((((x1.toInt < 0) ∨ ((5 : Int) < x1.toInt)) → (v.toInt < 0))) ∧ (((x1.toInt = 0) → (((v.toInt = 1) ∧ ((i 6656).toInt = 2) ∧ ((0 : Int) ≤ x2.toInt) ∧ (x2.toInt < (i 6659).toInt)) ∨ ((v.toInt < 0) ∧ (¬ (((i 6656).toInt = 2) ∧ ((0 : Int) ≤ x2.toInt) ∧ (x2.toInt < (i 6659).toInt))))))) ∧ (((x1.toInt = 1) → (((v.toInt = 1) ∧ ((i 6784).toInt = 2) ∧ ((0 : Int) ≤ x2.toInt) ∧ (x2.toInt < (i 6787).toInt)) ∨ ((v.toInt < 0) ∧ (¬ (((i 6784).toInt = 2) ∧ ((0 : Int) ≤ x2.toInt) ∧ (x2.toInt < (i 6787).toInt))))))) ∧ (((x1.toInt = 2) → (((v.toInt = 1) ∧ ((i 6912).toInt = 2) ∧ ((0 : Int) ≤ x2.toInt) ∧ (x2.toInt < (i 6915).toInt)) ∨ ((v.toInt < 0) ∧ (¬ (((i 6912).toInt = 2) ∧ ((0 : Int) ≤ x2.toInt) ∧ (x2.toInt < (i 6915).toInt))))))) ∧ (((x1.toInt = 3) → (((v.toInt = 1) ∧ ((i 7040).toInt = 2) ∧ ((0 : Int) ≤ x2.toInt) ∧ (x2.toInt < (i 7043).toInt)) ∨ ((v.toInt < 0) ∧ (¬ (((i 7040).toInt = 2) ∧ ((0 : Int) ≤ x2.toInt) ∧ (x2.toInt < (i 7043).toInt))))))) ∧ (((x1.toInt = 4) → (((v.toInt = 1) ∧ ((i 7168).toInt = 2) ∧ ((0 : Int) ≤ x2.toInt) ∧ (x2.toInt < (i 7171).toInt)) ∨ ((v.toInt < 0) ∧ (¬ (((i 7168).toInt = 2) ∧ ((0 : Int) ≤ x2.toInt) ∧ (x2.toInt < (i 7171).toInt))))))) ∧ (((x1.toInt = 5) → (((v.toInt = 1) ∧ ((i 7296).toInt = 2) ∧ ((0 : Int) ≤ x2.toInt) ∧ (x2.toInt < (i 7299).toInt)) ∨ ((v.toInt < 0) ∧ (¬ (((i 7296).toInt = 2) ∧ ((0 : Int) ≤ x2.toInt) ∧ (x2.toInt < (i 7299).toInt)))))))) ∧ ((v = 1 → kOth i q i1 q1 x1.toInt ∧ ∀ t : Nat, (t : Int) = x1.toInt → i1 (6656 + 128 * t) = i (6656 + 128 * t) ∧ i1 (6657 + 128 * t) = i (6657 + 128 * t) ∧ i1 (6658 + 128 * t) = i (6658 + 128 * t) ∧ i1 (6659 + 128 * t) = i (6659 + 128 * t) ∧ q1 (105 + 2 * t) = (q (105 + 2 * t)).set x2.toNatClampNeg (kNar (i (6658 + 128 * t)) x3)) ∧ (v ≠ 1 → ∀ t : Nat, t < 6 → kVw i1 q1 t = kVw i q t))) (g2 : kG xw221_116 i1 a1 q1 r1 i2 a2 q2 r2) (P2 : (((((x1.toInt < 0) ∨ ((5 : Int) < x1.toInt)) → (w.toInt < 0))) ∧ (((((0 : Int) ≤ x1.toInt) ∧ (x1.toInt ≤ 5)) → (((w.toInt = 1) ∧ ((0 : Int) ≤ ((a1 136).getD x1.toNatClampNeg 0).toInt) ∧ (((a1 136).getD x1.toNatClampNeg 0).toInt ≤ 4) ∧ ((0 : Int) ≤ x2.toInt) ∧ (x2.toInt < ((a1 137).getD x1.toNatClampNeg 0).toInt)) ∨ ((w.toInt < 0) ∧ (¬ (((0 : Int) ≤ ((a1 136).getD x1.toNatClampNeg 0).toInt) ∧ (((a1 136).getD x1.toNatClampNeg 0).toInt ≤ 4) ∧ ((0 : Int) ≤ x2.toInt) ∧ (x2.toInt < ((a1 137).getD x1.toNatClampNeg 0).toInt)))))))) ∧ ((w = 1 → q2 138 = (q1 138).set ((60 * x1) + x2).toNatClampNeg (kNar ((a1 136).getD x1.toNatClampNeg 0) x3)) ∧ (w ≠ 1 → q2 138 = q1 138))) : kAll i2 a2 q2 r2 := by
  obtain ⟨⟨D, I0, I1, I2, I3, I4, I5⟩, o1, o2⟩ := P1
  obtain ⟨⟨D1, D2⟩, p1, p2⟩ := P2
  have hU2 := kU_fr g2 rfl (kU_fr g1 rfl h.2.1)
  have hB2 := kBod_fr g2 rfl (kBod_fr g1 rfl h.2.2.2)
  have fq2 : ∀ t : Nat, t < 6 → q2 (105 + 2 * t) = q1 (105 + 2 * t) := fun t ht => g2.fq _ (by match t, ht with | 0, _ => rfl | 1, _ => rfl | 2, _ => rfl | 3, _ => rfl | 4, _ => rfl | 5, _ => rfl | _ + 6, hh => exact absurd hh (by omega))
  have hC : ∀ t : Nat, t < 6 → (t : Int) = x1.toInt → ((v.toInt = 1) ∧ ((i (6656 + 128 * t)).toInt = 2) ∧ ((0 : Int) ≤ x2.toInt) ∧ (x2.toInt < (i (6659 + 128 * t)).toInt)) ∨ ((v.toInt < 0) ∧ (¬ (((i (6656 + 128 * t)).toInt = 2) ∧ ((0 : Int) ≤ x2.toInt) ∧ (x2.toInt < (i (6659 + 128 * t)).toInt)))) := fun t ht c => match t, ht, c with
    | 0, _, c => I0 c.symm
    | 1, _, c => I1 c.symm
    | 2, _, c => I2 c.symm
    | 3, _, c => I3 c.symm
    | 4, _, c => I4 c.symm
    | 5, _, c => I5 c.symm
    | _ + 6, hh, _ => absurd hh (by omega)
  clear I0 I1 I2 I3 I4 I5
  have tx := Int32.toNat_toInt x1
  have ea : a1 136 = a 136 := g1.fa _ rfl
  have eb : a1 137 = a 137 := g1.fa _ rfl
  rw [ea, eb] at D2
  refine ⟨⟨g2.I, g2.R⟩, hU2, fun t ht => ?_, hB2⟩
  have ln := kI_ln h.1.1 t ht
  have so := kI_so h.1.1 t ht
  have ho := kI_ho h.1.1 t ht
  have hs := h.2.2.1 t ht
  by_cases hin : 0 ≤ x1.toInt ∧ x1.toInt ≤ 5
  · obtain ⟨s, hs6, hsx⟩ : ∃ s : Nat, s < 6 ∧ (s : Int) = x1.toInt := ⟨x1.toInt.toNat, by omega, by omega⟩
    have en : x1.toNatClampNeg = s := kj_t hsx
    have hc := hC s hs6 hsx
    have hr := D2 hin
    rw [en] at hr
    have lns := kI_ln h.1.1 s hs6
    have sos := kI_so h.1.1 s hs6
    have hos := kI_ho h.1.1 s hs6
    have hss := h.2.2.1 s hs6
    obtain ⟨h0, h1, h2⟩ := hss
    by_cases hv : v = 1
    · have hv1 := kj_1v hv
      have c2 : (i (6656 + 128 * s)).toInt = 2 ∧ 0 ≤ x2.toInt ∧ x2.toInt < (i (6659 + 128 * s)).toInt := by omega
      obtain ⟨m1, m2, m3⟩ := h2 c2.1
      have hw : w = 1 := kj_v1 (by omega)
      obtain ⟨ko_, kp⟩ := o1 hv
      obtain ⟨k0, k1, k2, k3, k4⟩ := kp s hsx
      have pw := p1 hw
      have eq0 : q1 138 = q 138 := g1.fq _ rfl
      rw [ea, en, eq0, kj_ix (j := x2.toNatClampNeg) hsx hs6 (by have := Int32.toNat_toInt x2; omega) (by have := Int32.toNat_toInt x2; omega)] at pw
      have esr : (a 136).getD s 0 = i (6658 + 128 * s) := Int32.toInt_inj.mp m1
      have lq : (q 138).length = 360 := h.1.1.2.2.2 138
      have tx2 := Int32.toNat_toInt x2
      by_cases c : t = s
      · subst c
        refine ⟨fun z => ?_, fun z => ?_, fun z => ?_⟩
        · rw [g2.fi _ rfl, k0] at z; omega
        · rw [g2.fi _ rfl, k0] at z; omega
        · rw [g2.fi _ rfl, g2.fi _ rfl, k2, k3, g2.fa _ rfl, g2.fa _ rfl, ea, eb, fq2 t ht, k4, pw]
          refine ⟨m1, m2, fun j hj => ?_⟩
          have l60 := kI_ql h.1.1 t ht
          rw [kset_getL (by omega), kset_getL (by omega), esr]
          by_cases cj : j = x2.toNatClampNeg
          · rw [if_pos cj, if_pos (by omega)]
          · rw [if_neg cj, if_neg (by omega)]; exact m3 j hj
      · refine kSh1_of hs ((kVw_eq (g2.fi _ rfl) (g2.fi _ rfl) (g2.fi _ rfl) (g2.fi _ rfl) (fq2 t ht)).trans (ko_ t ht (by omega))) (by rw [g2.fa _ rfl, ea]) (by rw [g2.fa _ rfl, eb]) (fun j hj => ?_) ln.2
        rw [pw, kset_getL (by omega), if_neg (by omega)]
    · have hv0 : v.toInt < 0 := by
        rcases hc with z | z
        · exact absurd (kj_v1 z.1) hv
        · exact z.1
      have hw : w ≠ 1 := fun z => by
        have := kj_1v z
        have hh : (i (6656 + 128 * s)).toInt = 2 := by
          rcases (show (i (6656 + 128 * s)).toInt = 0 ∨ (i (6656 + 128 * s)).toInt = 1 ∨ (i (6656 + 128 * s)).toInt = 2 by omega) with z0 | z0 | z0
          · have := h0 z0; omega
          · have := h1 z0; omega
          · exact z0
        obtain ⟨m1, m2, _⟩ := h2 hh
        omega
      exact kSh1_of hs ((kVw_eq (g2.fi _ rfl) (g2.fi _ rfl) (g2.fi _ rfl) (g2.fi _ rfl) (fq2 t ht)).trans (o2 hv t ht)) (by rw [g2.fa _ rfl, ea]) (by rw [g2.fa _ rfl, eb]) (fun j _ => by rw [p2 hw, g1.fq _ rfl]) ln.2
  · have hv : v ≠ 1 := fun z => by have := kj_1v z; have := D (by omega); omega
    have hw : w ≠ 1 := fun z => by have := kj_1v z; have := D1 (by omega); omega
    exact kSh1_of hs ((kVw_eq (g2.fi _ rfl) (g2.fi _ rfl) (g2.fi _ rfl) (g2.fi _ rfl) (fq2 t ht)).trans (o2 hv t ht)) (by rw [g2.fa _ rfl, ea]) (by rw [g2.fa _ rfl, eb]) (fun j _ => by rw [p2 hw, g1.fq _ rfl]) ln.2
theorem st_shift {i i1 i2 : Nat → Int32} {a a1 a2 : Nat → List Int32} {q q1 q2 : Nat → List Int64} {r r1 r2 : Nat → Nat} {v w : Int32} {x1 : Int32} {x2 : Int32} {x3 : Int32} {x4 : Int32} {x5 : Int32} (h : kAll i a q r) (g1 : kG xw117_0 i a q r i1 a1 q1 r1) (P1 : (True) ∧ ((∀ s t : Nat, s < 6 → t < 6 → (s : Int) = x1.toInt → (t : Int) = x3.toInt → kSfV (i (6656 + 128 * s)) (i (6656 + 128 * t)) (i (6658 + 128 * s)) (i (6658 + 128 * t)) (i (6659 + 128 * s)) (i (6659 + 128 * t)) x2 x4 x5 v ∧ (0 ≤ v.toInt → q1 (105 + 2 * t) = mi_cpy (q (105 + 2 * s)) (q (105 + 2 * t)) x2.toNatClampNeg x4.toNatClampNeg x5.toNatClampNeg ∧ ∀ u : Nat, u < 6 → u ≠ t → q1 (105 + 2 * u) = q (105 + 2 * u))) ∧ (v.toInt < 0 → (∀ u : Nat, u < 6 → q1 (105 + 2 * u) = q (105 + 2 * u))) ∧ (¬ (0 ≤ x1.toInt ∧ x1.toInt ≤ 5 ∧ 0 ≤ x3.toInt ∧ x3.toInt ≤ 5) → v.toInt = -1))) (g2 : kG xw223_116 i1 a1 q1 r1 i2 a2 q2 r2) (P2 : (True) ∧ (((0 ≤ x1.toInt ∧ x1.toInt ≤ 5 ∧ 0 ≤ x3.toInt ∧ x3.toInt ≤ 5) → kSfR ((a1 136).getD x1.toNatClampNeg 0) ((a1 136).getD x3.toNatClampNeg 0) ((a1 137).getD x1.toNatClampNeg 0) ((a1 137).getD x3.toNatClampNeg 0) x2 x4 x5 w) ∧ (¬ (0 ≤ x1.toInt ∧ x1.toInt ≤ 5 ∧ 0 ≤ x3.toInt ∧ x3.toInt ≤ 5) → w.toInt = -1) ∧ (0 ≤ w.toInt → kMov (q1 138) (q2 138) (60 * x1.toInt + x2.toInt) (60 * x3.toInt + x4.toInt) 0 x5.toInt) ∧ (w.toInt < 0 → q2 138 = q1 138))) : kAll i2 a2 q2 r2 ∧ v = w := by
  obtain ⟨_, c1, c2, c3⟩ := P1
  obtain ⟨_, d1, d2, d3, d4⟩ := P2
  have hU2 := kU_fr g2 rfl (kU_fr g1 rfl h.2.1)
  have hB2 := kBod_fr g2 rfl (kBod_fr g1 rfl h.2.2.2)
  have fq2 : ∀ t : Nat, t < 6 → q2 (105 + 2 * t) = q1 (105 + 2 * t) := fun t ht => g2.fq _ (by match t, ht with | 0, _ => rfl | 1, _ => rfl | 2, _ => rfl | 3, _ => rfl | 4, _ => rfl | 5, _ => rfl | _ + 6, hh => exact absurd hh (by omega))
  have ea : a1 136 = a 136 := g1.fa _ rfl
  have eb : a1 137 = a 137 := g1.fa _ rfl
  have eq0 : q1 138 = q 138 := g1.fq _ rfl
  rw [ea, eb] at d1
  rw [eq0] at d3 d4
  by_cases hin : 0 ≤ x1.toInt ∧ x1.toInt ≤ 5 ∧ 0 ≤ x3.toInt ∧ x3.toInt ≤ 5
  · obtain ⟨s, hs6, hsx⟩ : ∃ s : Nat, s < 6 ∧ (s : Int) = x1.toInt := ⟨x1.toInt.toNat, by omega, by omega⟩
    obtain ⟨t, ht6, htx⟩ : ∃ s : Nat, s < 6 ∧ (s : Int) = x3.toInt := ⟨x3.toInt.toNat, by omega, by omega⟩
    obtain ⟨V, mv⟩ := c1 s t hs6 ht6 hsx htx
    have R := d1 hin
    rw [kj_t hsx, kj_t htx] at R
    obtain ⟨s0, s1, s2⟩ := h.2.2.1 s hs6
    obtain ⟨t0, t1, t2⟩ := h.2.2.1 t ht6
    have lns := kI_ln h.1.1 s hs6
    have sos := kI_so h.1.1 s hs6
    have hos := kI_ho h.1.1 s hs6
    have lnt := kI_ln h.1.1 t ht6
    have sot := kI_so h.1.1 t ht6
    have hot := kI_ho h.1.1 t ht6
    have a1' : (i (6656 + 128 * s)).toInt = 2 → ((a 136).getD s 0).toInt = (i (6658 + 128 * s)).toInt ∧ ((a 137).getD s 0).toInt = (i (6659 + 128 * s)).toInt := fun z => ⟨(s2 z).1, (s2 z).2.1⟩
    have b1' : (i (6656 + 128 * t)).toInt = 2 → ((a 136).getD t 0).toInt = (i (6658 + 128 * t)).toInt ∧ ((a 137).getD t 0).toInt = (i (6659 + 128 * t)).toInt := fun z => ⟨(t2 z).1, (t2 z).2.1⟩
    have e : v = w := by
      unfold kSfV at V
      unfold kSfR at R
      rcases V with V | V | V | V <;> rcases R with R | R | R | R <;> first | (exact kj_v (by omega)) | (exact V.1.trans R.1.symm) | (exfalso; omega)
    refine ⟨⟨⟨g2.I, g2.R⟩, hU2, fun u hu => ?_, hB2⟩, e⟩
    have lnu := kI_ln h.1.1 u hu
    have hsu := h.2.2.1 u hu
    by_cases hv : 0 ≤ v.toInt
    · obtain ⟨k1, k2⟩ := mv hv
      have K := d3 (e ▸ hv)
      have F : v = x5 ∧ ((i (6656 + 128 * s)).toInt = 2 ∧ (i (6656 + 128 * t)).toInt = 2 ∧ (i (6658 + 128 * s)).toInt = (i (6658 + 128 * t)).toInt) ∧ (0 ≤ x2.toInt ∧ 0 ≤ x4.toInt ∧ 0 ≤ x5.toInt ∧ x2.toInt + x5.toInt ≤ (i (6659 + 128 * s)).toInt ∧ x4.toInt + x5.toInt ≤ (i (6659 + 128 * t)).toInt) := by
        unfold kSfV at V
        rcases V with V | V | V | V
        · omega
        · omega
        · omega
        · exact V
      obtain ⟨_, ⟨F1, F2, F3⟩, F4, F5, F6, F7, F8⟩ := F
      have y2 := Int32.toNat_toInt x2
      have y4 := Int32.toNat_toInt x4
      have y5 := Int32.toNat_toInt x5
      by_cases c : u = t
      · subst c
        refine ⟨fun z => ?_, fun z => ?_, fun z => ?_⟩
        · rw [g2.fi _ rfl, g1.fi _ rfl] at z; omega
        · rw [g2.fi _ rfl, g1.fi _ rfl] at z; omega
        · rw [g2.fi _ rfl, g2.fi _ rfl, g1.fi _ rfl, g1.fi _ rfl, g2.fa _ rfl, g2.fa _ rfl, ea, eb, fq2 u hu, k1]
          refine ⟨(t2 F2).1, (t2 F2).2.1, fun j hj => ?_⟩
          have l1 := kI_ql h.1.1 s hs6
          have l2 := kI_ql h.1.1 u hu
          rw [kcpy_at j (by omega) (by omega), K (60 * u + j)]
          by_cases cj : x4.toNatClampNeg ≤ j ∧ j < x4.toNatClampNeg + x5.toNatClampNeg
          · rw [if_pos cj, if_pos (by omega), (s2 F1).2.2 _ (by omega)]
            have en : 60 * s + (x2.toNatClampNeg + (j - x4.toNatClampNeg)) = (((60 * u + j : Nat) : Int) - (60 * x3.toInt + x4.toInt) + (60 * x1.toInt + x2.toInt)).toNat := by omega
            rw [en]
          · rw [if_neg cj, if_neg (by omega)]
            exact (t2 F2).2.2 j hj
      · refine kSh1_of hsu ((kVw_eq ((g2.fi _ rfl).trans (g1.fi _ rfl)) ((g2.fi _ rfl).trans (g1.fi _ rfl)) ((g2.fi _ rfl).trans (g1.fi _ rfl)) ((g2.fi _ rfl).trans (g1.fi _ rfl)) ((fq2 u hu).trans (k2 u hu c)))) (by rw [g2.fa _ rfl, ea]) (by rw [g2.fa _ rfl, eb]) (fun j hj => ?_) lnu.2
        rw [K (60 * u + j), if_neg (by omega)]
    · have e1 := c2 (by omega) u hu
      have e2 := d4 (by rw [← e]; omega)
      exact kSh1_of hsu ((kVw_eq ((g2.fi _ rfl).trans (g1.fi _ rfl)) ((g2.fi _ rfl).trans (g1.fi _ rfl)) ((g2.fi _ rfl).trans (g1.fi _ rfl)) ((g2.fi _ rfl).trans (g1.fi _ rfl)) ((fq2 u hu).trans e1))) (by rw [g2.fa _ rfl, ea]) (by rw [g2.fa _ rfl, eb]) (fun j _ => by rw [e2]) lnu.2
  · have v1 := c3 hin
    have w1 := d2 hin
    refine ⟨⟨⟨g2.I, g2.R⟩, hU2, fun u hu => ?_, hB2⟩, kj_v (by omega)⟩
    exact kSh1_of (h.2.2.1 u hu) ((kVw_eq ((g2.fi _ rfl).trans (g1.fi _ rfl)) ((g2.fi _ rfl).trans (g1.fi _ rfl)) ((g2.fi _ rfl).trans (g1.fi _ rfl)) ((g2.fi _ rfl).trans (g1.fi _ rfl)) ((fq2 u hu).trans (c2 (by omega) u hu)))) (by rw [g2.fa _ rfl, ea]) (by rw [g2.fa _ rfl, eb]) (fun j _ => by rw [d4 (by omega)]) (kI_ln h.1.1 u hu).2
theorem st_body {i i1 i2 : Nat → Int32} {a a1 a2 : Nat → List Int32} {q q1 q2 : Nat → List Int64} {r r1 r2 : Nat → Nat} {v w : Int32} {x1 : Int32} (h : kAll i a q r) (g1 : kG xw110_0 i a q r i1 a1 q1 r1) (P1 : (((v.toInt = (-1)) ∧ (¬ (((0 : Int) ≤ x1.toInt) ∧ (x1.toInt ≤ 7))) ∧ ((i1 6017).toInt = (i 6017).toInt)) ∨ (((0 : Int) ≤ x1.toInt) ∧ (x1.toInt ≤ 7) ∧ (((v.toInt = (-3)) ∧ ((50 : Int) ≤ (i 6017).toInt) ∧ ((i1 6017).toInt = (i 6017).toInt)) ∨ (((i 6017).toInt < 50) ∧ (v.toInt = (i 6017).toInt) ∧ ((i1 6017).toInt = ((i 6017).toInt + 1)))))) ∧ ((v.toInt < 0 → a1 95 = a 95) ∧ (0 ≤ v.toInt → a1 95 = (a 95).set (i 6017).toNatClampNeg x1))) (g2 : kG xw214_116 i1 a1 q1 r1 i2 a2 q2 r2) (P2 : (((w.toInt = (-1)) ∧ (¬ (((0 : Int) ≤ x1.toInt) ∧ (x1.toInt ≤ 7))) ∧ ((i2 7455).toInt = (i1 7455).toInt)) ∨ (((0 : Int) ≤ x1.toInt) ∧ (x1.toInt ≤ 7) ∧ (((w.toInt = (-3)) ∧ ((50 : Int) ≤ (i1 7455).toInt) ∧ ((i2 7455).toInt = (i1 7455).toInt)) ∨ (((i1 7455).toInt < 50) ∧ (w.toInt = (i1 7455).toInt) ∧ ((i2 7455).toInt = ((i1 7455).toInt + 1)))))) ∧ ((w.toInt < 0 → a2 134 = a1 134) ∧ (0 ≤ w.toInt → a2 134 = (a1 134).set (i1 7455).toNatClampNeg x1))) : kAll i2 a2 q2 r2 ∧ v = w := by
  obtain ⟨D, o1, o2⟩ := P1
  obtain ⟨D1, p1, p2⟩ := P2
  have e0 := h.2.2.2.1
  have e1 := g1.ti 7455 rfl
  have e2 := g2.ti 6017 rfl
  have b95 := g2.fa 95 rfl
  have b134 := g1.fa 134 rfl
  have e : v = w := kj_v (by omega)
  have hU2 := kU_fr g2 rfl (kU_fr g1 rfl h.2.1)
  have hS2 := kShel_fr g2 g1.I rfl (kShel_fr g1 h.1.1 rfl h.2.2.1)
  refine ⟨⟨⟨g2.I, g2.R⟩, hU2, hS2, by omega, ?_⟩, e⟩
  by_cases hv : v.toInt < 0
  · rw [b95, o1 hv, p1 (e ▸ hv), b134]; exact h.2.2.2.2
  · have ei : (i 6017) = (i1 7455) := kj_v (by omega)
    rw [b95, o2 (by omega), p2 (by rw [← e]; omega), b134, h.2.2.2.2, ei]
end
section
/-! THE FIRST CONTENTS -/
noncomputable def kst_T : List (Nat × Int32) := [(70, 3), (71, 1), (78, 8), (1606, 3), (1607, 1), (1614, 8), (3206, 3), (3207, 1), (3214, 8), (6657, -1), (6785, -1), (6913, -1), (7041, -1), (7169, -1), (7297, -1), (7426, 3), (7427, 1)]
noncomputable def kst_i (k : Nat) : Int32 := match kst_T.find? (fun z => Nat.beq z.1 k) with
  | some z => z.2
  | none => 0
noncomputable def kst_a (p : Nat) : List Int32 := List.replicate (kL p) (bif Nat.beq p 136 then -1 else 0)
noncomputable def kst_q (p : Nat) : List Int64 := List.replicate (kLq p) 0
noncomputable def kst_r (k : Nat) : Nat := match k with
  | 0 => 10
  | 1 => 59
  | _ => 100
theorem kst_eq : mi_G = ks kst_i kst_a kst_q kst_r := mi_eL_ok mi_eE_ok _ _ (by decide +kernel)
theorem kst_R (k : Nat) : kR k = kFull ∨ ∃ z ∈ kT, z.1 = k ∧ kR k = z.2 := by
  cases e : kT.find? (fun z => Nat.beq z.1 k) with
  | none =>
    refine Or.inl ?_
    unfold kR
    rw [e]
  | some z =>
    refine Or.inr ⟨z, List.mem_of_find?_eq_some e, ?_, ?_⟩
    · have hb := List.find?_some e
      exact Nat.eq_of_beq_eq_true hb
    · unfold kR
      rw [e]
theorem kst_t : kT.all (fun z => decide (z.2.1 ≤ (kst_i z.1).toInt ∧ (kst_i z.1).toInt ≤ z.2.2)) = true := by decide +kernel
theorem kst_E (p j : Nat) : (kE p j).1 ≤ 0 ∧ 0 ≤ (kE p j).2 := by
  have hn : ∀ j, (kNow j).1 ≤ 0 ∧ 0 ≤ (kNow j).2 := fun j => by
    unfold kNow
    cases Nat.beq j 18 with
    | true => exact (by decide : (0 : Int) ≤ 0 ∧ (0 : Int) ≤ 5)
    | false => cases Nat.ble 19 j && Nat.ble j 24 with
      | true => exact (by decide : (0 : Int) ≤ 0 ∧ (0 : Int) ≤ 7)
      | false => exact (by decide : (-2147483648 : Int) ≤ 0 ∧ (0 : Int) ≤ 2147483647)
  unfold kE
  split
  all_goals first | exact hn _ | exact ⟨by decide, by decide⟩ | (split <;> exact ⟨by decide, by decide⟩)
theorem kst_g (n j : Nat) (x : Int32) : (List.replicate n x).getD j 0 = x ∨ (List.replicate n x).getD j 0 = 0 := by
  by_cases h : j < n
  · refine Or.inl ?_
    rw [List.getD_eq_getElem?_getD, List.getElem?_replicate, if_pos h]
    rfl
  · refine Or.inr ?_
    rw [List.getD_eq_getElem?_getD, List.getElem?_replicate, if_neg h]
    rfl
theorem kst_g0 (n j : Nat) : (List.replicate n (0 : Int32)).getD j 0 = 0 := by
  rcases kst_g n j 0 with h | h <;> exact h
theorem kst_I : kI kst_i kst_a kst_q := by
  refine ⟨fun k => ?_, fun p => List.length_replicate, fun p j => ?_, fun p => List.length_replicate⟩
  · rcases kst_R k with h | ⟨z, hz, ek, e⟩
    · rw [h]; exact kd_bd _
    · rw [e, ← ek]; exact of_decide_eq_true (List.all_eq_true.mp kst_t z hz)
  · have h := kst_E p j
    by_cases e : p = 136
    · subst e
      rcases kst_g (kL 136) j (-1) with z | z
      · rw [show (kst_a 136).getD j 0 = -1 from z]; exact (by decide : (-1 : Int) ≤ (-1 : Int32).toInt ∧ (-1 : Int32).toInt ≤ 59)
      · rw [show (kst_a 136).getD j 0 = 0 from z]; exact h
    · have ep : kst_a p = List.replicate (kL p) 0 := by
        unfold kst_a
        cases eb : Nat.beq p 136 with
        | true => exact absurd (Nat.eq_of_beq_eq_true eb) e
        | false => rfl
      rw [ep, kst_g0]
      exact h
theorem kst_all : kAll kst_i kst_a kst_q kst_r := by
  refine ⟨⟨kst_I, Or.inl ⟨rfl, rfl⟩, Or.inl rfl⟩, ⟨fun j => ?_, fun j hj => ?_, fun j hj => ?_, by decide +kernel⟩, fun t ht => ?_, by decide +kernel, by rfl⟩
  · refine Or.inl ?_
    rcases kst_g (kL 136) j (-1) with z | z
    · rw [show (kst_a 136).getD j 0 = -1 from z]; decide
    · rw [show (kst_a 136).getD j 0 = 0 from z]; decide
  · have e : (kst_i 7432).toInt = 0 := by decide +kernel
    omega
  · have e : ((kst_a 133).getD (4 * j + 1) 0).toInt = 0 := by
      rw [show (kst_a 133).getD (4 * j + 1) 0 = 0 from kst_g0 (kL 133) _]
      decide
    omega
  · have h1 : ∀ t : Nat, t < 6 → (kst_i (6656 + 128 * t)).toInt = 0 ∧ ((kst_a 136).getD t 0).toInt = -1 := by decide +kernel
    obtain ⟨h0, h2⟩ := h1 t ht
    exact ⟨fun _ => h2, fun z => absurd (h0.symm.trans z) (by decide), fun z => absurd (h0.symm.trans z) (by decide)⟩
end
section
/-! THE CLAIM OUT OF ONE WALK OF THE LAW'S BODY. Your part is whole_start (and what it stands on); all else here is the same for every law, but numbers. -/
noncomputable def R_law : String := "ThirdAfterLaw"
noncomputable def lw_P (b : Addr) (xs : List Int32) (args : Array Value) (s : State) : Prop := args = #[.ref b] ∧ s.IntsAt b xs ∧ xs.length ≤ 3072 ∧ (Jvm.Cond.and given_1 narrow_1).before args s = true
noncomputable def lw_Q (_ : Array Value) (s : State) (o : Outcome) (t : State) : Prop := o = .returned (some (.int 1)) ∧ Framed s o t [] 600000 7302250
noncomputable def lw_Z (below : List Frame) (a : Array Value) (s : State) : State → Prop := fun t => ∃ o, t.status = .running ∧ Ended t below o ∧ lw_Q a s o t
/-- the law's own end, with 1 on the stack, nothing written that was there before, its room as the claim has it -/
theorem lw_ret {p : Program} {l : Launch} {e : Env} {s : State} {m : MethodId} {below : List Frame} {meth : Method} {c : Code} {b : Nat} (hx : p.tables.exec = Jvm.exec) (hb : c.code = code) (hr : meth.sig.returnType = ret) (hlocks : meth.locks = false) {pc : Nat} {H : Heap} {ls : Array Slot} (hdg : decode code pc = .ok (.ireturn, 1)) : W p l e room_1 s m #[Value.ref b] below meth c H [] 600000 7302250 (lw_Z below #[Value.ref b] s) (F0 m pc ls [.int 1]) := by
  intro T hT X
  obtain ⟨fs, hret, hrun, hended, hW, hframe⟩ := X.leave (v := some (.int 1)) (hlocks := hlocks) (fun h => by rw [hr] at h; cases h)
  have hmeth' : T.vm.method? m = some meth := X.method'
  refine ⟨T.setFrames fs, ?_, .returned (some (.int 1)), hrun, hended, rfl, ⟨_, rfl⟩, hW, hframe⟩
  jvm_step X.here [X.here.top, hx, hb, hdg, hmeth', hr, ret, narrow_b1]
  (try refine ⟨rfl, ?_⟩); (try refine ⟨rfl, ?_⟩)
  first | (intro acts; rw [hret _ acts rfl rfl rfl]) | rw [hret _ _ rfl rfl rfl]
  exact Steps.refl _
/-- what holds at the law's entry: the machine, the code, the tables' words (any of lw_tbl by 'hts w (by decide +kernel)'), the script of L ints xs at the cell b, what the Statement gives of the start (any of its parts by flat_of_before) -/
noncomputable def lw_At (p : Program) (s : State) (m : MethodId) (meth : Method) (c : Code) (b L : Nat) (xs : Nat → Int32) : Prop :=
  p.tables.exec = Jvm.exec ∧ c.code = code ∧ meth.sig.returnType = ret ∧ c.maxLocals = 4 ∧ s.vm.findClass R_law = some m.cls ∧ (∀ w ∈ lw_tbl, w.before #[Value.ref b] s = true) ∧ va_X b L xs s s.heap ∧ b < s.heap.size ∧ meth.locks = false ∧ (Jvm.Cond.and given_1 narrow_1).before #[Value.ref b] s = true
end
section
/-! THE MARKET, PURELY: as the reference has it: its 31 numbers N (0..7 purses, 8 the day, 9 how many came, 10..17 how often, 18 how many debts, 19..24 whose, 25..30 how much) -/
noncomputable def sMn (a b : Int32) : Int32 := bif decide (b < a) then b else a
noncomputable def sMx (a b : Int32) : Int32 := bif decide (a < b) then b else a
/-- n debts one place on -/
noncomputable def sSh : Nat → List Int32 → List Int32
  | 0, N => N
  | n + 1, N => (((sSh n N).set (19 + n) ((sSh n N).getD (20 + n) 0)).set (25 + n) (((sSh n N).set (19 + n) ((sSh n N).getD (20 + n) 0)).getD (26 + n) 0))
/-- without the oldest debt -/
noncomputable def sDrop (N : List Int32) : List Int32 := sSh (N.getD 18 0 - 1).toInt.toNat (N.set 18 (N.getD 18 0 - 1))
/-- the coins that the oldest debtor gives -/
noncomputable def sCoin (N : List Int32) : Int32 := sMn (N.getD 25 0) ((sDrop N).getD (N.getD 19 0).toNatClampNeg 0)
/-- the oldest debt is paid to c -/
noncomputable def sGive (c : Int32) (N : List Int32) : List Int32 := ((sDrop N).set (N.getD 19 0).toNatClampNeg ((sDrop N).getD (N.getD 19 0).toNatClampNeg 0 - sCoin N)).set c.toNatClampNeg (sMn 999 (((sDrop N).set (N.getD 19 0).toNatClampNeg ((sDrop N).getD (N.getD 19 0).toNatClampNeg 0 - sCoin N)).getD c.toNatClampNeg 0 + sCoin N))
/-- now, payer, paid, lacking, flows -/
abbrev kSt : Type := List Int32 × Int32 × Int32 × Int32 × List Int32
noncomputable def sPay (c : Int32) (S : kSt) : kSt :=
  if (S.1.getD 19 0).toInt = c.toInt then (sDrop S.1, if S.2.1.toInt = 8 then S.1.getD 19 0 else S.2.1, S.2.2.1, S.2.2.2.1, S.2.2.2.2)
  else (sGive c S.1, if S.2.1.toInt = 8 then S.1.getD 19 0 else S.2.1, S.2.2.1 + sCoin S.1, S.2.2.2.1 + (S.1.getD 25 0 - sCoin S.1), S.2.2.2.2.set (8 * S.1.getD 19 0 + c).toNatClampNeg (S.2.2.2.2.getD (8 * S.1.getD 19 0 + c).toNatClampNeg 0 + sCoin S.1))
/-- debts are paid to c while there are THIRD or more -/
noncomputable def sPaid (t3 c : Int32) : Nat → kSt → kSt
  | 0, S => S
  | n + 1, S => if t3.toInt ≤ (S.1.getD 18 0).toInt then sPaid t3 c n (sPay c S) else S
theorem sSh_zero {z : Int32} (B : List Int32) (h : z.toInt = 0) : B = sSh z.toInt.toNat B := by rw [h]; rfl
theorem sSh_step {M M1 M2 B : List Int32} {x x1 y z u v : Int32} (h : M = sSh x.toInt.toNat B) (h0 : 0 ≤ x.toInt) (hy : y.toInt = 19 + x.toInt) (hz : z.toInt = 20 + x.toInt) (hu : u.toInt = 25 + x.toInt) (hv : v.toInt = 26 + x.toInt) (h1 : x1.toInt = x.toInt + 1) (e1 : M1 = M.set y.toNatClampNeg (M.getD z.toNatClampNeg 0)) (e2 : M2 = M1.set u.toNatClampNeg (M1.getD v.toNatClampNeg 0)) : M2 = sSh x1.toInt.toNat B := by
  have ty := Int32.toNat_toInt y
  have tz := Int32.toNat_toInt z
  have tu := Int32.toNat_toInt u
  have tv := Int32.toNat_toInt v
  rw [show x1.toInt.toNat = x.toInt.toNat + 1 by omega]
  unfold sSh
  rw [← h, e2, e1, show y.toNatClampNeg = 19 + x.toInt.toNat by omega, show z.toNatClampNeg = 20 + x.toInt.toNat by omega, show u.toNatClampNeg = 25 + x.toInt.toNat by omega, show v.toNatClampNeg = 26 + x.toInt.toNat by omega]
theorem sDrop_of {L B N : List Int32} {x d : Int32} (h : L = sSh x.toInt.toNat B) (e : B = N.set (18 : Int32).toNatClampNeg d) (ed : d = N.getD (18 : Int32).toNatClampNeg 0 - 1) (hx : x.toInt = d.toInt) : L = sDrop N := by
  subst e
  subst ed
  rw [h, hx]
  rfl
theorem sPaid_more {t3 c : Int32} {S : kSt} (h0 : 1 ≤ t3.toInt) (h : t3.toInt ≤ (S.1.getD 18 0).toInt) (hd : ((sPay c S).1.getD 18 0).toInt = (S.1.getD 18 0).toInt - 1) : sPaid t3 c (S.1.getD 18 0).toInt.toNat S = sPaid t3 c ((sPay c S).1.getD 18 0).toInt.toNat (sPay c S) := by
  rw [show (S.1.getD 18 0).toInt.toNat = ((sPay c S).1.getD 18 0).toInt.toNat + 1 by omega]
  conv => lhs; unfold sPaid
  rw [if_pos h]
theorem sPaid_done {t3 c : Int32} {S : kSt} {n : Nat} (h : (S.1.getD 18 0).toInt < t3.toInt) : sPaid t3 c n S = S := by
  cases n with
  | zero => rfl
  | succ n =>
    unfold sPaid
    rw [if_neg (by omega)]
/-! the same of a market of the class at the place p: open, who, much, purses, payer, paid, led, rows of flow -/
abbrev kCt : Type := Int32 × List Int32 × List Int32 × List Int32 × Int32 × Int32 × List Int32 × (Nat → List Int32)
noncomputable def cRow (p : Nat) (a : Nat → List Int32) (u : Nat) : List Int32 := bif Nat.blt u 8 then a (p + 15 + u) else []
noncomputable def cT (p : Nat) (i : Nat → Int32) (a : Nat → List Int32) : kCt := (i (64 * (p + 6) + 2), a (p + 7), a (p + 8), a (p + 1), i (64 * p + 14), i (64 * p + 15), a (p + 13), cRow p a)
noncomputable def cCoin (T : kCt) : Int32 := sMn (T.2.2.1.getD 0 0) (T.2.2.2.1.getD (T.2.1.getD 0 0).toNatClampNeg 0)
noncomputable def cRest (T : kCt) : kCt := (T.1 - 1, mi_cpy T.2.1 T.2.1 1 0 (T.1 - 1).toNatClampNeg, mi_cpy T.2.2.1 T.2.2.1 1 0 (T.1 - 1).toNatClampNeg, T.2.2.2.1, (if T.2.2.2.2.1.toInt = 8 then T.2.1.getD 0 0 else T.2.2.2.2.1), T.2.2.2.2.2.1, T.2.2.2.2.2.2.1, T.2.2.2.2.2.2.2)
noncomputable def cGive (c : Int32) (T : kCt) : kCt := (T.1 - 1, mi_cpy T.2.1 T.2.1 1 0 (T.1 - 1).toNatClampNeg, mi_cpy T.2.2.1 T.2.2.1 1 0 (T.1 - 1).toNatClampNeg,
  (T.2.2.2.1.set (T.2.1.getD 0 0).toNatClampNeg (T.2.2.2.1.getD (T.2.1.getD 0 0).toNatClampNeg 0 - cCoin T)).set c.toNatClampNeg (sMn 999 ((T.2.2.2.1.set (T.2.1.getD 0 0).toNatClampNeg (T.2.2.2.1.getD (T.2.1.getD 0 0).toNatClampNeg 0 - cCoin T)).getD c.toNatClampNeg 0 + cCoin T)),
  (if T.2.2.2.2.1.toInt = 8 then T.2.1.getD 0 0 else T.2.2.2.2.1), T.2.2.2.2.2.1 + cCoin T, T.2.2.2.2.2.2.1.set 2 (T.2.2.2.2.2.2.1.getD 2 0 + (T.2.2.1.getD 0 0 - cCoin T)),
  fun u => bif Nat.beq u (T.2.1.getD 0 0).toNatClampNeg then (T.2.2.2.2.2.2.2 u).set c.toNatClampNeg ((T.2.2.2.2.2.2.2 u).getD c.toNatClampNeg 0 + cCoin T) else T.2.2.2.2.2.2.2 u)
noncomputable def cPay (b c : Int32) (T : kCt) : kCt := if (T.2.1.getD 0 0).toInt ≠ c.toInt ∧ 0 ≤ (T.2.1.getD 0 0).toInt ∧ (T.2.1.getD 0 0).toInt < b.toInt then cGive c T else cRest T
/-- at most n debts are paid to c, while there are THIRD or more -/
noncomputable def cPaid (b t3 c : Int32) : Nat → kCt → kCt
  | 0, T => T
  | n + 1, T => if t3.toInt ≤ T.1.toInt then cPaid b t3 c n (cPay b c T) else T
theorem cT_eq {p : Nat} {i : Nat → Int32} {a : Nat → List Int32} {T : kCt} (h1 : i (64 * (p + 6) + 2) = T.1) (h2 : a (p + 7) = T.2.1) (h3 : a (p + 8) = T.2.2.1) (h4 : a (p + 1) = T.2.2.2.1) (h5 : i (64 * p + 14) = T.2.2.2.2.1) (h6 : i (64 * p + 15) = T.2.2.2.2.2.1) (h7 : a (p + 13) = T.2.2.2.2.2.2.1) (hF : ∀ u : Nat, u < 8 → a (p + 15 + u) = T.2.2.2.2.2.2.2 u) (h8 : ∀ u : Nat, 8 ≤ u → T.2.2.2.2.2.2.2 u = []) : cT p i a = T := by
  obtain ⟨t1, t2, t3, t4, t5, t6, t7, t8⟩ := T
  unfold cT
  dsimp only at h1 h2 h3 h4 h5 h6 h7 hF h8
  have e : cRow p a = t8 := by
    funext u
    unfold cRow
    by_cases hu : u < 8
    · rw [Nat.blt_eq.mpr hu]
      exact hF u hu
    · rw [h8 u (by omega)]
      cases eb : Nat.blt u 8 with
      | true => exact absurd (Nat.blt_eq.mp eb) hu
      | false => rfl
  rw [h1, h2, h3, h4, h5, h6, h7, e]
theorem cRow_lt {p u : Nat} {a : Nat → List Int32} (h : u < 8) : cRow p a u = a (p + 15 + u) := by
  unfold cRow
  rw [Nat.blt_eq.mpr h]
  rfl
theorem cRow_ge {p u : Nat} {a : Nat → List Int32} (h : 8 ≤ u) : cRow p a u = [] := by
  unfold cRow
  cases eb : Nat.blt u 8 with
  | true => exact absurd (Nat.blt_eq.mp eb) (by omega)
  | false => rfl
theorem cPaid_more {b t3 c : Int32} {T : kCt} {n : Nat} (h : t3.toInt ≤ T.1.toInt) : cPaid b t3 c (n + 1) T = cPaid b t3 c n (cPay b c T) := by
  conv => lhs; unfold cPaid
  rw [if_pos h]
theorem cPaid_done {b t3 c : Int32} {T : kCt} {n : Nat} (h : T.1.toInt < t3.toInt) : cPaid b t3 c n T = T := by
  cases n with
  | zero => rfl
  | succ n =>
    unfold cPaid
    rw [if_neg (by omega)]
end
section
theorem koa0 : (0 : Int32).toInt = 0 := by decide
theorem koa255 : (255 : Int32).toInt = 255 := by decide
theorem koa1 : (1 : Int32).toInt = 1 := by decide
theorem koa120 : (120 : Int32).toInt = 120 := by decide
theorem koam3 : ((-3) : Int32).toInt = (-3) := by decide
theorem koam1 : ((-1) : Int32).toInt = (-1) := by decide
theorem koa6 : (6 : Int32).toInt = 6 := by decide
theorem koa9 : (9 : Int32).toInt = 9 := by decide
theorem koa2 : (2 : Int32).toInt = 2 := by decide
theorem koa8 : (8 : Int32).toInt = 8 := by decide
theorem oa3 {a0 a1 : Int} (h0 : a0 ≤ a1) (h1 : a0 = 120) : (((120 : Int) ≤ a1) ∧ (a1 = a1) ∧ (a1 = a1)) ∨ ((a1 < 120) ∧ (a1 = (a1 + 1)) ∧ (a1 = (a1 + 1))) := by omega
theorem oa4 {a0 a1 : Int} (h0 : a0 ≤ a1) (h1 : a0 = 120) : ¬ (a1 < 120) := by omega
theorem oa5 {a0 : Int} (h0 : (0 : Int) ≤ a0) : (0 : Int) ≤ a0 := oz3 h0
theorem oa6 {a0 a1 : Int} (h0 : a0 < a1) (h1 : a1 = 120) : a0 < 120 := oz986 h0 h1
theorem oa7 {a0 a1 : Int} (h0 : (0 : Int) ≤ a0) (h1 : a1 = 1) : (-2147483648 : Int) ≤ a0 + a1 := oz12 h0 h1
theorem oa8 {a0 a1 : Int} (h0 : a0 ≤ 120) (h1 : a1 = 1) : a0 + a1 ≤ 2147483647 := oz192 h0 h1
theorem oa9 {a0 a1 a2 : Int} (h0 : (0 : Int) ≤ a0) (h1 : a1 = a0 + a2) (h2 : a2 = 1) : (0 : Int) ≤ a1 := oz14 h0 h1 h2
theorem oa10 {a0 a1 a2 a3 : Int} (h0 : a0 < a1) (h1 : a2 = a0 + a3) (h2 : a1 = 120) (h3 : a3 = 1) : a2 ≤ 120 := oz987 h0 h1 h2 h3
theorem oa11 {a0 a1 a2 a3 : Int} (h0 : a0 < a1) (h1 : a2 = a0 + a3) (h2 : a1 = 120) (h3 : a3 = 1) : (((120 : Int) ≤ a0) ∧ (a2 = a0) ∧ (a2 = a0)) ∨ ((a0 < 120) ∧ (a2 = (a0 + 1)) ∧ (a2 = (a0 + 1))) := by omega
theorem oa12 {a0 a1 : Int} (h0 : a0 < a1) (h1 : a1 = 120) : ¬ ((120 : Int) ≤ a0) := by omega
theorem oa13 {a0 a1 a2 a3 a4 a5 a6 : Int} (h0 : a0 < a1) (h1 : a2 ≤ a3) (h2 : a3 ≤ a4) (h3 : (((120 : Int) ≤ a0) ∧ (a5 = a0) ∧ (a6 = a0)) ∨ ((a0 < 120) ∧ (a5 = (a0 + 1)) ∧ (a6 = (a0 + 1)))) (h4 : a1 = 120) (h5 : a2 = 0) (h6 : a4 = 255) : ((a5 = (-1)) ∧ (¬ (((0 : Int) ≤ a3) ∧ (a3 ≤ 255))) ∧ (a6 = a0)) ∨ (((0 : Int) ≤ a3) ∧ (a3 ≤ 255) ∧ (((a5 = (-3)) ∧ ((120 : Int) ≤ a0) ∧ (a6 = a0)) ∨ ((a0 < 120) ∧ (a5 = (a0 + 1)) ∧ (a6 = (a0 + 1))))) := by omega
theorem oa14 {a0 a1 a2 a3 a4 : Int} (h0 : a0 < a1) (h1 : a2 ≤ a3) (h2 : a3 ≤ a4) (h3 : a1 = 120) (h4 : a2 = 0) (h5 : a4 = 255) : ¬ (¬ (((0 : Int) ≤ a3) ∧ (a3 ≤ 255) ∧ (a0 < 120))) := by omega
theorem oa15 {a0 a1 a2 a3 a4 a5 : Int} (h0 : a0 ≤ a1) (h1 : a2 ≤ a3) (h2 : a3 ≤ a4) (h3 : a0 = 120) (h4 : a2 = 0) (h5 : a4 = 255) (h6 : a5 = (-3)) : ((a5 = (-1)) ∧ (¬ (((0 : Int) ≤ a3) ∧ (a3 ≤ 255))) ∧ (a1 = a1)) ∨ (((0 : Int) ≤ a3) ∧ (a3 ≤ 255) ∧ (((a5 = (-3)) ∧ ((120 : Int) ≤ a1) ∧ (a1 = a1)) ∨ ((a1 < 120) ∧ (a5 = (a1 + 1)) ∧ (a1 = (a1 + 1))))) := by omega
theorem oa16 {a0 a1 a2 : Int} (h0 : a0 ≤ a1) (h1 : a0 = 120) : ¬ (((0 : Int) ≤ a2) ∧ (a2 ≤ 255) ∧ (a1 < 120)) := by omega
theorem oa17 {a0 a1 a2 a3 a4 : Int} (h0 : ¬ ((a0 ≤ a1) ∧ (a1 ≤ a2))) (h1 : a0 = 0) (h2 : a2 = 255) (h3 : a3 = (-1)) : ((a3 = (-1)) ∧ (¬ (((0 : Int) ≤ a1) ∧ (a1 ≤ 255))) ∧ (a4 = a4)) ∨ (((0 : Int) ≤ a1) ∧ (a1 ≤ 255) ∧ (((a3 = (-3)) ∧ ((120 : Int) ≤ a4) ∧ (a4 = a4)) ∨ ((a4 < 120) ∧ (a3 = (a4 + 1)) ∧ (a4 = (a4 + 1))))) := by omega
theorem oa18 {a0 a1 a2 a3 : Int} (h0 : ¬ ((a0 ≤ a1) ∧ (a1 ≤ a2))) (h1 : a0 = 0) (h2 : a2 = 255) : ¬ (((0 : Int) ≤ a1) ∧ (a1 ≤ 255) ∧ (a3 < 120)) := by omega
theorem oa19 {a0 a1 a2 a3 : Int} (h0 : a0 ≠ a1) (h1 : a0 ≤ 120) (h2 : a2 = a0 + a3) (h3 : a1 = 120) (h4 : a3 = 1) : a2 ≤ 120 := oz193 h0 h1 h2 h3 h4
theorem oa20 {a0 a1 : Int} (h0 : a0 ≠ a1) (h1 : a0 ≤ 120) (h2 : a1 = 120) : a0 < 120 := oz194 h0 h1 h2
theorem oa21 {a0 a1 a2 a3 a4 a5 a6 : Int} (h0 : a0 ≠ a1) (h1 : a0 ≤ 120) (h2 : a2 = a0 + a3) (h3 : a4 ≤ a5) (h4 : a5 ≤ a6) (h5 : a1 = 120) (h6 : a3 = 1) (h7 : a4 = 0) (h8 : a6 = 255) : ((a2 = (-1)) ∧ (¬ (((0 : Int) ≤ a5) ∧ (a5 ≤ 255))) ∧ (a2 = a0)) ∨ (((0 : Int) ≤ a5) ∧ (a5 ≤ 255) ∧ (((a2 = (-3)) ∧ ((120 : Int) ≤ a0) ∧ (a2 = a0)) ∨ ((a0 < 120) ∧ (a2 = (a0 + 1)) ∧ (a2 = (a0 + 1))))) := by omega
theorem oa22 {a0 a1 a2 a3 a4 : Int} (h0 : a0 ≠ a1) (h1 : a0 ≤ 120) (h2 : a2 ≤ a3) (h3 : a3 ≤ a4) (h4 : a1 = 120) (h5 : a2 = 0) (h6 : a4 = 255) : ¬ (¬ (((0 : Int) ≤ a3) ∧ (a3 ≤ 255) ∧ (a0 < 120))) := by omega
theorem oa23 {a0 a1 a2 a3 a4 a5 : Int} (h0 : a0 = a1) (h1 : a2 ≤ a3) (h2 : a3 ≤ a4) (h3 : a1 = 120) (h4 : a2 = 0) (h5 : a4 = 255) (h6 : a5 = (-3)) : ((a5 = (-1)) ∧ (¬ (((0 : Int) ≤ a3) ∧ (a3 ≤ 255))) ∧ (a0 = a0)) ∨ (((0 : Int) ≤ a3) ∧ (a3 ≤ 255) ∧ (((a5 = (-3)) ∧ ((120 : Int) ≤ a0) ∧ (a0 = a0)) ∨ ((a0 < 120) ∧ (a5 = (a0 + 1)) ∧ (a0 = (a0 + 1))))) := by omega
theorem oa24 {a0 a1 a2 : Int} (h0 : a0 = a1) (h1 : a1 = 120) : ¬ (((0 : Int) ≤ a2) ∧ (a2 ≤ 255) ∧ (a0 < 120)) := by omega
theorem oa27 {a0 a1 a2 : Int} (h0 : a0 ≤ a1) (h1 : a1 ≤ a2) (h2 : a0 = 0) (h3 : a2 = 9) : ((0 : Int) ≤ a1) ∧ (a1 ≤ 9) := by omega
theorem oa28 {a0 a1 a2 : Int} (h0 : ¬ ((a0 ≤ a1) ∧ (a1 ≤ a2))) (h1 : a0 = 0) (h2 : a2 = 9) : ¬ (((0 : Int) ≤ a1) ∧ (a1 ≤ 9)) := by omega
theorem oa29 {a0 a1 a2 : Int} (h0 : ¬ ((a0 ≤ a1) ∧ (a1 ≤ a2))) (h1 : a0 = 0) (h2 : a1 = 1) (h3 : a2 = 6) : False := by omega
theorem oa32 {a0 a1 a2 : Int} (h0 : ¬ ((a0 ≤ a1) ∧ (a1 ≤ a2))) (h1 : a0 = 0) (h2 : a1 = 2) (h3 : a2 = 6) : False := by omega
theorem oa33 {a0 a1 : Int} (h0 : a0 < a1) (h1 : a1 = 8) : a0 < 8 := oz936 h0 h1
theorem oa34 {a0 a1 : Int} (h0 : a0 ≤ 8) (h1 : a1 = 1) : a0 + a1 ≤ 2147483647 := oz13 h0 h1
theorem oa35 {a0 a1 a2 a3 : Int} (h0 : a0 < a1) (h1 : a2 = a0 + a3) (h2 : a1 = 8) (h3 : a3 = 1) : a2 ≤ 8 := oz937 h0 h1 h2 h3
theorem oa36 {a0 a1 a2 : Int} (h0 : (0 : Int) ≤ a0) (h1 : a1 = a0 + a2) (h2 : a2 = 1) : (-2147483648 : Int) ≤ a1 - a2 := oz915 h0 h1 h2
theorem oa37 {a0 a1 a2 : Int} (h0 : a0 ≤ 8) (h1 : a1 = a0 + a2) (h2 : a2 = 1) : a1 - a2 ≤ 2147483647 := oz938 h0 h1 h2
theorem oa38 {a0 a1 a2 a3 a4 : Int} (h0 : a0 < a1) (h1 : a2 = a0 + a3) (h2 : a4 = a2 - a3) (h3 : a1 = 8) (h4 : a3 = 1) : (((8 : Int) ≤ a0) ∧ (a4 = (-3)) ∧ (a2 = a0)) ∨ ((a0 < 8) ∧ (a4 = a0) ∧ (a2 = (a0 + 1))) := by omega
theorem oa39 {a0 a1 a2 : Int} (h0 : a0 ≤ a1) (h1 : a0 = 8) (h2 : a2 = (-3)) : (((8 : Int) ≤ a1) ∧ (a2 = (-3)) ∧ (a1 = a1)) ∨ ((a1 < 8) ∧ (a2 = a1) ∧ (a1 = (a1 + 1))) := by omega
theorem oa40 {a0 a1 : Int} (h0 : a0 ≤ a1) (h1 : a0 = 8) : ¬ (a1 < 8) := by omega
theorem oa41 {a0 a1 a2 a3 a4 a5 : Int} (h0 : a0 < a1) (h1 : (0 : Int) ≤ a2) (h2 : a2 ≤ 9) (h3 : (0 : Int) ≤ a3) (h4 : a3 ≤ 9) (h5 : (((8 : Int) ≤ a0) ∧ (a4 = (-3)) ∧ (a5 = a0)) ∨ ((a0 < 8) ∧ (a4 = a0) ∧ (a5 = (a0 + 1)))) (h6 : a1 = 8) : ((a4 = (-1)) ∧ (¬ (((0 : Int) ≤ a2) ∧ (a2 ≤ 9) ∧ ((0 : Int) ≤ a3) ∧ (a3 ≤ 9))) ∧ (a5 = a0)) ∨ (((0 : Int) ≤ a2) ∧ (a2 ≤ 9) ∧ ((0 : Int) ≤ a3) ∧ (a3 ≤ 9) ∧ (((a4 = (-3)) ∧ ((8 : Int) ≤ a0) ∧ (a5 = a0)) ∨ ((a0 < 8) ∧ (a4 = a0) ∧ (a5 = (a0 + 1))))) := by omega
theorem oa42 {a0 a1 a2 a3 : Int} (h0 : a0 < a1) (h1 : (0 : Int) ≤ a2) (h2 : a2 ≤ 9) (h3 : (0 : Int) ≤ a3) (h4 : a3 ≤ 9) (h5 : a1 = 8) : ¬ (¬ (((0 : Int) ≤ a2) ∧ (a2 ≤ 9) ∧ ((0 : Int) ≤ a3) ∧ (a3 ≤ 9) ∧ (a0 < 8))) := by omega
theorem oa43 {a0 a1 a2 a3 a4 : Int} (h0 : a0 ≤ a1) (h1 : (0 : Int) ≤ a2) (h2 : a2 ≤ 9) (h3 : (0 : Int) ≤ a3) (h4 : a3 ≤ 9) (h5 : a0 = 8) (h6 : a4 = (-3)) : ((a4 = (-1)) ∧ (¬ (((0 : Int) ≤ a2) ∧ (a2 ≤ 9) ∧ ((0 : Int) ≤ a3) ∧ (a3 ≤ 9))) ∧ (a1 = a1)) ∨ (((0 : Int) ≤ a2) ∧ (a2 ≤ 9) ∧ ((0 : Int) ≤ a3) ∧ (a3 ≤ 9) ∧ (((a4 = (-3)) ∧ ((8 : Int) ≤ a1) ∧ (a1 = a1)) ∨ ((a1 < 8) ∧ (a4 = a1) ∧ (a1 = (a1 + 1))))) := by omega
theorem oa44 {a0 a1 a2 a3 : Int} (h0 : a0 ≤ a1) (h1 : a0 = 8) : ¬ (((0 : Int) ≤ a2) ∧ (a2 ≤ 9) ∧ ((0 : Int) ≤ a3) ∧ (a3 ≤ 9) ∧ (a1 < 8)) := by omega
theorem oa45 {a0 a1 a2 a3 : Int} (h0 : ¬ (((0 : Int) ≤ a0) ∧ (a0 ≤ 9))) (h1 : a1 = (-1)) : ((a1 = (-1)) ∧ (¬ (((0 : Int) ≤ a2) ∧ (a2 ≤ 9) ∧ ((0 : Int) ≤ a0) ∧ (a0 ≤ 9))) ∧ (a3 = a3)) ∨ (((0 : Int) ≤ a2) ∧ (a2 ≤ 9) ∧ ((0 : Int) ≤ a0) ∧ (a0 ≤ 9) ∧ (((a1 = (-3)) ∧ ((8 : Int) ≤ a3) ∧ (a3 = a3)) ∨ ((a3 < 8) ∧ (a1 = a3) ∧ (a3 = (a3 + 1))))) := by omega
theorem oa46 {a0 a1 a2 : Int} (h0 : ¬ (((0 : Int) ≤ a0) ∧ (a0 ≤ 9))) : ¬ (((0 : Int) ≤ a1) ∧ (a1 ≤ 9) ∧ ((0 : Int) ≤ a0) ∧ (a0 ≤ 9) ∧ (a2 < 8)) := by omega
theorem oa47 {a0 a1 a2 a3 : Int} (h0 : ¬ (((0 : Int) ≤ a0) ∧ (a0 ≤ 9))) (h1 : a1 = (-1)) : ((a1 = (-1)) ∧ (¬ (((0 : Int) ≤ a0) ∧ (a0 ≤ 9) ∧ ((0 : Int) ≤ a2) ∧ (a2 ≤ 9))) ∧ (a3 = a3)) ∨ (((0 : Int) ≤ a0) ∧ (a0 ≤ 9) ∧ ((0 : Int) ≤ a2) ∧ (a2 ≤ 9) ∧ (((a1 = (-3)) ∧ ((8 : Int) ≤ a3) ∧ (a3 = a3)) ∨ ((a3 < 8) ∧ (a1 = a3) ∧ (a3 = (a3 + 1))))) := by omega
theorem oa48 {a0 a1 a2 : Int} (h0 : ¬ (((0 : Int) ≤ a0) ∧ (a0 ≤ 9))) : ¬ (((0 : Int) ≤ a0) ∧ (a0 ≤ 9) ∧ ((0 : Int) ≤ a1) ∧ (a1 ≤ 9) ∧ (a2 < 8)) := by omega
theorem oa49 {a0 : Int} (h0 : a0 ≤ 8) : a0 < 31 := oz4 h0
theorem oa50 {a0 a1 : Int} (h0 : a0 ≤ 8) : a0 = 18 → (0 : Int) ≤ a1 ∧ a1 ≤ 5 := oz5 h0
theorem oa51 {a0 a1 : Int} (h0 : a0 ≤ 8) : 19 ≤ a0 → a0 ≤ 24 → (0 : Int) ≤ a1 ∧ a1 ≤ 7 := oz6 h0
theorem oa52 {a0 : Int} (h0 : a0 ≤ 8) : a0 < 24 := oz7 h0
theorem oa53 {a0 a1 : Int} (h0 : (0 : Int) ≤ a0) (h1 : a1 = 8) : (-2147483648 : Int) ≤ a1 + a0 := oz8 h0 h1
theorem oa54 {a0 a1 : Int} (h0 : a0 ≤ 8) (h1 : a1 = 8) : a1 + a0 ≤ 2147483647 := oz9 h0 h1
theorem oa55 {a0 a1 a2 : Int} (h0 : (0 : Int) ≤ a0) (h1 : a1 = a2 + a0) (h2 : a2 = 8) : (0 : Int) ≤ a1 := oz10 h0 h1 h2
theorem oa56 {a0 a1 a2 : Int} (h0 : a0 ≤ 8) (h1 : a1 = a2 + a0) (h2 : a2 = 8) : a1 < 24 := oz11 h0 h1 h2
theorem oa57 {a0 a1 a2 : Int} (h0 : a0 ≤ 7) (h1 : a1 = a0 + a2) (h2 : a2 = 1) : a1 ≤ 8 := oz15 h0 h1 h2
theorem oa58 {a0 a1 a2 : Int} (h0 : a0 = a1 + a2) (h1 : a2 = 1) : (a1 = a1) ∧ (a0 = (a1 + 1)) := by omega
theorem oa59 {a0 a1 : Int} (h0 : a0 ≠ a1) (h1 : a0 ≤ 8) (h2 : a1 = 8) : a0 ≤ 7 := oz16 h0 h1 h2
theorem oa60 {a0 a1 a2 a3 a4 a5 a6 : Int} (h0 : a0 ≤ 8) (h1 : a1 ≤ a2) (h2 : a2 ≤ a3) (h3 : a1 ≤ a4) (h4 : a4 ≤ a3) (h5 : a5 = a6) (h6 : a0 = (a6 + 1)) (h7 : a1 = 0) (h8 : a3 = 9) : ((a5 = (-1)) ∧ (¬ (((0 : Int) ≤ a2) ∧ (a2 ≤ 9) ∧ ((0 : Int) ≤ a4) ∧ (a4 ≤ 9))) ∧ (a0 = a6)) ∨ (((0 : Int) ≤ a2) ∧ (a2 ≤ 9) ∧ ((0 : Int) ≤ a4) ∧ (a4 ≤ 9) ∧ (((a5 = (-3)) ∧ ((8 : Int) ≤ a6) ∧ (a0 = a6)) ∨ ((a6 < 8) ∧ (a5 = a6) ∧ (a0 = (a6 + 1))))) := by omega
theorem oa61 {a0 a1 a2 a3 a4 a5 : Int} (h0 : a0 ≤ 8) (h1 : a1 ≤ a2) (h2 : a2 ≤ a3) (h3 : a1 ≤ a4) (h4 : a4 ≤ a3) (h5 : a0 = (a5 + 1)) (h6 : a1 = 0) (h7 : a3 = 9) : ¬ (¬ (((0 : Int) ≤ a2) ∧ (a2 ≤ 9) ∧ ((0 : Int) ≤ a4) ∧ (a4 ≤ 9) ∧ (a5 < 8))) := by omega
theorem oa62 {a0 a1 a2 a3 a4 a5 a6 : Int} (h0 : a0 = a1) (h1 : a2 ≤ a3) (h2 : a3 ≤ a4) (h3 : a2 ≤ a5) (h4 : a5 ≤ a4) (h5 : a1 = 8) (h6 : a2 = 0) (h7 : a4 = 9) (h8 : a6 = (-3)) : ((a6 = (-1)) ∧ (¬ (((0 : Int) ≤ a3) ∧ (a3 ≤ 9) ∧ ((0 : Int) ≤ a5) ∧ (a5 ≤ 9))) ∧ (a0 = a0)) ∨ (((0 : Int) ≤ a3) ∧ (a3 ≤ 9) ∧ ((0 : Int) ≤ a5) ∧ (a5 ≤ 9) ∧ (((a6 = (-3)) ∧ ((8 : Int) ≤ a0) ∧ (a0 = a0)) ∨ ((a0 < 8) ∧ (a6 = a0) ∧ (a0 = (a0 + 1))))) := by omega
theorem oa63 {a0 a1 a2 a3 : Int} (h0 : a0 = a1) (h1 : a1 = 8) : ¬ (((0 : Int) ≤ a2) ∧ (a2 ≤ 9) ∧ ((0 : Int) ≤ a3) ∧ (a3 ≤ 9) ∧ (a0 < 8)) := by omega
theorem oa64 {a0 a1 a2 a3 a4 a5 : Int} (h0 : ¬ ((a0 ≤ a1) ∧ (a1 ≤ a2))) (h1 : a0 = 0) (h2 : a2 = 9) (h3 : a3 = (-1)) : ((a3 = (-1)) ∧ (¬ (((0 : Int) ≤ a4) ∧ (a4 ≤ 9) ∧ ((0 : Int) ≤ a1) ∧ (a1 ≤ 9))) ∧ (a5 = a5)) ∨ (((0 : Int) ≤ a4) ∧ (a4 ≤ 9) ∧ ((0 : Int) ≤ a1) ∧ (a1 ≤ 9) ∧ (((a3 = (-3)) ∧ ((8 : Int) ≤ a5) ∧ (a5 = a5)) ∨ ((a5 < 8) ∧ (a3 = a5) ∧ (a5 = (a5 + 1))))) := by omega
theorem oa65 {a0 a1 a2 a3 a4 : Int} (h0 : ¬ ((a0 ≤ a1) ∧ (a1 ≤ a2))) (h1 : a0 = 0) (h2 : a2 = 9) : ¬ (((0 : Int) ≤ a3) ∧ (a3 ≤ 9) ∧ ((0 : Int) ≤ a1) ∧ (a1 ≤ 9) ∧ (a4 < 8)) := by omega
theorem oa66 {a0 a1 a2 a3 a4 a5 : Int} (h0 : ¬ ((a0 ≤ a1) ∧ (a1 ≤ a2))) (h1 : a0 = 0) (h2 : a2 = 9) (h3 : a3 = (-1)) : ((a3 = (-1)) ∧ (¬ (((0 : Int) ≤ a1) ∧ (a1 ≤ 9) ∧ ((0 : Int) ≤ a4) ∧ (a4 ≤ 9))) ∧ (a5 = a5)) ∨ (((0 : Int) ≤ a1) ∧ (a1 ≤ 9) ∧ ((0 : Int) ≤ a4) ∧ (a4 ≤ 9) ∧ (((a3 = (-3)) ∧ ((8 : Int) ≤ a5) ∧ (a5 = a5)) ∨ ((a5 < 8) ∧ (a3 = a5) ∧ (a5 = (a5 + 1))))) := by omega
theorem oa67 {a0 a1 a2 a3 a4 : Int} (h0 : ¬ ((a0 ≤ a1) ∧ (a1 ≤ a2))) (h1 : a0 = 0) (h2 : a2 = 9) : ¬ (((0 : Int) ≤ a1) ∧ (a1 ≤ 9) ∧ ((0 : Int) ≤ a3) ∧ (a3 ≤ 9) ∧ (a4 < 8)) := by omega
noncomputable def yw42_98 : kW := ([6273], [99], [], [])
set_option maxRecDepth 100000 in
theorem ke42_98 {i : Nat → Int32} {a : Nat → List Int32} {q : Nat → List Int64} {r : Nat → Nat} (hI : kI i a q) (hr : kr r) (x1 : Int32) : km 1 42 [.ref 98, .int x1] (ks i a q r) (kVI yw42_98 i a q r (fun v i1 a1 q1 r1 => ((((120 : Int) ≤ (i 6273).toInt) ∧ (v.toInt = (i 6273).toInt) ∧ ((i1 6273).toInt = (i 6273).toInt)) ∨ (((i 6273).toInt < 120) ∧ (v.toInt = ((i 6273).toInt + 1)) ∧ ((i1 6273).toInt = ((i 6273).toInt + 1)))) ∧ (((i 6273).toInt < 120 → a1 99 = (a 99).set (i 6273).toNatClampNeg x1) ∧ ((120 : Int) ≤ (i 6273).toInt → a1 99 = a 99)))) := by
  have hG := kG_self yw42_98 hI hr
  refine km_ofI (q := (mi_h42, mi_c42)) rfl (by decide) (Nat.le_of_ble_eq_true rfl) ?_
  intro P hP
  have fi_6273 : ((0 : Int) ≤ (i 6273).toInt) ∧ ((i 6273).toInt ≤ 120) := hG.I.1 6273
  refine ft_goL mi_k42 3 6 [(0, .ref 98), (1, .int x1)] [.int 120, .int (i 6273)] (by rfl) ?_
  refine ft_ifS mi_k42 (decide (120 ≤ (i 6273))) 29 9 [] (by rfl) (fun c => ?_) (fun c => ?_)
  ·
    have c1 : (120 : Int32).toInt ≤ (i 6273).toInt := kd_le c; clear c
    refine ft_goS mi_k42 2 33 [.int (i 6273)] (by rfl) ?_
    exact ft_ret mi_k42 (by rfl) (hP (i 6273) _ _ _ _ hG ⟨(oa3 c1 koa120), ⟨(fun h => absurd h (oa4 c1 koa120)), (fun _ => (show a 99 = a 99 from rfl))⟩⟩)
  ·
    have c2 : (i 6273).toInt < (120 : Int32).toInt := kd_leF c; clear c
    refine fo_goS mi_k42 fz42_9_5_18 [.int x1, .int (i 6273), .ref 99] rfl ?_
    refine ko_iast3 mi_k42.1 (n := 120) (c := 120) (ax := (0, 0, 0, 0, 0)) (mi_k42.2 _ _ (by rfl)) (by rfl) (ksG99 _ _ _ _) (ksA99 _ _ _ _) (hG.I.2.1 99) rfl (oa5 fi_6273.1) (oa6 c2 koa120) ?_
    intro a3 ea3 fa3
    have hJ3 := kG_a3 hG 99 rfl ea3 fa3 (kd_bd _)
    have s4 : ((i 6273) + 1).toInt = (i 6273).toInt + (1 : Int32).toInt := kd_add (oa7 fi_6273.1 koa1) (oa8 fi_6273.2 koa1)
    have hJ5 := kG_i hJ3 6273 rfl (v := ((i 6273) + 1)) ⟨(oa9 fi_6273.1 s4 koa1), (oa10 c2 s4 koa120 koa1)⟩
    first | refine fo_goI mi_k42 fz42_19_8_33 [.int ((i 6273) + 1)] (ku i 6273 ((i 6273) + 1)) (by rfl) ?_ | refine ft_go mi_k42 8 33 [(0, .ref 98), (1, .int x1)] [.int ((i 6273) + 1)] (ku i 6273 ((i 6273) + 1)) a3 q r (by rfl) ?_
    exact ft_ret mi_k42 (by rfl) (hP ((i 6273) + 1) _ _ _ _ hJ5 ⟨(oa11 c2 s4 koa120 koa1), ⟨(fun _ => (show a3 99 = (a 99).set (i 6273).toNatClampNeg x1 from (by first | rfl | (simp only [ea3, sMn, sMx]; done) | (simp only [ea3, sMn, sMx]; rfl)))), (fun h => absurd h (oa12 c2 koa120))⟩⟩)
noncomputable def yw85_0 : kW := ([6273], [99], [], [])
set_option maxRecDepth 100000 in
theorem ke85_0 {i : Nat → Int32} {a : Nat → List Int32} {q : Nat → List Int64} {r : Nat → Nat} (hI : kI i a q) (hr : kr r) (x1 : Int32) : km 3 85 [.ref 0, .int x1] (ks i a q r) (kVI yw85_0 i a q r (fun v i1 a1 q1 r1 => (((v.toInt = (-1)) ∧ (¬ (((0 : Int) ≤ x1.toInt) ∧ (x1.toInt ≤ 255))) ∧ ((i1 6273).toInt = (i 6273).toInt)) ∨ (((0 : Int) ≤ x1.toInt) ∧ (x1.toInt ≤ 255) ∧ (((v.toInt = (-3)) ∧ ((120 : Int) ≤ (i 6273).toInt) ∧ ((i1 6273).toInt = (i 6273).toInt)) ∨ (((i 6273).toInt < 120) ∧ (v.toInt = ((i 6273).toInt + 1)) ∧ ((i1 6273).toInt = ((i 6273).toInt + 1)))))) ∧ ((((0 : Int) ≤ x1.toInt) ∧ (x1.toInt ≤ 255) ∧ ((i 6273).toInt < 120) → a1 99 = (a 99).set (i 6273).toNatClampNeg x1) ∧ (¬ (((0 : Int) ≤ x1.toInt) ∧ (x1.toInt ≤ 255) ∧ ((i 6273).toInt < 120)) → a1 99 = a 99)))) := by
  have hG := kG_self yw85_0 hI hr
  refine km_ofI (q := (mi_h85, mi_c85)) rfl (by decide) (Nat.le_of_ble_eq_true rfl) ?_
  intro P hP
  refine ft_goL mi_k85 3 5 [(0, .ref 0), (1, .int x1)] [.int 255, .int 0, .int x1] (by rfl) ?_
  refine ko_callPI mi_k85.1 (pc := 5) (ls := [(0, .ref 0), (1, .int x1)]) (st := [.int 255, .int 0, .int x1]) (h := ks i a q r) (i := (.invokestatic 74, 3, 120, 0, 9, 0, 152)) (mi_k85.2 _ _ (by rfl)) (ft_invS mi_pq120 (by rfl)) (cy := mi_c120) mi_pq120 rfl (kc120 hG.I hG.R x1 0 255) (by decide) ?_
  intro vg1 hg1
  rcases hg1 with ⟨eg1, hg1⟩ | ⟨eg1, hg1⟩
  ·
    subst eg1
    have z2 : ((0 : Int32).toInt ≤ x1.toInt) ∧ (x1.toInt ≤ (255 : Int32).toInt) := hg1
    refine fo_goS mi_k85 fz85_8_5_22 [.int 120, .int (i 6273)] rfl ?_
    refine ft_ifS mi_k85 (decide ((i 6273) < 120)) 30 25 [] (by rfl) (fun c => ?_) (fun c => ?_)
    ·
      have c3 : (i 6273).toInt < (120 : Int32).toInt := kd_lt c; clear c
      refine ft_goS mi_k85 3 35 [.int x1, .ref 98] (by rfl) ?_
      refine ko_callI mi_k85.1 (pc := 35) (ls := [(0, .ref 0), (1, .int x1)]) (st := [.int x1, .ref 98]) (h := ks i a q r) (i := (.invokevirtual 110, 3, 42, 0, 9, 0, 173)) (mi_k85.2 _ _ (by rfl)) (ft_invS mi_pq42 (by rfl)) (cy := mi_c42) mi_pq42 rfl (ke42_98 hG.I hG.R x1) (by decide) ?_
      intro vg4 ig4 ag4 qg4 rg4 kg4 hg4
      have hGg4 := kG_call hG kg4 (by decide +kernel)
      obtain ⟨hg4, og4⟩ := hg4
      have z5 : (((120 : Int) ≤ (i 6273).toInt) ∧ (vg4.toInt = (i 6273).toInt) ∧ ((ig4 6273).toInt = (i 6273).toInt)) ∨ (((i 6273).toInt < 120) ∧ (vg4.toInt = ((i 6273).toInt + 1)) ∧ ((ig4 6273).toInt = ((i 6273).toInt + 1))) := hg4
      have q6 : ag4 99 = (a 99).set (i 6273).toNatClampNeg x1 := og4.1 (oa6 c3 koa120)
      exact ft_ret mi_k85 (by rfl) (hP vg4 _ _ _ _ hGg4 ⟨(oa13 c3 z2.1 z2.2 z5 koa120 koa0 koa255), ⟨(fun _ => (show ag4 99 = (a 99).set (i 6273).toNatClampNeg x1 from (by first | rfl | (simp only [q6, sMn, sMx]; done) | (simp only [q6, sMn, sMx]; rfl)))), (fun h => absurd h (oa14 c3 z2.1 z2.2 koa120 koa0 koa255))⟩⟩)
    ·
      have c7 : (120 : Int32).toInt ≤ (i 6273).toInt := kd_ltF c; clear c
      first | refine ft_goS mi_k85 2 38 [.int (-3)] (by rfl) ?_
      exact ft_ret mi_k85 (by rfl) (hP (-3) _ _ _ _ hG ⟨(oa15 c7 z2.1 z2.2 koa120 koa0 koa255 koam3), ⟨(fun h => absurd h (oa16 c7 koa120)), (fun _ => (show a 99 = a 99 from rfl))⟩⟩)
  ·
    subst eg1
    have z8 : ¬ (((0 : Int32).toInt ≤ x1.toInt) ∧ (x1.toInt ≤ (255 : Int32).toInt)) := hg1
    refine ft_goS mi_k85 2 12 [.int (-1)] (by rfl) ?_
    exact ft_ret mi_k85 (by rfl) (hP (-1) _ _ _ _ hG ⟨(oa17 z8 koa0 koa255 koam1), ⟨(fun h => absurd h (oa18 z8 koa0 koa255)), (fun _ => (show a 99 = a 99 from rfl))⟩⟩)
noncomputable def yw146_116 : kW := ([7429], [119], [], [])
set_option maxRecDepth 100000 in
theorem ke146_116 {i : Nat → Int32} {a : Nat → List Int32} {q : Nat → List Int64} {r : Nat → Nat} (hI : kI i a q) (hr : kr r) (x1 : Int32) : km 3 146 [.ref 116, .int x1] (ks i a q r) (kVI yw146_116 i a q r (fun v i1 a1 q1 r1 => (((v.toInt = (-1)) ∧ (¬ (((0 : Int) ≤ x1.toInt) ∧ (x1.toInt ≤ 255))) ∧ ((i1 7429).toInt = (i 7429).toInt)) ∨ (((0 : Int) ≤ x1.toInt) ∧ (x1.toInt ≤ 255) ∧ (((v.toInt = (-3)) ∧ ((120 : Int) ≤ (i 7429).toInt) ∧ ((i1 7429).toInt = (i 7429).toInt)) ∨ (((i 7429).toInt < 120) ∧ (v.toInt = ((i 7429).toInt + 1)) ∧ ((i1 7429).toInt = ((i 7429).toInt + 1)))))) ∧ ((((0 : Int) ≤ x1.toInt) ∧ (x1.toInt ≤ 255) ∧ ((i 7429).toInt < 120) → a1 119 = (a 119).set (i 7429).toNatClampNeg x1) ∧ (¬ (((0 : Int) ≤ x1.toInt) ∧ (x1.toInt ≤ 255) ∧ ((i 7429).toInt < 120)) → a1 119 = a 119)))) := by
  have hG := kG_self yw146_116 hI hr
  refine km_ofI (q := (mi_h146, mi_c146)) rfl (by decide) (Nat.le_of_ble_eq_true rfl) ?_
  intro P hP
  refine ft_goL mi_k146 3 5 [(0, .ref 116), (1, .int x1)] [.int 255, .int 0, .int x1] (by rfl) ?_
  refine ko_callPI mi_k146.1 (pc := 5) (ls := [(0, .ref 116), (1, .int x1)]) (st := [.int 255, .int 0, .int x1]) (h := ks i a q r) (i := (.invokestatic 119, 3, 131, 0, 9, 0, 379)) (mi_k146.2 _ _ (by rfl)) (ft_invS mi_pq131 (by rfl)) (cy := mi_c131) mi_pq131 rfl (kc131 hG.I hG.R x1 0 255) (by decide) ?_
  intro vg1 hg1
  rcases hg1 with ⟨eg1, hg1⟩ | ⟨eg1, hg1⟩
  ·
    subst eg1
    have z2 : ((0 : Int32).toInt ≤ x1.toInt) ∧ (x1.toInt ≤ (255 : Int32).toInt) := hg1
    have fi_7429 : ((0 : Int) ≤ (i 7429).toInt) ∧ ((i 7429).toInt ≤ 120) := hG.I.1 7429
    refine ft_goS mi_k146 4 19 [.int 120, .int (i 7429)] (by rfl) ?_
    refine ft_ifS mi_k146 ((i 7429) != 120) 25 22 [] (by rfl) (fun c => ?_) (fun c => ?_)
    ·
      have c3 : (i 7429).toInt ≠ (120 : Int32).toInt := kd_ne c; clear c
      have s4 : ((i 7429) + 1).toInt = (i 7429).toInt + (1 : Int32).toInt := kd_add (oa7 fi_7429.1 koa1) (oa8 fi_7429.2 koa1)
      have hJ5 := kG_i hG 7429 rfl (v := ((i 7429) + 1)) ⟨(oa9 fi_7429.1 s4 koa1), (oa19 c3 fi_7429.2 s4 koa120 koa1)⟩
      refine ft_goI mi_k146 10 41 [.int x1, .int (i 7429), .ref 119] (ku i 7429 ((i 7429) + 1)) (by rfl) ?_
      refine ko_iast3 mi_k146.1 (n := 120) (c := 120) (ax := (0, 0, 0, 0, 0)) (mi_k146.2 _ _ (by rfl)) (by rfl) (ksG119 _ _ _ _) (ksA119 _ _ _ _) (hJ5.I.2.1 119) rfl (oa5 fi_7429.1) (oa20 c3 fi_7429.2 koa120) ?_
      intro a6 ea6 fa6
      have hJ6 := kG_a3 hJ5 119 rfl ea6 fa6 (kd_bd _)
      refine ft_goS mi_k146 2 46 [.int ((i 7429) + 1)] (by rfl) ?_
      exact ft_ret mi_k146 (by rfl) (hP ((i 7429) + 1) _ _ _ _ hJ6 ⟨(oa21 c3 fi_7429.2 s4 z2.1 z2.2 koa120 koa1 koa0 koa255), ⟨(fun _ => (show a6 119 = (a 119).set (i 7429).toNatClampNeg x1 from (by first | rfl | (simp only [ea6, sMn, sMx]; done) | (simp only [ea6, sMn, sMx]; rfl)))), (fun h => absurd h (oa22 c3 fi_7429.2 z2.1 z2.2 koa120 koa0 koa255))⟩⟩)
    ·
      have c7 : (i 7429).toInt = (120 : Int32).toInt := kd_neF c; clear c
      refine ft_goS mi_k146 1 24 [.int (-3)] (by rfl) ?_
      exact ft_ret mi_k146 (by rfl) (hP (-3) _ _ _ _ hG ⟨(oa23 c7 z2.1 z2.2 koa120 koa0 koa255 koam3), ⟨(fun h => absurd h (oa24 c7 koa120)), (fun _ => (show a 119 = a 119 from rfl))⟩⟩)
  ·
    subst eg1
    have z8 : ¬ (((0 : Int32).toInt ≤ x1.toInt) ∧ (x1.toInt ≤ (255 : Int32).toInt)) := hg1
    refine ft_goS mi_k146 2 12 [.int (-1)] (by rfl) ?_
    exact ft_ret mi_k146 (by rfl) (hP (-1) _ _ _ _ hG ⟨(oa17 z8 koa0 koa255 koam1), ⟨(fun h => absurd h (oa18 z8 koa0 koa255)), (fun _ => (show a 119 = a 119 from rfl))⟩⟩)
set_option maxRecDepth 100000 in
theorem ke126_l01 {i : Nat → Int32} {a : Nat → List Int32} {q : Nat → List Int64} {r : Nat → Nat} (hI : kI i a q) (hr : kr r) (x2 : Int32) : km 3 126 [.int 1, .int x2] (ks i a q r) (kPI (ks i a q r) (fun v => (v = 1 ∧ (((0 : Int) ≤ x2.toInt) ∧ (x2.toInt ≤ 9))) ∨ (v = 0 ∧ (¬ (((0 : Int) ≤ x2.toInt) ∧ (x2.toInt ≤ 9)))))) := by
  have hG := kG_self kW0 hI hr
  refine km_ofPI (q := (mi_h126, mi_c126)) rfl (by decide) (Nat.le_of_ble_eq_true rfl) ?_
  intro P hP
  refine fo_goL mi_k126 fz126_0_3_4 [(0, .int 1), (1, .int x2)] [.int 6, .int 0, .int 1] rfl ?_
  refine ko_callPI mi_k126.1 (pc := 4) (ls := [(0, .int 1), (1, .int x2)]) (st := [.int 6, .int 0, .int 1]) (h := ks i a q r) (i := (.invokestatic 74, 3, 120, 0, 9, 0, 152)) (mi_k126.2 _ _ (by rfl)) (ft_invS mi_pq120 (by rfl)) (cy := mi_c120) mi_pq120 rfl (kc120 hG.I hG.R 1 0 6) (by decide) ?_
  intro vg1 hg1
  rcases hg1 with ⟨eg1, hg1⟩ | ⟨eg1, hg1⟩
  ·
    subst eg1
    refine ft_goS mi_k126 4 15 [.int 1, .ref (mi_RO + 1), .int x2] (by rfl) ?_
    refine ft_ro mi_k126 (w := 0) (by decide +kernel) (by decide +kernel) ?_
    refine ft_goS mi_k126 2 20 [.int 1, .ref (mi_RO + 2), .int 0, .int x2] (by rfl) ?_
    refine ft_ro mi_k126 (w := 9) (by decide +kernel) (by decide +kernel) ?_
    refine ko_callPI mi_k126.1 (pc := 21) (ls := [(0, .int 1), (1, .int x2)]) (st := [.int 9, .int 0, .int x2]) (h := ks i a q r) (i := (.invokestatic 74, 3, 120, 0, 9, 0, 152)) (mi_k126.2 _ _ (by rfl)) (ft_invS mi_pq120 (by rfl)) (cy := mi_c120) mi_pq120 rfl (kc120 hG.I hG.R x2 0 9) (by decide) ?_
    intro vg5 hg5
    rcases hg5 with ⟨eg5, hg5⟩ | ⟨eg5, hg5⟩
    ·
      subst eg5
      have z6 : ((0 : Int32).toInt ≤ x2.toInt) ∧ (x2.toInt ≤ (9 : Int32).toInt) := hg5
      first | refine fo_goS mi_k126 fz126_24_3_32 [.int 1] (by rfl) ?_ | refine ft_goS mi_k126 3 32 [.int 1] (by rfl) ?_
      exact ft_ret mi_k126 (by rfl) (hP 1 (Or.inl ⟨rfl, (oa27 z6.1 z6.2 koa0 koa9)⟩))
    ·
      subst eg5
      have z7 : ¬ (((0 : Int32).toInt ≤ x2.toInt) ∧ (x2.toInt ≤ (9 : Int32).toInt)) := hg5
      first | refine fo_goS mi_k126 fz126_27_2_32 [.int 0] (by rfl) ?_ | refine fo_goS mi_k126 fz126_7_2_32 [.int 0] (by rfl) ?_ | refine fo_goS mi_k126 fz126_24_2_32 [.int 0] (by rfl) ?_
      exact ft_ret mi_k126 (by rfl) (hP 0 (Or.inr ⟨rfl, (oa28 z7 koa0 koa9)⟩))
  ·
    subst eg1
    have z8 : ¬ (((0 : Int32).toInt ≤ (1 : Int32).toInt) ∧ ((1 : Int32).toInt ≤ (6 : Int32).toInt)) := hg1
    exact (oa29 z8 koa0 koa1 koa6).elim
set_option maxRecDepth 100000 in
theorem ke126_l02 {i : Nat → Int32} {a : Nat → List Int32} {q : Nat → List Int64} {r : Nat → Nat} (hI : kI i a q) (hr : kr r) (x2 : Int32) : km 3 126 [.int 2, .int x2] (ks i a q r) (kPI (ks i a q r) (fun v => (v = 1 ∧ (((0 : Int) ≤ x2.toInt) ∧ (x2.toInt ≤ 9))) ∨ (v = 0 ∧ (¬ (((0 : Int) ≤ x2.toInt) ∧ (x2.toInt ≤ 9)))))) := by
  have hG := kG_self kW0 hI hr
  refine km_ofPI (q := (mi_h126, mi_c126)) rfl (by decide) (Nat.le_of_ble_eq_true rfl) ?_
  intro P hP
  refine fo_goL mi_k126 fz126_0_3_4 [(0, .int 2), (1, .int x2)] [.int 6, .int 0, .int 2] rfl ?_
  refine ko_callPI mi_k126.1 (pc := 4) (ls := [(0, .int 2), (1, .int x2)]) (st := [.int 6, .int 0, .int 2]) (h := ks i a q r) (i := (.invokestatic 74, 3, 120, 0, 9, 0, 152)) (mi_k126.2 _ _ (by rfl)) (ft_invS mi_pq120 (by rfl)) (cy := mi_c120) mi_pq120 rfl (kc120 hG.I hG.R 2 0 6) (by decide) ?_
  intro vg1 hg1
  rcases hg1 with ⟨eg1, hg1⟩ | ⟨eg1, hg1⟩
  ·
    subst eg1
    refine ft_goS mi_k126 4 15 [.int 2, .ref (mi_RO + 1), .int x2] (by rfl) ?_
    refine ft_ro mi_k126 (w := 0) (by decide +kernel) (by decide +kernel) ?_
    refine ft_goS mi_k126 2 20 [.int 2, .ref (mi_RO + 2), .int 0, .int x2] (by rfl) ?_
    refine ft_ro mi_k126 (w := 9) (by decide +kernel) (by decide +kernel) ?_
    refine ko_callPI mi_k126.1 (pc := 21) (ls := [(0, .int 2), (1, .int x2)]) (st := [.int 9, .int 0, .int x2]) (h := ks i a q r) (i := (.invokestatic 74, 3, 120, 0, 9, 0, 152)) (mi_k126.2 _ _ (by rfl)) (ft_invS mi_pq120 (by rfl)) (cy := mi_c120) mi_pq120 rfl (kc120 hG.I hG.R x2 0 9) (by decide) ?_
    intro vg5 hg5
    rcases hg5 with ⟨eg5, hg5⟩ | ⟨eg5, hg5⟩
    ·
      subst eg5
      have z6 : ((0 : Int32).toInt ≤ x2.toInt) ∧ (x2.toInt ≤ (9 : Int32).toInt) := hg5
      first | refine fo_goS mi_k126 fz126_24_3_32 [.int 1] (by rfl) ?_ | refine ft_goS mi_k126 3 32 [.int 1] (by rfl) ?_
      exact ft_ret mi_k126 (by rfl) (hP 1 (Or.inl ⟨rfl, (oa27 z6.1 z6.2 koa0 koa9)⟩))
    ·
      subst eg5
      have z7 : ¬ (((0 : Int32).toInt ≤ x2.toInt) ∧ (x2.toInt ≤ (9 : Int32).toInt)) := hg5
      first | refine fo_goS mi_k126 fz126_27_2_32 [.int 0] (by rfl) ?_ | refine fo_goS mi_k126 fz126_7_2_32 [.int 0] (by rfl) ?_ | refine fo_goS mi_k126 fz126_24_2_32 [.int 0] (by rfl) ?_
      exact ft_ret mi_k126 (by rfl) (hP 0 (Or.inr ⟨rfl, (oa28 z7 koa0 koa9)⟩))
  ·
    subst eg1
    have z8 : ¬ (((0 : Int32).toInt ≤ (2 : Int32).toInt) ∧ ((2 : Int32).toInt ≤ (6 : Int32).toInt)) := hg1
    exact (oa32 z8 koa0 koa2 koa6).elim
noncomputable def yw25_1 : kW := ([64], [2, 3, 4, 5, 6], [], [])
set_option maxRecDepth 100000 in
theorem ke25_1 {i : Nat → Int32} {a : Nat → List Int32} {q : Nat → List Int64} {r : Nat → Nat} (hI : kI i a q) (hr : kr r) (x1 : Int32) (x2 : Int32) (x3 : Int32) : km 1 25 [.ref 1, .int x1, .int x2, .int x3] (ks i a q r) (kVI yw25_1 i a q r (fun v i1 a1 q1 r1 => ((((8 : Int) ≤ (i 64).toInt) ∧ (v.toInt = (-3)) ∧ ((i1 64).toInt = (i 64).toInt)) ∨ (((i 64).toInt < 8) ∧ (v.toInt = (i 64).toInt) ∧ ((i1 64).toInt = ((i 64).toInt + 1)))) ∧ (((i 64).toInt < 8 → a1 2 = (a 2).set (i 64).toNatClampNeg x1) ∧ ((i 64).toInt < 8 → a1 3 = (a 3).set (i 64).toNatClampNeg x2) ∧ ((i 64).toInt < 8 → a1 4 = (a 4).set (i 64).toNatClampNeg x3) ∧ ((i 64).toInt < 8 → a1 5 = (a 5).set (i 64).toNatClampNeg 0) ∧ ((i 64).toInt < 8 → a1 6 = (a 6).set (i 64).toNatClampNeg 0)))) := by
  have hG := kG_self yw25_1 hI hr
  refine km_ofI (q := (mi_h25, mi_c25)) rfl (by decide) (Nat.le_of_ble_eq_true rfl) ?_
  intro P hP
  have fi_64 : ((0 : Int) ≤ (i 64).toInt) ∧ ((i 64).toInt ≤ 8) := hG.I.1 64
  refine fo_goL mi_k25 fz25_0_3_6 [(0, .ref 1), (1, .int x1), (2, .int x2), (3, .int x3)] [.int 8, .int (i 64)] rfl ?_
  refine ft_ifS mi_k25 (decide ((i 64) < 8)) 12 9 [] (by rfl) (fun c => ?_) (fun c => ?_)
  ·
    have c1 : (i 64).toInt < (8 : Int32).toInt := kd_lt c; clear c
    refine fo_goS mi_k25 fz25_12_5_21 [.int x1, .int (i 64), .ref 2] rfl ?_
    refine ko_iast3 mi_k25.1 (n := 8) (c := 8) (ax := (0, 0, 0, 0, 0)) (mi_k25.2 _ _ (by rfl)) (by rfl) (ksG2 _ _ _ _) (ksA2 _ _ _ _) (hG.I.2.1 2) rfl (oa5 fi_64.1) (oa33 c1 koa8) ?_
    intro a2 ea2 fa2
    have hJ2 := kG_a3 hG 2 rfl ea2 fa2 (kd_bd _)
    refine fo_goS mi_k25 fz25_22_5_31 [.int x2, .int (i 64), .ref 3] rfl ?_
    refine ko_iast3 mi_k25.1 (n := 8) (c := 8) (ax := (0, 0, 0, 0, 0)) (mi_k25.2 _ _ (by rfl)) (by rfl) (ksG3 _ _ _ _) (ksA3 _ _ _ _) (hJ2.I.2.1 3) rfl (oa5 fi_64.1) (oa33 c1 koa8) ?_
    intro a3 ea3 fa3
    have hJ3 := kG_a3 hJ2 3 rfl ea3 fa3 (kd_bd _)
    refine fo_goS mi_k25 fz25_32_5_41 [.int x3, .int (i 64), .ref 4] rfl ?_
    refine ko_iast3 mi_k25.1 (n := 8) (c := 8) (ax := (0, 0, 0, 0, 0)) (mi_k25.2 _ _ (by rfl)) (by rfl) (ksG4 _ _ _ _) (ksA4 _ _ _ _) (hJ3.I.2.1 4) rfl (oa5 fi_64.1) (oa33 c1 koa8) ?_
    intro a4 ea4 fa4
    have hJ4 := kG_a3 hJ3 4 rfl ea4 fa4 (kd_bd _)
    refine fo_goS mi_k25 fz25_42_5_51 [.int 0, .int (i 64), .ref 5] rfl ?_
    refine ko_iast3 mi_k25.1 (n := 8) (c := 8) (ax := (0, 0, 0, 0, 0)) (mi_k25.2 _ _ (by rfl)) (by rfl) (ksG5 _ _ _ _) (ksA5 _ _ _ _) (hJ4.I.2.1 5) rfl (oa5 fi_64.1) (oa33 c1 koa8) ?_
    intro a5 ea5 fa5
    have hJ5 := kG_a3 hJ4 5 rfl ea5 fa5 (kd_bd _)
    refine fo_goS mi_k25 fz25_52_5_61 [.int 0, .int (i 64), .ref 6] rfl ?_
    refine ko_iast3 mi_k25.1 (n := 8) (c := 8) (ax := (0, 0, 0, 0, 0)) (mi_k25.2 _ _ (by rfl)) (by rfl) (ksG6 _ _ _ _) (ksA6 _ _ _ _) (hJ5.I.2.1 6) rfl (oa5 fi_64.1) (oa33 c1 koa8) ?_
    intro a6 ea6 fa6
    have hJ6 := kG_a3 hJ5 6 rfl ea6 fa6 (kd_bd _)
    have s7 : ((i 64) + 1).toInt = (i 64).toInt + (1 : Int32).toInt := kd_add (oa7 fi_64.1 koa1) (oa34 fi_64.2 koa1)
    have hJ8 := kG_i hJ6 64 rfl (v := ((i 64) + 1)) ⟨(oa9 fi_64.1 s7 koa1), (oa35 c1 s7 koa8 koa1)⟩
    have s9 : (((i 64) + 1) - 1).toInt = ((i 64) + 1).toInt - (1 : Int32).toInt := kd_sub (oa36 fi_64.1 s7 koa1) (oa37 fi_64.2 s7 koa1)
    first | refine fo_goI mi_k25 fz25_62_10_78 [.int (((i 64) + 1) - 1)] (ku i 64 ((i 64) + 1)) (by rfl) ?_ | refine ft_go mi_k25 10 78 [(0, .ref 1), (1, .int x1), (2, .int x2), (3, .int x3)] [.int (((i 64) + 1) - 1)] (ku i 64 ((i 64) + 1)) a6 q r (by rfl) ?_
    exact ft_ret mi_k25 (by rfl) (hP (((i 64) + 1) - 1) _ _ _ _ hJ8 ⟨(oa38 c1 s7 s9 koa8 koa1), ⟨(fun _ => (show a6 2 = (a 2).set (i 64).toNatClampNeg x1 from (by first | rfl | (simp only [fa6 2 (by decide), fa5 2 (by decide), fa4 2 (by decide), fa3 2 (by decide), ea2, sMn, sMx]; done) | (simp only [fa6 2 (by decide), fa5 2 (by decide), fa4 2 (by decide), fa3 2 (by decide), ea2, sMn, sMx]; rfl)))), (fun _ => (show a6 3 = (a 3).set (i 64).toNatClampNeg x2 from (by first | rfl | (simp only [fa6 3 (by decide), fa5 3 (by decide), fa4 3 (by decide), ea3, fa2 3 (by decide), sMn, sMx]; done) | (simp only [fa6 3 (by decide), fa5 3 (by decide), fa4 3 (by decide), ea3, fa2 3 (by decide), sMn, sMx]; rfl)))), (fun _ => (show a6 4 = (a 4).set (i 64).toNatClampNeg x3 from (by first | rfl | (simp only [fa6 4 (by decide), fa5 4 (by decide), ea4, fa3 4 (by decide), fa2 4 (by decide), sMn, sMx]; done) | (simp only [fa6 4 (by decide), fa5 4 (by decide), ea4, fa3 4 (by decide), fa2 4 (by decide), sMn, sMx]; rfl)))), (fun _ => (show a6 5 = (a 5).set (i 64).toNatClampNeg 0 from (by first | rfl | (simp only [fa6 5 (by decide), ea5, fa4 5 (by decide), fa3 5 (by decide), fa2 5 (by decide), sMn, sMx]; done) | (simp only [fa6 5 (by decide), ea5, fa4 5 (by decide), fa3 5 (by decide), fa2 5 (by decide), sMn, sMx]; rfl)))), (fun _ => (show a6 6 = (a 6).set (i 64).toNatClampNeg 0 from (by first | rfl | (simp only [ea6, fa5 6 (by decide), fa4 6 (by decide), fa3 6 (by decide), fa2 6 (by decide), sMn, sMx]; done) | (simp only [ea6, fa5 6 (by decide), fa4 6 (by decide), fa3 6 (by decide), fa2 6 (by decide), sMn, sMx]; rfl))))⟩⟩)
  ·
    have c10 : (8 : Int32).toInt ≤ (i 64).toInt := kd_ltF c; clear c
    refine ft_goS mi_k25 1 11 [.int (-3)] (by rfl) ?_
    exact ft_ret mi_k25 (by rfl) (hP (-3) _ _ _ _ hG ⟨(oa39 c10 koa8 koam3), ⟨(fun h => absurd h (oa40 c10 koa8)), (fun h => absurd h (oa40 c10 koa8)), (fun h => absurd h (oa40 c10 koa8)), (fun h => absurd h (oa40 c10 koa8)), (fun h => absurd h (oa40 c10 koa8))⟩⟩)
noncomputable def yw80_0 : kW := ([64], [2, 3, 4, 5, 6], [], [])
set_option maxRecDepth 100000 in
theorem ke80_0 {i : Nat → Int32} {a : Nat → List Int32} {q : Nat → List Int64} {r : Nat → Nat} (hI : kI i a q) (hr : kr r) (x1 : Int32) (x2 : Int32) : km 5 80 [.ref 0, .int x1, .int x2] (ks i a q r) (kVI yw80_0 i a q r (fun v i1 a1 q1 r1 => (((v.toInt = (-1)) ∧ (¬ (((0 : Int) ≤ x1.toInt) ∧ (x1.toInt ≤ 9) ∧ ((0 : Int) ≤ x2.toInt) ∧ (x2.toInt ≤ 9))) ∧ ((i1 64).toInt = (i 64).toInt)) ∨ (((0 : Int) ≤ x1.toInt) ∧ (x1.toInt ≤ 9) ∧ ((0 : Int) ≤ x2.toInt) ∧ (x2.toInt ≤ 9) ∧ (((v.toInt = (-3)) ∧ ((8 : Int) ≤ (i 64).toInt) ∧ ((i1 64).toInt = (i 64).toInt)) ∨ (((i 64).toInt < 8) ∧ (v.toInt = (i 64).toInt) ∧ ((i1 64).toInt = ((i 64).toInt + 1)))))) ∧ ((((0 : Int) ≤ x1.toInt) ∧ (x1.toInt ≤ 9) ∧ ((0 : Int) ≤ x2.toInt) ∧ (x2.toInt ≤ 9) ∧ ((i 64).toInt < 8) → a1 2 = (a 2).set (i 64).toNatClampNeg 100) ∧ (((0 : Int) ≤ x1.toInt) ∧ (x1.toInt ≤ 9) ∧ ((0 : Int) ≤ x2.toInt) ∧ (x2.toInt ≤ 9) ∧ ((i 64).toInt < 8) → a1 3 = (a 3).set (i 64).toNatClampNeg x1) ∧ (((0 : Int) ≤ x1.toInt) ∧ (x1.toInt ≤ 9) ∧ ((0 : Int) ≤ x2.toInt) ∧ (x2.toInt ≤ 9) ∧ ((i 64).toInt < 8) → a1 4 = (a 4).set (i 64).toNatClampNeg x2) ∧ (((0 : Int) ≤ x1.toInt) ∧ (x1.toInt ≤ 9) ∧ ((0 : Int) ≤ x2.toInt) ∧ (x2.toInt ≤ 9) ∧ ((i 64).toInt < 8) → a1 5 = (a 5).set (i 64).toNatClampNeg 0) ∧ (((0 : Int) ≤ x1.toInt) ∧ (x1.toInt ≤ 9) ∧ ((0 : Int) ≤ x2.toInt) ∧ (x2.toInt ≤ 9) ∧ ((i 64).toInt < 8) → a1 6 = (a 6).set (i 64).toNatClampNeg 0) ∧ (¬ (((0 : Int) ≤ x1.toInt) ∧ (x1.toInt ≤ 9) ∧ ((0 : Int) ≤ x2.toInt) ∧ (x2.toInt ≤ 9) ∧ ((i 64).toInt < 8)) → a1 2 = a 2) ∧ (¬ (((0 : Int) ≤ x1.toInt) ∧ (x1.toInt ≤ 9) ∧ ((0 : Int) ≤ x2.toInt) ∧ (x2.toInt ≤ 9) ∧ ((i 64).toInt < 8)) → a1 3 = a 3) ∧ (¬ (((0 : Int) ≤ x1.toInt) ∧ (x1.toInt ≤ 9) ∧ ((0 : Int) ≤ x2.toInt) ∧ (x2.toInt ≤ 9) ∧ ((i 64).toInt < 8)) → a1 4 = a 4) ∧ (¬ (((0 : Int) ≤ x1.toInt) ∧ (x1.toInt ≤ 9) ∧ ((0 : Int) ≤ x2.toInt) ∧ (x2.toInt ≤ 9) ∧ ((i 64).toInt < 8)) → a1 5 = a 5) ∧ (¬ (((0 : Int) ≤ x1.toInt) ∧ (x1.toInt ≤ 9) ∧ ((0 : Int) ≤ x2.toInt) ∧ (x2.toInt ≤ 9) ∧ ((i 64).toInt < 8)) → a1 6 = a 6)))) := by
  have hG := kG_self yw80_0 hI hr
  refine km_ofI (q := (mi_h80, mi_c80)) rfl (by decide) (Nat.le_of_ble_eq_true rfl) ?_
  intro P hP
  refine ft_goL mi_k80 2 2 [(0, .ref 0), (1, .int x1), (2, .int x2)] [.int x1, .int 1] (by rfl) ?_
  refine ko_callPI mi_k80.1 (pc := 2) (ls := [(0, .ref 0), (1, .int x1), (2, .int x2)]) (st := [.int x1, .int 1]) (h := ks i a q r) (i := (.invokestatic 58, 3, 126, 0, 9, 0, 151)) (mi_k80.2 _ _ (by rfl)) (ft_invS mi_pq126 (by rfl)) (cy := mi_c126) mi_pq126 rfl (ke126_l01 hG.I hG.R x1) (by decide) ?_
  intro vg1 hg1
  rcases hg1 with ⟨eg1, hg1⟩ | ⟨eg1, hg1⟩
  ·
    subst eg1
    have z2 : ((0 : Int) ≤ x1.toInt) ∧ (x1.toInt ≤ 9) := hg1
    refine ft_goS mi_k80 3 10 [.int x2, .int 2] (by rfl) ?_
    refine ko_callPI mi_k80.1 (pc := 10) (ls := [(0, .ref 0), (1, .int x1), (2, .int x2)]) (st := [.int x2, .int 2]) (h := ks i a q r) (i := (.invokestatic 58, 3, 126, 0, 9, 0, 151)) (mi_k80.2 _ _ (by rfl)) (ft_invS mi_pq126 (by rfl)) (cy := mi_c126) mi_pq126 rfl (ke126_l02 hG.I hG.R x2) (by decide) ?_
    intro vg3 hg3
    rcases hg3 with ⟨eg3, hg3⟩ | ⟨eg3, hg3⟩
    ·
      subst eg3
      have z4 : ((0 : Int) ≤ x2.toInt) ∧ (x2.toInt ≤ 9) := hg3
      refine fo_goS mi_k80 fz80_13_5_27 [.int 8, .int (i 64)] rfl ?_
      refine ft_ifS mi_k80 (decide ((i 64) < 8)) 35 30 [] (by rfl) (fun c => ?_) (fun c => ?_)
      ·
        have c5 : (i 64).toInt < (8 : Int32).toInt := kd_lt c; clear c
        refine fo_goS mi_k80 fz80_35_5_43 [.int x2, .int x1, .int 100, .ref 1] rfl ?_
        refine ko_callI mi_k80.1 (pc := 43) (ls := [(0, .ref 0), (1, .int x1), (2, .int x2)]) (st := [.int x2, .int x1, .int 100, .ref 1]) (h := ks i a q r) (i := (.invokevirtual 66, 3, 25, 0, 9, 0, 155)) (mi_k80.2 _ _ (by rfl)) (ft_invS mi_pq25 (by rfl)) (cy := mi_c25) mi_pq25 rfl (ke25_1 hG.I hG.R 100 x1 x2) (by decide) ?_
        intro vg6 ig6 ag6 qg6 rg6 kg6 hg6
        have hGg6 := kG_call hG kg6 (by decide +kernel)
        obtain ⟨hg6, og6⟩ := hg6
        have z7 : (((8 : Int) ≤ (i 64).toInt) ∧ (vg6.toInt = (-3)) ∧ ((ig6 64).toInt = (i 64).toInt)) ∨ (((i 64).toInt < 8) ∧ (vg6.toInt = (i 64).toInt) ∧ ((ig6 64).toInt = ((i 64).toInt + 1))) := hg6
        have q8 : ag6 2 = (a 2).set (i 64).toNatClampNeg (100 : Int32) := og6.1 (oa33 c5 koa8)
        have q9 : ag6 3 = (a 3).set (i 64).toNatClampNeg x1 := og6.2.1 (oa33 c5 koa8)
        have q10 : ag6 4 = (a 4).set (i 64).toNatClampNeg x2 := og6.2.2.1 (oa33 c5 koa8)
        have q11 : ag6 5 = (a 5).set (i 64).toNatClampNeg 0 := og6.2.2.2.1 (oa33 c5 koa8)
        have q12 : ag6 6 = (a 6).set (i 64).toNatClampNeg 0 := og6.2.2.2.2 (oa33 c5 koa8)
        exact ft_ret mi_k80 (by rfl) (hP vg6 _ _ _ _ hGg6 ⟨(oa41 c5 z2.1 z2.2 z4.1 z4.2 z7 koa8), ⟨(fun _ => (show ag6 2 = (a 2).set (i 64).toNatClampNeg 100 from (by first | rfl | (simp only [q8, sMn, sMx]; done) | (simp only [q8, sMn, sMx]; rfl)))), (fun _ => (show ag6 3 = (a 3).set (i 64).toNatClampNeg x1 from (by first | rfl | (simp only [q9, sMn, sMx]; done) | (simp only [q9, sMn, sMx]; rfl)))), (fun _ => (show ag6 4 = (a 4).set (i 64).toNatClampNeg x2 from (by first | rfl | (simp only [q10, sMn, sMx]; done) | (simp only [q10, sMn, sMx]; rfl)))), (fun _ => (show ag6 5 = (a 5).set (i 64).toNatClampNeg 0 from (by first | rfl | (simp only [q11, sMn, sMx]; done) | (simp only [q11, sMn, sMx]; rfl)))), (fun _ => (show ag6 6 = (a 6).set (i 64).toNatClampNeg 0 from (by first | rfl | (simp only [q12, sMn, sMx]; done) | (simp only [q12, sMn, sMx]; rfl)))), (fun h => absurd h (oa42 c5 z2.1 z2.2 z4.1 z4.2 koa8)), (fun h => absurd h (oa42 c5 z2.1 z2.2 z4.1 z4.2 koa8)), (fun h => absurd h (oa42 c5 z2.1 z2.2 z4.1 z4.2 koa8)), (fun h => absurd h (oa42 c5 z2.1 z2.2 z4.1 z4.2 koa8)), (fun h => absurd h (oa42 c5 z2.1 z2.2 z4.1 z4.2 koa8))⟩⟩)
      ·
        have c13 : (8 : Int32).toInt ≤ (i 64).toInt := kd_ltF c; clear c
        first | refine ft_goS mi_k80 2 46 [.int (-3)] (by rfl) ?_
        exact ft_ret mi_k80 (by rfl) (hP (-3) _ _ _ _ hG ⟨(oa43 c13 z2.1 z2.2 z4.1 z4.2 koa8 koam3), ⟨(fun h => absurd h (oa44 c13 koa8)), (fun h => absurd h (oa44 c13 koa8)), (fun h => absurd h (oa44 c13 koa8)), (fun h => absurd h (oa44 c13 koa8)), (fun h => absurd h (oa44 c13 koa8)), (fun _ => (show a 2 = a 2 from rfl)), (fun _ => (show a 3 = a 3 from rfl)), (fun _ => (show a 4 = a 4 from rfl)), (fun _ => (show a 5 = a 5 from rfl)), (fun _ => (show a 6 = a 6 from rfl))⟩⟩)
    ·
      subst eg3
      have z14 : ¬ (((0 : Int) ≤ x2.toInt) ∧ (x2.toInt ≤ 9)) := hg3
      first | refine ft_goS mi_k80 2 17 [.int (-1)] (by rfl) ?_
      exact ft_ret mi_k80 (by rfl) (hP (-1) _ _ _ _ hG ⟨(oa45 z14 koam1), ⟨(fun h => absurd h (oa46 z14)), (fun h => absurd h (oa46 z14)), (fun h => absurd h (oa46 z14)), (fun h => absurd h (oa46 z14)), (fun h => absurd h (oa46 z14)), (fun _ => (show a 2 = a 2 from rfl)), (fun _ => (show a 3 = a 3 from rfl)), (fun _ => (show a 4 = a 4 from rfl)), (fun _ => (show a 5 = a 5 from rfl)), (fun _ => (show a 6 = a 6 from rfl))⟩⟩)
  ·
    subst eg1
    have z15 : ¬ (((0 : Int) ≤ x1.toInt) ∧ (x1.toInt ≤ 9)) := hg1
    first | refine ft_goS mi_k80 2 17 [.int (-1)] (by rfl) ?_
    exact ft_ret mi_k80 (by rfl) (hP (-1) _ _ _ _ hG ⟨(oa47 z15 koam1), ⟨(fun h => absurd h (oa48 z15)), (fun h => absurd h (oa48 z15)), (fun h => absurd h (oa48 z15)), (fun h => absurd h (oa48 z15)), (fun h => absurd h (oa48 z15)), (fun _ => (show a 2 = a 2 from rfl)), (fun _ => (show a 3 = a 3 from rfl)), (fun _ => (show a 4 = a 4 from rfl)), (fun _ => (show a 5 = a 5 from rfl)), (fun _ => (show a 6 = a 6 from rfl))⟩⟩)
noncomputable def yw134_116 : kW := ([7424], [117, 118], [], [])
set_option maxRecDepth 100000 in
theorem ke134_116 {i : Nat → Int32} {a : Nat → List Int32} {q : Nat → List Int64} {r : Nat → Nat} (hI : kI i a q) (hr : kr r) (x1 : Int32) (x2 : Int32) (x3 : Int32) (hp0 : (i 7424).toInt ≤ 7) : km 1 134 [.ref 116, .int x1, .int x2, .int x3] (ks i a q r) (kVI yw134_116 i a q r (fun v i1 a1 q1 r1 => ((v.toInt = (i 7424).toInt) ∧ ((i1 7424).toInt = ((i 7424).toInt + 1))) ∧ (a1 118 = (a 118).set (i 7424).toNatClampNeg x1 ∧ a1 117 = ((a 117).set (i 7424).toNatClampNeg x2).set (8 + i 7424).toNatClampNeg x3))) := by
  have hG := kG_self yw134_116 hI hr
  refine km_ofI (q := (mi_h134, mi_c134)) rfl (by decide) (Nat.le_of_ble_eq_true rfl) ?_
  intro P hP
  have fi_7424 : ((0 : Int) ≤ (i 7424).toInt) ∧ ((i 7424).toInt ≤ 8) := hG.I.1 7424
  refine fo_goL mi_k134 fz134_0_5_9 [(0, .ref 116), (1, .int x1), (2, .int x2), (3, .int x3)] [.int x1, .int (i 7424), .ref 118] rfl ?_
  refine ko_iast3 mi_k134.1 (n := 31) (c := 31) (ax := (0, 0, 0, 0, 0)) (mi_k134.2 _ _ (by rfl)) (by rfl) (ksG118 _ _ _ _) (ksA118 _ _ _ _) (hG.I.2.1 118) rfl (oa5 fi_7424.1) (oa49 fi_7424.2) ?_
  intro a1 ea1 fa1
  have hJ1 := kG_a3 hG 118 rfl ea1 fa1 (kE_nset (p := 118) (by decide) (oa5 fi_7424.1) (oa50 fi_7424.2) (oa51 fi_7424.2))
  refine fo_goS mi_k134 fz134_10_5_19 [.int x2, .int (i 7424), .ref 117] rfl ?_
  refine ko_iast3 mi_k134.1 (n := 24) (c := 24) (ax := (0, 0, 0, 0, 0)) (mi_k134.2 _ _ (by rfl)) (by rfl) (ksG117 _ _ _ _) (ksA117 _ _ _ _) (hJ1.I.2.1 117) rfl (oa5 fi_7424.1) (oa52 fi_7424.2) ?_
  intro a2 ea2 fa2
  have hJ2 := kG_a3 hJ1 117 rfl ea2 fa2 (kd_bd _)
  have s3 : (8 + (i 7424)).toInt = (8 : Int32).toInt + (i 7424).toInt := kd_add (oa53 fi_7424.1 koa8) (oa54 fi_7424.2 koa8)
  refine fo_goS mi_k134 fz134_20_7_32 [.int x3, .int (8 + (i 7424)), .ref 117] rfl ?_
  refine ko_iast3 mi_k134.1 (n := 24) (c := 24) (ax := (0, 0, 0, 0, 0)) (mi_k134.2 _ _ (by rfl)) (by rfl) (ksG117 _ _ _ _) (ksA117 _ _ _ _) (hJ2.I.2.1 117) rfl (oa55 fi_7424.1 s3 koa8) (oa56 fi_7424.2 s3 koa8) ?_
  intro a4 ea4 fa4
  have hJ4 := kG_a3 hJ2 117 rfl ea4 fa4 (kd_bd _)
  have s5 : ((i 7424) + 1).toInt = (i 7424).toInt + (1 : Int32).toInt := kd_add (oa7 fi_7424.1 koa1) (oa34 fi_7424.2 koa1)
  have hJ6 := kG_i hJ4 7424 rfl (v := ((i 7424) + 1)) ⟨(oa9 fi_7424.1 s5 koa1), (oa57 hp0 s5 koa1)⟩
  refine ft_goI mi_k134 7 44 [.int (i 7424)] (ku i 7424 ((i 7424) + 1)) (by rfl) ?_
  exact ft_ret mi_k134 (by rfl) (hP (i 7424) _ _ _ _ hJ6 ⟨(oa58 s5 koa1), ⟨(show a4 118 = (a 118).set (i 7424).toNatClampNeg x1 from (by first | rfl | (simp only [fa4 118 (by decide), fa2 118 (by decide), ea1, sMn, sMx]; done) | (simp only [fa4 118 (by decide), fa2 118 (by decide), ea1, sMn, sMx]; rfl))), (show a4 117 = ((a 117).set (i 7424).toNatClampNeg x2).set (8 + i 7424).toNatClampNeg x3 from (by first | rfl | (simp only [ea4, ea2, fa1 117 (by decide), sMn, sMx]; done) | (simp only [ea4, ea2, fa1 117 (by decide), sMn, sMx]; rfl)))⟩⟩)
noncomputable def yw135_116 : kW := ([7424], [117, 118], [], [])
set_option maxRecDepth 100000 in
theorem ke135_116 {i : Nat → Int32} {a : Nat → List Int32} {q : Nat → List Int64} {r : Nat → Nat} (hI : kI i a q) (hr : kr r) (x1 : Int32) (x2 : Int32) : km 3 135 [.ref 116, .int x1, .int x2] (ks i a q r) (kVI yw135_116 i a q r (fun v i1 a1 q1 r1 => (((v.toInt = (-1)) ∧ (¬ (((0 : Int) ≤ x1.toInt) ∧ (x1.toInt ≤ 9) ∧ ((0 : Int) ≤ x2.toInt) ∧ (x2.toInt ≤ 9))) ∧ ((i1 7424).toInt = (i 7424).toInt)) ∨ (((0 : Int) ≤ x1.toInt) ∧ (x1.toInt ≤ 9) ∧ ((0 : Int) ≤ x2.toInt) ∧ (x2.toInt ≤ 9) ∧ (((v.toInt = (-3)) ∧ ((8 : Int) ≤ (i 7424).toInt) ∧ ((i1 7424).toInt = (i 7424).toInt)) ∨ (((i 7424).toInt < 8) ∧ (v.toInt = (i 7424).toInt) ∧ ((i1 7424).toInt = ((i 7424).toInt + 1)))))) ∧ ((((0 : Int) ≤ x1.toInt) ∧ (x1.toInt ≤ 9) ∧ ((0 : Int) ≤ x2.toInt) ∧ (x2.toInt ≤ 9) ∧ ((i 7424).toInt < 8) → a1 118 = (a 118).set (i 7424).toNatClampNeg 100) ∧ (((0 : Int) ≤ x1.toInt) ∧ (x1.toInt ≤ 9) ∧ ((0 : Int) ≤ x2.toInt) ∧ (x2.toInt ≤ 9) ∧ ((i 7424).toInt < 8) → a1 117 = ((a 117).set (i 7424).toNatClampNeg x1).set (8 + i 7424).toNatClampNeg x2) ∧ (¬ (((0 : Int) ≤ x1.toInt) ∧ (x1.toInt ≤ 9) ∧ ((0 : Int) ≤ x2.toInt) ∧ (x2.toInt ≤ 9) ∧ ((i 7424).toInt < 8)) → a1 118 = a 118) ∧ (¬ (((0 : Int) ≤ x1.toInt) ∧ (x1.toInt ≤ 9) ∧ ((0 : Int) ≤ x2.toInt) ∧ (x2.toInt ≤ 9) ∧ ((i 7424).toInt < 8)) → a1 117 = a 117)))) := by
  have hG := kG_self yw135_116 hI hr
  refine km_ofI (q := (mi_h135, mi_c135)) rfl (by decide) (Nat.le_of_ble_eq_true rfl) ?_
  intro P hP
  refine ft_goL mi_k135 3 4 [(0, .ref 116), (1, .int x1), (2, .int x2)] [.int 9, .int 0, .int x1] (by rfl) ?_
  refine ko_callPI mi_k135.1 (pc := 4) (ls := [(0, .ref 116), (1, .int x1), (2, .int x2)]) (st := [.int 9, .int 0, .int x1]) (h := ks i a q r) (i := (.invokestatic 119, 3, 131, 0, 9, 0, 379)) (mi_k135.2 _ _ (by rfl)) (ft_invS mi_pq131 (by rfl)) (cy := mi_c131) mi_pq131 rfl (kc131 hG.I hG.R x1 0 9) (by decide) ?_
  intro vg1 hg1
  rcases hg1 with ⟨eg1, hg1⟩ | ⟨eg1, hg1⟩
  ·
    subst eg1
    have z2 : ((0 : Int32).toInt ≤ x1.toInt) ∧ (x1.toInt ≤ (9 : Int32).toInt) := hg1
    refine ft_goS mi_k135 4 14 [.int 9, .int 0, .int x2] (by rfl) ?_
    refine ko_callPI mi_k135.1 (pc := 14) (ls := [(0, .ref 116), (1, .int x1), (2, .int x2)]) (st := [.int 9, .int 0, .int x2]) (h := ks i a q r) (i := (.invokestatic 119, 3, 131, 0, 9, 0, 379)) (mi_k135.2 _ _ (by rfl)) (ft_invS mi_pq131 (by rfl)) (cy := mi_c131) mi_pq131 rfl (kc131 hG.I hG.R x2 0 9) (by decide) ?_
    intro vg3 hg3
    rcases hg3 with ⟨eg3, hg3⟩ | ⟨eg3, hg3⟩
    ·
      subst eg3
      have z4 : ((0 : Int32).toInt ≤ x2.toInt) ∧ (x2.toInt ≤ (9 : Int32).toInt) := hg3
      have fi_7424 : ((0 : Int) ≤ (i 7424).toInt) ∧ ((i 7424).toInt ≤ 8) := hG.I.1 7424
      refine ft_goS mi_k135 4 28 [.int 8, .int (i 7424)] (by rfl) ?_
      refine ft_ifS mi_k135 ((i 7424) != 8) 36 31 [] (by rfl) (fun c => ?_) (fun c => ?_)
      ·
        have c5 : (i 7424).toInt ≠ (8 : Int32).toInt := kd_ne c; clear c
        refine ft_goS mi_k135 4 41 [.int x2, .int x1, .int 100, .ref 116] (by rfl) ?_
        refine ko_callI mi_k135.1 (pc := 41) (ls := [(0, .ref 116), (1, .int x1), (2, .int x2)]) (st := [.int x2, .int x1, .int 100, .ref 116]) (h := ks i a q r) (i := (.invokevirtual 123, 3, 134, 0, 9, 0, 380)) (mi_k135.2 _ _ (by rfl)) (ft_invS mi_pq134 (by rfl)) (cy := mi_c134) mi_pq134 rfl (ke134_116 hG.I hG.R 100 x1 x2 (oa59 c5 fi_7424.2 koa8)) (by decide) ?_
        intro vg6 ig6 ag6 qg6 rg6 kg6 hg6
        have hGg6 := kG_call hG kg6 (by decide +kernel)
        obtain ⟨hg6, og6⟩ := hg6
        have fig6_7424 : ((0 : Int) ≤ (ig6 7424).toInt) ∧ ((ig6 7424).toInt ≤ 8) := hGg6.I.1 7424
        have z7 : (vg6.toInt = (i 7424).toInt) ∧ ((ig6 7424).toInt = ((i 7424).toInt + 1)) := hg6
        have q8 : ag6 118 = (a 118).set (i 7424).toNatClampNeg (100 : Int32) := og6.1
        have q9 : ag6 117 = ((a 117).set (i 7424).toNatClampNeg x1).set (8 + i 7424).toNatClampNeg x2 := og6.2
        exact ft_ret mi_k135 (by rfl) (hP vg6 _ _ _ _ hGg6 ⟨(oa60 fig6_7424.2 z2.1 z2.2 z4.1 z4.2 z7.1 z7.2 koa0 koa9), ⟨(fun _ => (show ag6 118 = (a 118).set (i 7424).toNatClampNeg 100 from (by first | rfl | (simp only [q8, sMn, sMx]; done) | (simp only [q8, sMn, sMx]; rfl)))), (fun _ => (show ag6 117 = ((a 117).set (i 7424).toNatClampNeg x1).set (8 + i 7424).toNatClampNeg x2 from (by first | rfl | (simp only [q9, sMn, sMx]; done) | (simp only [q9, sMn, sMx]; rfl)))), (fun h => absurd h (oa61 fig6_7424.2 z2.1 z2.2 z4.1 z4.2 z7.2 koa0 koa9)), (fun h => absurd h (oa61 fig6_7424.2 z2.1 z2.2 z4.1 z4.2 z7.2 koa0 koa9))⟩⟩)
      ·
        have c10 : (i 7424).toInt = (8 : Int32).toInt := kd_neF c; clear c
        first | refine ft_goS mi_k135 2 44 [.int (-3)] (by rfl) ?_
        exact ft_ret mi_k135 (by rfl) (hP (-3) _ _ _ _ hG ⟨(oa62 c10 z2.1 z2.2 z4.1 z4.2 koa8 koa0 koa9 koam3), ⟨(fun h => absurd h (oa63 c10 koa8)), (fun h => absurd h (oa63 c10 koa8)), (fun _ => (show a 118 = a 118 from rfl)), (fun _ => (show a 117 = a 117 from rfl))⟩⟩)
    ·
      subst eg3
      have z11 : ¬ (((0 : Int32).toInt ≤ x2.toInt) ∧ (x2.toInt ≤ (9 : Int32).toInt)) := hg3
      first | refine ft_goS mi_k135 2 21 [.int (-1)] (by rfl) ?_
      exact ft_ret mi_k135 (by rfl) (hP (-1) _ _ _ _ hG ⟨(oa64 z11 koa0 koa9 koam1), ⟨(fun h => absurd h (oa65 z11 koa0 koa9)), (fun h => absurd h (oa65 z11 koa0 koa9)), (fun _ => (show a 118 = a 118 from rfl)), (fun _ => (show a 117 = a 117 from rfl))⟩⟩)
  ·
    subst eg1
    have z12 : ¬ (((0 : Int32).toInt ≤ x1.toInt) ∧ (x1.toInt ≤ (9 : Int32).toInt)) := hg1
    first | refine ft_goS mi_k135 2 21 [.int (-1)] (by rfl) ?_
    exact ft_ret mi_k135 (by rfl) (hP (-1) _ _ _ _ hG ⟨(oa66 z12 koa0 koa9 koam1), ⟨(fun h => absurd h (oa67 z12 koa0 koa9)), (fun h => absurd h (oa67 z12 koa0 koa9)), (fun _ => (show a 118 = a 118 from rfl)), (fun _ => (show a 117 = a 117 from rfl))⟩⟩)
end
section
theorem ob25 {a0 a1 : Int} (h0 : a0 ≠ a1) : ¬ (a0 = a1) := by omega
theorem ob26 {a0 a1 a2 : Int} (h0 : a0 ≠ a1) (h1 : a0 = a2) (h2 : a1 = 8) : ¬ (a2 = 8) := by omega
theorem ob31 {a0 a1 a2 a3 : Int} (h0 : a0 < a1) (h1 : a1 = (a2 - 1)) (h2 : a2 ≤ 5) (h3 : a3 = 19) : a3 + a0 ≤ 2147483647 := by omega
theorem ob33 {a0 a1 a2 a3 : Int} (h0 : a0 < a1) (h1 : a1 = (a2 - 1)) (h2 : a2 ≤ 5) (h3 : a3 = 20) : a3 + a0 ≤ 2147483647 := by omega
theorem ob35 {a0 a1 a2 a3 a4 : Int} (h0 : a0 < a1) (h1 : a1 = (a2 - 1)) (h2 : a2 ≤ 5) (h3 : a3 = a4 + a0) (h4 : a4 = 20) : a3 < 31 := by omega
theorem ob38 {a0 a1 a2 a3 a4 : Int} (h0 : a0 < a1) (h1 : a1 = (a2 - 1)) (h2 : a2 ≤ 5) (h3 : a3 = a4 + a0) (h4 : a4 = 19) : a3 < 31 := by omega
theorem ob40 {a0 a1 a2 a3 a4 a5 a6 : Int} (h0 : a0 < a1) (h1 : (0 : Int) ≤ a0) (h2 : a1 = (a2 - 1)) (h3 : a2 ≤ 5) (h4 : (19 ≤ a3 → a3 ≤ 24 → (0 : Int) ≤ a4 ∧ a4 ≤ 7)) (h5 : a3 = a5 + a0) (h6 : a5 = 20) : 19 ≤ a6 → a6 ≤ 24 → (0 : Int) ≤ a4 ∧ a4 ≤ 7 := by omega
theorem ob42 {a0 a1 a2 a3 : Int} (h0 : a0 < a1) (h1 : a1 = (a2 - 1)) (h2 : a2 ≤ 5) (h3 : a3 = 25) : a3 + a0 ≤ 2147483647 := by omega
theorem ob44 {a0 a1 a2 a3 : Int} (h0 : a0 < a1) (h1 : a1 = (a2 - 1)) (h2 : a2 ≤ 5) (h3 : a3 = 26) : a3 + a0 ≤ 2147483647 := by omega
theorem ob46 {a0 a1 a2 a3 a4 : Int} (h0 : a0 < a1) (h1 : a1 = (a2 - 1)) (h2 : a2 ≤ 5) (h3 : a3 = a4 + a0) (h4 : a4 = 26) : a3 < 31 := by omega
theorem ob49 {a0 a1 a2 a3 a4 : Int} (h0 : a0 < a1) (h1 : a1 = (a2 - 1)) (h2 : a2 ≤ 5) (h3 : a3 = a4 + a0) (h4 : a4 = 25) : a3 < 31 := by omega
theorem ob53 {a0 a1 a2 a3 : Int} (h0 : a0 < a1) (h1 : a1 = (a2 - 1)) (h2 : a2 ≤ 5) (h3 : a3 = 1) : a0 + a3 ≤ 2147483647 := by omega
theorem ob57 {a0 a1 a2 a3 a4 a5 : Int} (h0 : a0 < a1) (h1 : a2 = a0 + a3) (h2 : a4 = a1) (h3 : a5 = a4) (h4 : a3 = 1) : a2 ≤ a5 := by omega
theorem ob59 {a0 a1 a2 : Int} (h0 : a0 = a1 + a2) (h1 : a1 = 19) : a0 = 19 + a2 := by omega
theorem ob60 {a0 a1 a2 : Int} (h0 : a0 = a1 + a2) (h1 : a1 = 20) : a0 = 20 + a2 := by omega
theorem ob61 {a0 a1 a2 : Int} (h0 : a0 = a1 + a2) (h1 : a1 = 25) : a0 = 25 + a2 := by omega
theorem ob62 {a0 a1 a2 : Int} (h0 : a0 = a1 + a2) (h1 : a1 = 26) : a0 = 26 + a2 := by omega
theorem ob65 {a0 a1 a2 : Int} (h0 : a0 < a1) (h1 : a1 = (a2 - 1)) (h2 : a2 ≤ 5) : (1 : Int) ≤ (5 - a0) := by omega
theorem ob67 {a0 a1 : Int} (h0 : (0 : Int) ≤ a0) (h1 : a1 = 0) : a1 ≤ a0 := by omega
theorem ob69 {a0 a1 a2 a3 a4 : Int} (h0 : a0 ≤ a1) (h1 : a1 ≤ a0) (h2 : a0 = (a2 - 1)) (h3 : a3 = a2 - a4) (h4 : a4 = 1) : a1 = a3 := by omega
end
section
/-! what is said of payments of the class, by parts -/
theorem cY_pos {y d : Int32} (h : y.toInt = 8) : d = (if y.toInt = 8 then d else y) := (if_pos h).symm
theorem cY_neg {y d : Int32} (h : ¬ (y.toInt = 8)) : y = (if y.toInt = 8 then d else y) := (if_neg h).symm
theorem cG_t {c : Int32} {T : kCt} {u : Nat} (h : (T.2.1.getD 0 0).toInt = (u : Int)) : (T.2.2.2.2.2.2.2 u).set c.toNatClampNeg ((T.2.2.2.2.2.2.2 u).getD c.toNatClampNeg 0 + cCoin T) = (cGive c T).2.2.2.2.2.2.2 u := by
  have t := Int32.toNat_toInt (T.2.1.getD 0 0)
  unfold cGive
  dsimp only
  rw [show Nat.beq u (T.2.1.getD 0 0).toNatClampNeg = true from (show (T.2.1.getD 0 0).toNatClampNeg = u by omega) ▸ Nat.beq_refl _]
  rfl
theorem cG_f {c : Int32} {T : kCt} {u : Nat} (h0 : 0 ≤ (T.2.1.getD 0 0).toInt) (h : (T.2.1.getD 0 0).toInt ≠ (u : Int)) : T.2.2.2.2.2.2.2 u = (cGive c T).2.2.2.2.2.2.2 u := by
  have t := Int32.toNat_toInt (T.2.1.getD 0 0)
  unfold cGive
  dsimp only
  cases eb : Nat.beq u (T.2.1.getD 0 0).toNatClampNeg with
  | true => exact absurd (Nat.eq_of_beq_eq_true eb) (by omega)
  | false => rfl
theorem kj_big {u : Nat} {x : Int} (hu : 8 ≤ u) (h : x < 8) : x ≠ (u : Int) := by omega
theorem cT_1 {p : Nat} {i : Nat → Int32} {a : Nat → List Int32} {T : kCt} (h : cT p i a = T) : i (64 * (p + 6) + 2) = T.1 ∧ a (p + 7) = T.2.1 ∧ a (p + 8) = T.2.2.1 ∧ a (p + 1) = T.2.2.2.1 ∧ i (64 * p + 14) = T.2.2.2.2.1 ∧ i (64 * p + 15) = T.2.2.2.2.2.1 ∧ a (p + 13) = T.2.2.2.2.2.2.1 ∧ ∀ u : Nat, u < 8 → a (p + 15 + u) = T.2.2.2.2.2.2.2 u := by
  subst h
  exact ⟨rfl, rfl, rfl, rfl, rfl, rfl, rfl, fun u hu => (cRow_lt hu).symm⟩
end
section
theorem koc1 : (1 : Int32).toInt = 1 := by decide
theorem koc0 : (0 : Int32).toInt = 0 := by decide
theorem koc8 : (8 : Int32).toInt = 8 := by decide
theorem koc2 : (2 : Int32).toInt = 2 := by decide
theorem oc0 {a0 a1 : Int} (h0 : a0 ≤ a1) (h1 : a1 ≤ 4) (h2 : a0 = 5) : False := by omega
theorem oc1 {a0 : Int} (h0 : (0 : Int) ≤ a0) : (0 : Int) ≤ a0 := oz3 h0
theorem oc2 {a0 : Int} (h0 : a0 ≤ 4) : a0 < 5 := by omega
theorem oc6 {a0 a1 a2 : Int} (h0 : a0 ≤ 4) (h1 : a1 = a0 + a2) (h2 : a2 = 1) : a1 ≤ 5 := by omega
theorem oc8 {a0 : Int} (h0 : a0 = 0) : (0 : Int) ≤ a0 := oz46 h0
theorem oc9 {a0 : Int} (h0 : a0 = 0) : a0 < 5 := oz547 h0
theorem oc10 {a0 a1 : Int} (h0 : a0 ≤ a1) (h1 : (1 : Int) ≤ a0) (h2 : a1 = 0) : False := by omega
theorem oc11 {a0 a1 : Int} (h0 : (1 : Int) ≤ a0) (h1 : a1 = 1) : (-2147483648 : Int) ≤ a0 - a1 := oz341 h0 h1
theorem oc12 {a0 a1 : Int} (h0 : a0 ≤ 5) (h1 : a1 = 1) : a0 - a1 ≤ 2147483647 := oz342 h0 h1
theorem oc13 {a0 a1 a2 : Int} (h0 : (1 : Int) ≤ a0) (h1 : a1 = a0 - a2) (h2 : a2 = 1) : (0 : Int) ≤ a1 := oz425 h0 h1 h2
theorem oc14 {a0 a1 a2 : Int} (h0 : a0 ≤ 5) (h1 : a1 = a0 - a2) (h2 : a2 = 1) : a1 ≤ 5 := oz1047 h0 h1 h2
theorem oc15 {a0 : Int} (h0 : a0 = 1) : (0 : Int) ≤ a0 := oz246 h0
theorem oc16 {a0 a1 a2 : Int} (h0 : a0 ≤ 5) (h1 : a1 = a0 - a2) (h2 : a2 = 1) : a2 + a1 ≤ 5 := oz1048 h0 h1 h2
theorem oc17 {a0 a1 a2 a3 : Int} (h0 : a0 ≤ 5) (h1 : a1 = a0 - a2) (h2 : a2 = 1) (h3 : a3 = 0) : a3 + a1 ≤ 5 := oz1049 h0 h1 h2 h3
theorem oc18 {a0 a1 a2 : Int} (h0 : a0 = a1 - a2) (h1 : a2 = 1) : a0 = (a1 - 1) := by omega
theorem oc19 {a0 : Int} (h0 : (1 : Int) ≤ a0) : (1 : Int) ≤ a0 := oz526 h0
theorem oc20 {a0 a1 : Int} (h0 : a0 = (a1 - 1)) : a0 = (a1 - 1) := oz376 h0
theorem oc21 {a0 a1 a2 : Int} (h0 : a0 = a1) : ¬ (a0 ≠ a1 ∧ 0 ≤ a0 ∧ a0 < a2) := by omega
theorem oc22 {a0 a1 a2 : Int} (h0 : a0 ≠ a1) (h1 : a0 = a2) (h2 : a1 = 8) : ¬ (a2 = 8) := ob26 h0 h1 h2
theorem oc27 {a0 a1 : Int} (h0 : a0 ≤ 8) (h1 : a1 < a0) : a1 < 8 := oz974 h0 h1
theorem oc28 {a0 : Int} (h0 : a0 ≤ 7) : a0 < 8 := oz1032 h0
theorem oc29 {a0 : Int} (h0 : a0 = 2) : (0 : Int) ≤ a0 := oz256 h0
theorem oc30 {a0 : Int} (h0 : a0 = 2) : a0 < 5 := oz549 h0
theorem oc32 {a0 a1 a2 a3 : Int} (h0 : a0 ≠ a1) (h1 : a2 = a3) (h2 : (0 : Int) ≤ a1) (h3 : a0 = 0) (h4 : (0 : Int) ≤ a0) (h5 : a0 < a2) : a0 ≠ a1 ∧ 0 ≤ a0 ∧ a0 < a3 := by omega
theorem oc33 {a0 : Int} (h0 : a0 = 0) (h1 : (0 : Int) ≤ a0) : a0 = ((0 : Nat) : Int) := by omega
theorem oc34 {a0 : Int} (h0 : a0 = 0) : a0 ≠ ((1 : Nat) : Int) := by omega
theorem oc35 {a0 : Int} (h0 : a0 = 0) : a0 ≠ ((2 : Nat) : Int) := by omega
theorem oc36 {a0 : Int} (h0 : a0 = 0) : a0 ≠ ((3 : Nat) : Int) := by omega
theorem oc37 {a0 : Int} (h0 : a0 = 0) : a0 ≠ ((4 : Nat) : Int) := by omega
theorem oc38 {a0 : Int} (h0 : a0 = 0) : a0 ≠ ((5 : Nat) : Int) := by omega
theorem oc39 {a0 : Int} (h0 : a0 = 0) : a0 ≠ ((6 : Nat) : Int) := by omega
theorem oc40 {a0 : Int} (h0 : a0 = 0) : a0 ≠ ((7 : Nat) : Int) := by omega
theorem oc41 {a0 : Int} (h0 : a0 = 0) : a0 < 8 := by omega
theorem oc42 {a0 a1 a2 a3 : Int} (h0 : a0 ≠ a1) (h1 : a2 = a3) (h2 : a0 = 1) (h3 : a0 < a2) : a0 ≠ a1 ∧ 0 ≤ a0 ∧ a0 < a3 := by omega
theorem oc43 {a0 : Int} (h0 : a0 = 1) : a0 ≠ ((0 : Nat) : Int) := by omega
theorem oc44 {a0 : Int} (h0 : a0 = 1) : a0 = ((1 : Nat) : Int) := by omega
theorem oc45 {a0 : Int} (h0 : a0 = 1) : a0 ≠ ((2 : Nat) : Int) := by omega
theorem oc46 {a0 : Int} (h0 : a0 = 1) : a0 ≠ ((3 : Nat) : Int) := by omega
theorem oc47 {a0 : Int} (h0 : a0 = 1) : a0 ≠ ((4 : Nat) : Int) := by omega
theorem oc48 {a0 : Int} (h0 : a0 = 1) : a0 ≠ ((5 : Nat) : Int) := by omega
theorem oc49 {a0 : Int} (h0 : a0 = 1) : a0 ≠ ((6 : Nat) : Int) := by omega
theorem oc50 {a0 : Int} (h0 : a0 = 1) : a0 ≠ ((7 : Nat) : Int) := by omega
theorem oc51 {a0 : Int} (h0 : a0 = 1) : a0 < 8 := oz1382 h0
theorem oc52 {a0 a1 a2 a3 : Int} (h0 : a0 ≠ a1) (h1 : a2 = a3) (h2 : a0 = 2) (h3 : a0 < a2) : a0 ≠ a1 ∧ 0 ≤ a0 ∧ a0 < a3 := by omega
theorem oc53 {a0 : Int} (h0 : a0 = 2) : a0 ≠ ((0 : Nat) : Int) := by omega
theorem oc54 {a0 : Int} (h0 : a0 = 2) : a0 ≠ ((1 : Nat) : Int) := by omega
theorem oc55 {a0 : Int} (h0 : a0 = 2) : a0 = ((2 : Nat) : Int) := by omega
theorem oc56 {a0 : Int} (h0 : a0 = 2) : a0 ≠ ((3 : Nat) : Int) := by omega
theorem oc57 {a0 : Int} (h0 : a0 = 2) : a0 ≠ ((4 : Nat) : Int) := by omega
theorem oc58 {a0 : Int} (h0 : a0 = 2) : a0 ≠ ((5 : Nat) : Int) := by omega
theorem oc59 {a0 : Int} (h0 : a0 = 2) : a0 ≠ ((6 : Nat) : Int) := by omega
theorem oc60 {a0 : Int} (h0 : a0 = 2) : a0 ≠ ((7 : Nat) : Int) := by omega
theorem oc61 {a0 : Int} (h0 : a0 = 2) : a0 < 8 := oz1410 h0
theorem oc62 {a0 a1 a2 a3 : Int} (h0 : a0 ≠ a1) (h1 : a2 = a3) (h2 : a0 = 3) (h3 : a0 < a2) : a0 ≠ a1 ∧ 0 ≤ a0 ∧ a0 < a3 := by omega
theorem oc63 {a0 : Int} (h0 : a0 = 3) : (0 : Int) ≤ a0 := oz260 h0
theorem oc64 {a0 : Int} (h0 : a0 = 3) : a0 ≠ ((0 : Nat) : Int) := by omega
theorem oc65 {a0 : Int} (h0 : a0 = 3) : a0 ≠ ((1 : Nat) : Int) := by omega
theorem oc66 {a0 : Int} (h0 : a0 = 3) : a0 ≠ ((2 : Nat) : Int) := by omega
theorem oc67 {a0 : Int} (h0 : a0 = 3) : a0 = ((3 : Nat) : Int) := by omega
theorem oc68 {a0 : Int} (h0 : a0 = 3) : a0 ≠ ((4 : Nat) : Int) := by omega
theorem oc69 {a0 : Int} (h0 : a0 = 3) : a0 ≠ ((5 : Nat) : Int) := by omega
theorem oc70 {a0 : Int} (h0 : a0 = 3) : a0 ≠ ((6 : Nat) : Int) := by omega
theorem oc71 {a0 : Int} (h0 : a0 = 3) : a0 ≠ ((7 : Nat) : Int) := by omega
theorem oc72 {a0 : Int} (h0 : a0 = 3) : a0 < 8 := oz1420 h0
theorem oc73 {a0 a1 a2 a3 : Int} (h0 : a0 ≠ a1) (h1 : a2 = a3) (h2 : a0 = 4) (h3 : a0 < a2) : a0 ≠ a1 ∧ 0 ≤ a0 ∧ a0 < a3 := by omega
theorem oc74 {a0 : Int} (h0 : a0 = 4) : (0 : Int) ≤ a0 := oz262 h0
theorem oc75 {a0 : Int} (h0 : a0 = 4) : a0 ≠ ((0 : Nat) : Int) := by omega
theorem oc76 {a0 : Int} (h0 : a0 = 4) : a0 ≠ ((1 : Nat) : Int) := by omega
theorem oc77 {a0 : Int} (h0 : a0 = 4) : a0 ≠ ((2 : Nat) : Int) := by omega
theorem oc78 {a0 : Int} (h0 : a0 = 4) : a0 ≠ ((3 : Nat) : Int) := by omega
theorem oc79 {a0 : Int} (h0 : a0 = 4) : a0 = ((4 : Nat) : Int) := by omega
theorem oc80 {a0 : Int} (h0 : a0 = 4) : a0 ≠ ((5 : Nat) : Int) := by omega
theorem oc81 {a0 : Int} (h0 : a0 = 4) : a0 ≠ ((6 : Nat) : Int) := by omega
theorem oc82 {a0 : Int} (h0 : a0 = 4) : a0 ≠ ((7 : Nat) : Int) := by omega
theorem oc83 {a0 : Int} (h0 : a0 = 4) : a0 < 8 := oz1445 h0
theorem oc84 {a0 a1 a2 a3 : Int} (h0 : a0 ≠ a1) (h1 : a2 = a3) (h2 : a0 = 5) (h3 : a0 < a2) : a0 ≠ a1 ∧ 0 ≤ a0 ∧ a0 < a3 := by omega
theorem oc85 {a0 : Int} (h0 : a0 = 5) : (0 : Int) ≤ a0 := oz264 h0
theorem oc86 {a0 : Int} (h0 : a0 = 5) : a0 ≠ ((0 : Nat) : Int) := by omega
theorem oc87 {a0 : Int} (h0 : a0 = 5) : a0 ≠ ((1 : Nat) : Int) := by omega
theorem oc88 {a0 : Int} (h0 : a0 = 5) : a0 ≠ ((2 : Nat) : Int) := by omega
theorem oc89 {a0 : Int} (h0 : a0 = 5) : a0 ≠ ((3 : Nat) : Int) := by omega
theorem oc90 {a0 : Int} (h0 : a0 = 5) : a0 ≠ ((4 : Nat) : Int) := by omega
theorem oc91 {a0 : Int} (h0 : a0 = 5) : a0 = ((5 : Nat) : Int) := by omega
theorem oc92 {a0 : Int} (h0 : a0 = 5) : a0 ≠ ((6 : Nat) : Int) := by omega
theorem oc93 {a0 : Int} (h0 : a0 = 5) : a0 ≠ ((7 : Nat) : Int) := by omega
theorem oc94 {a0 : Int} (h0 : a0 = 5) : a0 < 8 := oz1469 h0
theorem oc95 {a0 a1 a2 a3 : Int} (h0 : a0 ≠ a1) (h1 : a2 = a3) (h2 : a0 = 6) (h3 : a0 < a2) : a0 ≠ a1 ∧ 0 ≤ a0 ∧ a0 < a3 := by omega
theorem oc96 {a0 : Int} (h0 : a0 = 6) : (0 : Int) ≤ a0 := oz1130 h0
theorem oc97 {a0 : Int} (h0 : a0 = 6) : a0 ≠ ((0 : Nat) : Int) := by omega
theorem oc98 {a0 : Int} (h0 : a0 = 6) : a0 ≠ ((1 : Nat) : Int) := by omega
theorem oc99 {a0 : Int} (h0 : a0 = 6) : a0 ≠ ((2 : Nat) : Int) := by omega
theorem oc100 {a0 : Int} (h0 : a0 = 6) : a0 ≠ ((3 : Nat) : Int) := by omega
theorem oc101 {a0 : Int} (h0 : a0 = 6) : a0 ≠ ((4 : Nat) : Int) := by omega
theorem oc102 {a0 : Int} (h0 : a0 = 6) : a0 ≠ ((5 : Nat) : Int) := by omega
theorem oc103 {a0 : Int} (h0 : a0 = 6) : a0 = ((6 : Nat) : Int) := by omega
theorem oc104 {a0 : Int} (h0 : a0 = 6) : a0 ≠ ((7 : Nat) : Int) := by omega
theorem oc105 {a0 : Int} (h0 : a0 = 6) : a0 < 8 := oz1485 h0
theorem oc106 {a0 a1 a2 a3 : Int} (h0 : a0 ≠ a1) (h1 : a2 = a3) (h2 : a1 ≤ 7) (h3 : a0 = 7) (h4 : a0 < a2) : a0 ≠ a1 ∧ 0 ≤ a0 ∧ a0 < a3 := by omega
theorem oc107 {a0 : Int} (h0 : a0 = 7) : (0 : Int) ≤ a0 := oz1133 h0
theorem oc108 {a0 : Int} (h0 : a0 = 7) : a0 ≠ ((0 : Nat) : Int) := by omega
theorem oc109 {a0 : Int} (h0 : a0 = 7) : a0 ≠ ((1 : Nat) : Int) := by omega
theorem oc110 {a0 : Int} (h0 : a0 = 7) : a0 ≠ ((2 : Nat) : Int) := by omega
theorem oc111 {a0 : Int} (h0 : a0 = 7) : a0 ≠ ((3 : Nat) : Int) := by omega
theorem oc112 {a0 : Int} (h0 : a0 = 7) : a0 ≠ ((4 : Nat) : Int) := by omega
theorem oc113 {a0 : Int} (h0 : a0 = 7) : a0 ≠ ((5 : Nat) : Int) := by omega
theorem oc114 {a0 : Int} (h0 : a0 = 7) : a0 ≠ ((6 : Nat) : Int) := by omega
theorem oc115 {a0 : Int} (h0 : a0 = 7) : a0 = ((7 : Nat) : Int) := by omega
theorem oc116 {a0 : Int} (h0 : a0 = 7) : a0 < 8 := oz1494 h0
theorem oc117 {a0 a1 : Int} (h0 : a0 ≤ 8) (h1 : ¬ (a1 = 0)) (h2 : ¬ (a1 = 1)) (h3 : ¬ (a1 = 2)) (h4 : ¬ (a1 = 3)) (h5 : ¬ (a1 = 4)) (h6 : ¬ (a1 = 5)) (h7 : ¬ (a1 = 6)) (h8 : ¬ (a1 = 7)) (h9 : (0 : Int) ≤ a1) (h10 : a1 < a0) : False := oz1051 h0 h1 h2 h3 h4 h5 h6 h7 h8 h9 h10
theorem oc118 {a0 a1 a2 a3 : Int} (h0 : a0 = a1) (h1 : ¬ (((0 : Int) ≤ a2) ∧ (a2 < a0))) : ¬ (a2 ≠ a3 ∧ 0 ≤ a2 ∧ a2 < a1) := by omega
theorem oc119 {a0 a1 a2 : Int} (h0 : a0 = a1) (h1 : a0 = a2) (h2 : a1 = 8) : a2 = 8 := by omega
noncomputable def yw2_7 : kW := ([450], [8, 9], [], [])
set_option maxRecDepth 100000 in
theorem ke2_7 {i : Nat → Int32} {a : Nat → List Int32} {q : Nat → List Int64} {r : Nat → Nat} (hI : kI i a q) (hr : kr r) (hp0 : (1 : Int) ≤ (i 450).toInt) : km 1 2 [.ref 7] (ks i a q r) (kVN yw2_7 i a q r (fun i1 a1 q1 r1 => ((i1 450).toInt = ((i 450).toInt - 1)) ∧ (i1 450 = i 450 - 1 ∧ a1 8 = mi_cpy (a 8) (a 8) (1 : Int32).toNatClampNeg (0 : Int32).toNatClampNeg (i 450 - 1).toNatClampNeg ∧ a1 9 = mi_cpy (a 9) (a 9) (1 : Int32).toNatClampNeg (0 : Int32).toNatClampNeg (i 450 - 1).toNatClampNeg))) := by
  have hG := kG_self yw2_7 hI hr
  refine km_ofN (q := (mi_h2, mi_c2)) rfl (by decide) (Nat.le_of_ble_eq_true rfl) ?_
  intro P hP
  have fi_450 : ((0 : Int) ≤ (i 450).toInt) ∧ ((i 450).toInt ≤ 5) := hG.I.1 450
  refine fo_goL mi_k2 fz2_0_2_4 [(0, .ref 7)] [.int (i 450)] rfl ?_
  refine ft_ifS mi_k2 (decide ((i 450) ≤ 0)) 51 7 [] (by rfl) (fun c => ?_) (fun c => ?_)
  ·
    have c1 : (i 450).toInt ≤ (0 : Int32).toInt := kd_le c; clear c
    exact (oc10 c1 hp0 koc0).elim
  ·
    have c2 : (0 : Int32).toInt < (i 450).toInt := kd_leF c; clear c
    have s3 : ((i 450) - 1).toInt = (i 450).toInt - (1 : Int32).toInt := kd_sub (oc11 hp0 koc1) (oc12 fi_450.2 koc1)
    have hJ4 := kG_i hG 450 rfl (v := ((i 450) - 1)) ⟨(oc13 hp0 s3 koc1), (oc14 fi_450.2 s3 koc1)⟩
    first | refine fo_goI mi_k2 fz2_7_14_31 [.int ((i 450) - 1), .int 0, .ref 8, .int 1, .ref 8] (ku i 450 ((i 450) - 1)) (by rfl) ?_ | refine ft_go mi_k2 14 31 [(0, .ref 7)] [.int ((i 450) - 1), .int 0, .ref 8, .int 1, .ref 8] (ku i 450 ((i 450) - 1)) a q r (by rfl) ?_
    refine ko_copyI3 mi_k2.1 (n := 5) (c := 5) (m := 5) (b := 5) (mi_k2.2 _ _ (by rfl)) (by rfl) (by rfl) (by rfl) (ksG8 _ _ _ _) (ksG8 _ _ _ _) (ksA8 _ _ _ _) (hJ4.I.2.1 8) rfl (hJ4.I.2.1 8) rfl (oc13 hp0 s3 koc1) (oc15 koc1) (oc8 koc0) (oc16 fi_450.2 s3 koc1) (oc17 fi_450.2 s3 koc1 koc0) ?_
    intro a6 ea6 fa6
    have hJ6 := kG_al3 hJ4 8 rfl ea6 fa6 (kcpy_len2 (n := 5) (c := 5) (m := 5) (b := 5) (sp := 1) (dp := 0) (n1 := ((i 450) - 1)) (hJ4.I.2.1 8) rfl (hJ4.I.2.1 8) rfl (oc13 hp0 s3 koc1) (oc15 koc1) (oc8 koc0) (oc16 fi_450.2 s3 koc1) (oc17 fi_450.2 s3 koc1 koc0)) (fun _ => kd_bd _)
    refine fo_goS mi_k2 fz2_34_8_48 [.int ((i 450) - 1), .int 0, .ref 9, .int 1, .ref 9] rfl ?_
    refine ko_copyI3 mi_k2.1 (n := 5) (c := 5) (m := 5) (b := 5) (mi_k2.2 _ _ (by rfl)) (by rfl) (by rfl) (by rfl) (ksG9 _ _ _ _) (ksG9 _ _ _ _) (ksA9 _ _ _ _) (hJ6.I.2.1 9) rfl (hJ6.I.2.1 9) rfl (oc13 hp0 s3 koc1) (oc15 koc1) (oc8 koc0) (oc16 fi_450.2 s3 koc1) (oc17 fi_450.2 s3 koc1 koc0) ?_
    intro a8 ea8 fa8
    have hJ8 := kG_al3 hJ6 9 rfl ea8 fa8 (kcpy_len2 (n := 5) (c := 5) (m := 5) (b := 5) (sp := 1) (dp := 0) (n1 := ((i 450) - 1)) (hJ6.I.2.1 9) rfl (hJ6.I.2.1 9) rfl (oc13 hp0 s3 koc1) (oc15 koc1) (oc8 koc0) (oc16 fi_450.2 s3 koc1) (oc17 fi_450.2 s3 koc1 koc0)) (fun _ => kd_bd _)
    exact ft_ret mi_k2 (by rfl) (hP  _ _ _ _ hJ8 ⟨(oc18 s3 koc1), ⟨(show ((i 450) - 1) = i 450 - 1 from (by first | rfl | (simp only [sMn, sMx]; done) | (simp only [sMn, sMx]; rfl))), (show a8 8 = mi_cpy (a 8) (a 8) (1 : Int32).toNatClampNeg (0 : Int32).toNatClampNeg (i 450 - 1).toNatClampNeg from (by first | rfl | (simp only [fa8 8 (by decide), ea6, sMn, sMx]; done) | (simp only [fa8 8 (by decide), ea6, sMn, sMx]; rfl))), (show a8 9 = mi_cpy (a 9) (a 9) (1 : Int32).toNatClampNeg (0 : Int32).toNatClampNeg (i 450 - 1).toNatClampNeg from (by first | rfl | (simp only [ea8, fa6 9 (by decide), sMn, sMx]; done) | (simp only [ea8, fa6 9 (by decide), sMn, sMx]; rfl)))⟩⟩)
noncomputable def yw30_1 : kW := ([78, 79, 450], [2, 8, 9, 14, 16, 17, 18, 19, 20, 21, 22, 23], [], [])
set_option maxRecDepth 100000 in
theorem ke30_1 {i : Nat → Int32} {a : Nat → List Int32} {q : Nat → List Int64} {r : Nat → Nat} (hI : kI i a q) (hr : kr r) (x1 : Int32) (hp0 : ((0 : Int) ≤ x1.toInt) ∧ (x1.toInt ≤ 7)) (hp1 : (1 : Int) ≤ (i 450).toInt) : km 3 30 [.ref 1, .int x1] (ks i a q r) (kVN yw30_1 i a q r (fun i1 a1 q1 r1 => ((i1 450).toInt = ((i 450).toInt - 1)) ∧ cT 1 i1 a1 = cPay (i 64) x1 (cT 1 i a))) := by
  have hG := kG_self yw30_1 hI hr
  refine km_ofN (q := (mi_h30, mi_c30)) rfl (by decide) (Nat.le_of_ble_eq_true rfl) ?_
  intro P hP
  refine fo_goL mi_k30 fz30_0_4_8 [(0, .ref 1), (1, .int x1)] [.int 0, .ref 8] rfl ?_
  refine ko_iald3 mi_k30.1 (n := 5) (c := 5) (ax := (0, 0, 0, 0, 0)) (mi_k30.2 _ _ (by rfl)) (by rfl) (ksG8 _ _ _ _) (hG.I.2.1 8) rfl (oc8 koc0) (oc9 koc0) ?_
  refine fo_goL mi_k30 fz30_9_5_18 [(2, .int ((a 8).getD (0 : Int32).toNatClampNeg 0)), (0, .ref 1), (1, .int x1)] [.int 0, .ref 9] rfl ?_
  refine ko_iald3 mi_k30.1 (n := 5) (c := 5) (ax := (0, 0, 0, 0, 0)) (mi_k30.2 _ _ (by rfl)) (by rfl) (ksG9 _ _ _ _) (hG.I.2.1 9) rfl (oc8 koc0) (oc9 koc0) ?_
  refine fo_goL mi_k30 fz30_19_3_24 [(3, .int ((a 9).getD (0 : Int32).toNatClampNeg 0)), (2, .int ((a 8).getD (0 : Int32).toNatClampNeg 0)), (0, .ref 1), (1, .int x1)] [.ref 7] rfl ?_
  refine ko_callN mi_k30.1 (pc := 24) (ls := [(3, .int ((a 9).getD (0 : Int32).toNatClampNeg 0)), (2, .int ((a 8).getD (0 : Int32).toNatClampNeg 0)), (0, .ref 1), (1, .int x1)]) (st := [.ref 7]) (h := ks i a q r) (i := (.invokevirtual 114, 3, 2, 0, 9, 0, 222)) (mi_k30.2 _ _ (by rfl)) (ft_invS mi_pq2 (by rfl)) (cy := mi_c2) mi_pq2 rfl (ke2_7 hG.I hG.R (oc19 hp1)) (by decide) ?_
  intro ig1 ag1 qg1 rg1 kg1 hg1
  have hGg1 := kG_call hG kg1 (by decide +kernel)
  obtain ⟨hg1, og1⟩ := hg1
  have z2 : (ig1 450).toInt = ((i 450).toInt - 1) := hg1
  have q3 : ig1 450 = i 450 - 1 := og1.1
  have q4 : ag1 8 = mi_cpy (a 8) (a 8) (1 : Int32).toNatClampNeg (0 : Int32).toNatClampNeg (i 450 - 1).toNatClampNeg := og1.2.1
  have q5 : ag1 9 = mi_cpy (a 9) (a 9) (1 : Int32).toNatClampNeg (0 : Int32).toNatClampNeg (i 450 - 1).toNatClampNeg := og1.2.2
  have efig1_78 : (ig1 78).toInt = (i 78).toInt := kg1.ti 78 rfl
  refine fo_goS mi_k30 fz30_27_3_33 [.int 8, .int (ig1 78)] rfl ?_
  refine ft_ifS mi_k30 ((ig1 78) != 8) 41 36 [] (by rfl) (fun c => ?_) (fun c => ?_)
  ·
    have c6 : (ig1 78).toInt ≠ (8 : Int32).toInt := kd_ne c; clear c
    refine fo_goS mi_k30 fz30_41_2_43 [.int x1, .int ((a 8).getD (0 : Int32).toNatClampNeg 0)] rfl ?_
    refine ft_ifS mi_k30 (((a 8).getD (0 : Int32).toNatClampNeg 0) == x1) 54 46 [] (by rfl) (fun c => ?_) (fun c => ?_)
    ·
      have c7 : ((a 8).getD (0 : Int32).toNatClampNeg 0).toInt = x1.toInt := kd_eq c; clear c
      exact ft_ret mi_k30 (by rfl) (hP  _ _ _ _ hGg1 ⟨(oc20 z2), ((cT_eq (p := 1) (i := ig1) (a := ag1) (T := cRest (cT 1 i a)) (show ig1 450 = (cRest (cT 1 i a)).1 from by first | rfl | (simp only [q3, sMn, sMx, cGive, cRest, cCoin, cT]; done) | (simp only [q3, sMn, sMx, cGive, cRest, cCoin, cT]; rfl)) (show ag1 8 = (cRest (cT 1 i a)).2.1 from by first | rfl | (simp only [q4, sMn, sMx, cGive, cRest, cCoin, cT]; done) | (simp only [q4, sMn, sMx, cGive, cRest, cCoin, cT]; rfl)) (show ag1 9 = (cRest (cT 1 i a)).2.2.1 from by first | rfl | (simp only [q5, sMn, sMx, cGive, cRest, cCoin, cT]; done) | (simp only [q5, sMn, sMx, cGive, cRest, cCoin, cT]; rfl)) (show ag1 2 = (cRest (cT 1 i a)).2.2.2.1 from by first | rfl | (simp only [kg1.fa 2 rfl, sMn, sMx, cGive, cRest, cCoin, cT]; done) | (simp only [kg1.fa 2 rfl, sMn, sMx, cGive, cRest, cCoin, cT]; rfl)) ((show ig1 78 = i 78 from (by first | rfl | (simp only [(kg1.fi 78 rfl : ig1 78 = i 78), sMn, sMx]; done) | (simp only [(kg1.fi 78 rfl : ig1 78 = i 78), sMn, sMx]; rfl))).trans (cY_neg (y := i 78) (d := (a 8).getD 0 0) (oc22 c6 efig1_78 koc8))) (show ig1 79 = (cRest (cT 1 i a)).2.2.2.2.2.1 from by first | rfl | (simp only [(kg1.fi 79 rfl : ig1 79 = i 79), sMn, sMx, cGive, cRest, cCoin, cT]; done) | (simp only [(kg1.fi 79 rfl : ig1 79 = i 79), sMn, sMx, cGive, cRest, cCoin, cT]; rfl)) (show ag1 14 = (cRest (cT 1 i a)).2.2.2.2.2.2.1 from by first | rfl | (simp only [kg1.fa 14 rfl, sMn, sMx, cGive, cRest, cCoin, cT]; done) | (simp only [kg1.fa 14 rfl, sMn, sMx, cGive, cRest, cCoin, cT]; rfl)) (fun u hu => match u, hu with | 0, _ => (show ag1 16 = cRow 1 a 0 from by rw [cRow_lt (p := 1) (a := a) (by decide : 0 < 8)]; first | rfl | (simp only [kg1.fa 16 rfl, sMn, sMx, cCoin, cT]; done) | (simp only [kg1.fa 16 rfl, sMn, sMx, cCoin, cT]; rfl)) | 1, _ => (show ag1 17 = cRow 1 a 1 from by rw [cRow_lt (p := 1) (a := a) (by decide : 1 < 8)]; first | rfl | (simp only [kg1.fa 17 rfl, sMn, sMx, cCoin, cT]; done) | (simp only [kg1.fa 17 rfl, sMn, sMx, cCoin, cT]; rfl)) | 2, _ => (show ag1 18 = cRow 1 a 2 from by rw [cRow_lt (p := 1) (a := a) (by decide : 2 < 8)]; first | rfl | (simp only [kg1.fa 18 rfl, sMn, sMx, cCoin, cT]; done) | (simp only [kg1.fa 18 rfl, sMn, sMx, cCoin, cT]; rfl)) | 3, _ => (show ag1 19 = cRow 1 a 3 from by rw [cRow_lt (p := 1) (a := a) (by decide : 3 < 8)]; first | rfl | (simp only [kg1.fa 19 rfl, sMn, sMx, cCoin, cT]; done) | (simp only [kg1.fa 19 rfl, sMn, sMx, cCoin, cT]; rfl)) | 4, _ => (show ag1 20 = cRow 1 a 4 from by rw [cRow_lt (p := 1) (a := a) (by decide : 4 < 8)]; first | rfl | (simp only [kg1.fa 20 rfl, sMn, sMx, cCoin, cT]; done) | (simp only [kg1.fa 20 rfl, sMn, sMx, cCoin, cT]; rfl)) | 5, _ => (show ag1 21 = cRow 1 a 5 from by rw [cRow_lt (p := 1) (a := a) (by decide : 5 < 8)]; first | rfl | (simp only [kg1.fa 21 rfl, sMn, sMx, cCoin, cT]; done) | (simp only [kg1.fa 21 rfl, sMn, sMx, cCoin, cT]; rfl)) | 6, _ => (show ag1 22 = cRow 1 a 6 from by rw [cRow_lt (p := 1) (a := a) (by decide : 6 < 8)]; first | rfl | (simp only [kg1.fa 22 rfl, sMn, sMx, cCoin, cT]; done) | (simp only [kg1.fa 22 rfl, sMn, sMx, cCoin, cT]; rfl)) | 7, _ => (show ag1 23 = cRow 1 a 7 from by rw [cRow_lt (p := 1) (a := a) (by decide : 7 < 8)]; first | rfl | (simp only [kg1.fa 23 rfl, sMn, sMx, cCoin, cT]; done) | (simp only [kg1.fa 23 rfl, sMn, sMx, cCoin, cT]; rfl)) | _ + 8, h => absurd h (by omega)) (fun u hu => cRow_ge hu)).trans (show cRest (cT 1 i a) = cPay (i 64) x1 (cT 1 i a) from (if_neg (oc21 c7)).symm))⟩)
    ·
      have c8 : ((a 8).getD (0 : Int32).toNatClampNeg 0).toInt ≠ x1.toInt := kd_eqF c; clear c
      refine fo_goS mi_k30 fz30_46_2_48 [.int ((a 8).getD (0 : Int32).toNatClampNeg 0), .ref 1] rfl ?_
      refine ko_callPI mi_k30.1 (pc := 48) (ls := [(3, .int ((a 9).getD (0 : Int32).toNatClampNeg 0)), (2, .int ((a 8).getD (0 : Int32).toNatClampNeg 0)), (0, .ref 1), (1, .int x1)]) (st := [.int ((a 8).getD (0 : Int32).toNatClampNeg 0), .ref 1]) (h := ks ig1 ag1 qg1 rg1) (i := (.invokevirtual 85, 3, 24, 0, 9, 0, 165)) (mi_k30.2 _ _ (by rfl)) (ft_invS mi_pq24 (by rfl)) (cy := mi_c24) mi_pq24 rfl (kc24_1 hGg1.I hGg1.R ((a 8).getD (0 : Int32).toNatClampNeg 0)) (by decide) ?_
      intro vg9 hg9
      rcases hg9 with ⟨eg9, hg9⟩ | ⟨eg9, hg9⟩
      ·
        subst eg9
        have fig1_64 : ((0 : Int) ≤ (ig1 64).toInt) ∧ ((ig1 64).toInt ≤ 8) := hGg1.I.1 64
        have efig1_64 : (ig1 64).toInt = (i 64).toInt := kg1.ti 64 rfl
        have z10 : ((0 : Int) ≤ ((a 8).getD (0 : Int32).toNatClampNeg 0).toInt) ∧ (((a 8).getD (0 : Int32).toNatClampNeg 0).toInt < (ig1 64).toInt) := hg9
        first | refine fo_goS mi_k30 fz30_51_5_61 [.int ((a 8).getD (0 : Int32).toNatClampNeg 0), .ref 2, .int ((a 9).getD (0 : Int32).toNatClampNeg 0)] (by rfl) ?_ | refine ft_goS mi_k30 5 61 [.int ((a 8).getD (0 : Int32).toNatClampNeg 0), .ref 2, .int ((a 9).getD (0 : Int32).toNatClampNeg 0)] (by rfl) ?_ | refine ko_steps mi_in30 5 _ (61, [(3, .int ((a 9).getD (0 : Int32).toNatClampNeg 0)), (2, .int ((a 8).getD (0 : Int32).toNatClampNeg 0)), (0, .ref 1), (1, .int x1)], [.int ((a 8).getD (0 : Int32).toNatClampNeg 0), .ref 2, .int ((a 9).getD (0 : Int32).toNatClampNeg 0)], (0, 0), ks ig1 ag1 qg1 rg1) (by rfl) ?_
        refine ko_iald3 mi_k30.1 (n := 8) (c := 8) (ax := (0, 0, 0, 0, 0)) (mi_k30.2 _ _ (by rfl)) (by rfl) (ksG2 _ _ _ _) (hGg1.I.2.1 2) rfl (oc1 z10.1) (oc27 fig1_64.2 z10.2) ?_
        have m12 : (((bif decide (((ag1 2).getD ((a 8).getD (0 : Int32).toNatClampNeg 0).toNatClampNeg 0) < ((a 9).getD (0 : Int32).toNatClampNeg 0)) then ((ag1 2).getD ((a 8).getD (0 : Int32).toNatClampNeg 0).toNatClampNeg 0) else ((a 9).getD (0 : Int32).toNatClampNeg 0)).toInt ≤ ((a 9).getD (0 : Int32).toNatClampNeg 0).toInt) ∧ ((bif decide (((ag1 2).getD ((a 8).getD (0 : Int32).toNatClampNeg 0).toNatClampNeg 0) < ((a 9).getD (0 : Int32).toNatClampNeg 0)) then ((ag1 2).getD ((a 8).getD (0 : Int32).toNatClampNeg 0).toNatClampNeg 0) else ((a 9).getD (0 : Int32).toNatClampNeg 0)).toInt ≤ ((ag1 2).getD ((a 8).getD (0 : Int32).toNatClampNeg 0).toNatClampNeg 0).toInt)) ∧ ((bif decide (((ag1 2).getD ((a 8).getD (0 : Int32).toNatClampNeg 0).toNatClampNeg 0) < ((a 9).getD (0 : Int32).toNatClampNeg 0)) then ((ag1 2).getD ((a 8).getD (0 : Int32).toNatClampNeg 0).toNatClampNeg 0) else ((a 9).getD (0 : Int32).toNatClampNeg 0)).toInt = ((a 9).getD (0 : Int32).toNatClampNeg 0).toInt ∨ (bif decide (((ag1 2).getD ((a 8).getD (0 : Int32).toNatClampNeg 0).toNatClampNeg 0) < ((a 9).getD (0 : Int32).toNatClampNeg 0)) then ((ag1 2).getD ((a 8).getD (0 : Int32).toNatClampNeg 0).toNatClampNeg 0) else ((a 9).getD (0 : Int32).toNatClampNeg 0)).toInt = ((ag1 2).getD ((a 8).getD (0 : Int32).toNatClampNeg 0).toNatClampNeg 0).toInt) := kd_min
        first | refine ft_goS mi_k30 1 65 [.int (bif decide (((ag1 2).getD ((a 8).getD (0 : Int32).toNatClampNeg 0).toNatClampNeg 0) < ((a 9).getD (0 : Int32).toNatClampNeg 0)) then ((ag1 2).getD ((a 8).getD (0 : Int32).toNatClampNeg 0).toNatClampNeg 0) else ((a 9).getD (0 : Int32).toNatClampNeg 0))] (by rfl) ?_ | refine ko_steps mi_in30 1 _ (65, [(3, .int ((a 9).getD (0 : Int32).toNatClampNeg 0)), (2, .int ((a 8).getD (0 : Int32).toNatClampNeg 0)), (0, .ref 1), (1, .int x1)], [.int (bif decide (((ag1 2).getD ((a 8).getD (0 : Int32).toNatClampNeg 0).toNatClampNeg 0) < ((a 9).getD (0 : Int32).toNatClampNeg 0)) then ((ag1 2).getD ((a 8).getD (0 : Int32).toNatClampNeg 0).toNatClampNeg 0) else ((a 9).getD (0 : Int32).toNatClampNeg 0))], (0, 0), ks ig1 ag1 qg1 rg1) (by rfl) ?_
        generalize hm11 : (bif decide (((ag1 2).getD ((a 8).getD (0 : Int32).toNatClampNeg 0).toNatClampNeg 0) < ((a 9).getD (0 : Int32).toNatClampNeg 0)) then ((ag1 2).getD ((a 8).getD (0 : Int32).toNatClampNeg 0).toNatClampNeg 0) else ((a 9).getD (0 : Int32).toNatClampNeg 0)) = m11 at m12 ⊢
        have qm11 := hm11.symm
        refine fo_goL mi_k30 fz30_65_5_73 [(4, .int m11), (3, .int ((a 9).getD (0 : Int32).toNatClampNeg 0)), (2, .int ((a 8).getD (0 : Int32).toNatClampNeg 0)), (0, .ref 1), (1, .int x1)] [.int ((a 8).getD (0 : Int32).toNatClampNeg 0), .ref 2, .int ((a 8).getD (0 : Int32).toNatClampNeg 0), .ref 2] rfl ?_
        refine ko_iald3 mi_k30.1 (n := 8) (c := 8) (ax := (0, 0, 0, 0, 0)) (mi_k30.2 _ _ (by rfl)) (by rfl) (ksG2 _ _ _ _) (hGg1.I.2.1 2) rfl (oc1 z10.1) (oc27 fig1_64.2 z10.2) ?_
        have b13 : ((-2147483648 : Int) ≤ ((ag1 2).getD ((a 8).getD (0 : Int32).toNatClampNeg 0).toNatClampNeg 0).toInt) ∧ (((ag1 2).getD ((a 8).getD (0 : Int32).toNatClampNeg 0).toNatClampNeg 0).toInt ≤ 2147483647) := kd_bd ((ag1 2).getD ((a 8).getD (0 : Int32).toNatClampNeg 0).toNatClampNeg 0)
        have b14 : ((-2147483648 : Int) ≤ m11.toInt) ∧ (m11.toInt ≤ 2147483647) := kd_bd m11
        refine fo_goS mi_k30 fz30_74_2_77 [.int (((ag1 2).getD ((a 8).getD (0 : Int32).toNatClampNeg 0).toNatClampNeg 0) - m11), .int ((a 8).getD (0 : Int32).toNatClampNeg 0), .ref 2] rfl ?_
        refine ko_iast3 mi_k30.1 (n := 8) (c := 8) (ax := (0, 0, 0, 0, 0)) (mi_k30.2 _ _ (by rfl)) (by rfl) (ksG2 _ _ _ _) (ksA2 _ _ _ _) (hGg1.I.2.1 2) rfl (oc1 z10.1) (oc27 fig1_64.2 z10.2) ?_
        intro a15 ea15 fa15
        have hJ15 := kG_a3 hGg1 2 rfl ea15 fa15 (kd_bd _)
        refine fo_goS mi_k30 fz30_78_7_91 [.int x1, .ref 2, .int 999, .int x1, .ref 2] rfl ?_
        refine ko_iald3 mi_k30.1 (n := 8) (c := 8) (ax := (0, 0, 0, 0, 0)) (mi_k30.2 _ _ (by rfl)) (by rfl) (ksG2 _ _ _ _) (hJ15.I.2.1 2) rfl (oc1 hp0.1) (oc28 hp0.2) ?_
        have b16 : ((-2147483648 : Int) ≤ ((a15 2).getD x1.toNatClampNeg 0).toInt) ∧ (((a15 2).getD x1.toNatClampNeg 0).toInt ≤ 2147483647) := kd_bd ((a15 2).getD x1.toNatClampNeg 0)
        refine fo_goS mi_k30 fz30_92_2_95 [.int (((a15 2).getD x1.toNatClampNeg 0) + m11), .int 999, .int x1, .ref 2] rfl ?_
        have m18 : (((bif decide ((((a15 2).getD x1.toNatClampNeg 0) + m11) < 999) then (((a15 2).getD x1.toNatClampNeg 0) + m11) else 999).toInt ≤ (999 : Int32).toInt) ∧ ((bif decide ((((a15 2).getD x1.toNatClampNeg 0) + m11) < 999) then (((a15 2).getD x1.toNatClampNeg 0) + m11) else 999).toInt ≤ (((a15 2).getD x1.toNatClampNeg 0) + m11).toInt)) ∧ ((bif decide ((((a15 2).getD x1.toNatClampNeg 0) + m11) < 999) then (((a15 2).getD x1.toNatClampNeg 0) + m11) else 999).toInt = (999 : Int32).toInt ∨ (bif decide ((((a15 2).getD x1.toNatClampNeg 0) + m11) < 999) then (((a15 2).getD x1.toNatClampNeg 0) + m11) else 999).toInt = (((a15 2).getD x1.toNatClampNeg 0) + m11).toInt) := kd_min
        first | refine ft_goS mi_k30 1 98 [.int (bif decide ((((a15 2).getD x1.toNatClampNeg 0) + m11) < 999) then (((a15 2).getD x1.toNatClampNeg 0) + m11) else 999), .int x1, .ref 2] (by rfl) ?_ | refine ko_steps mi_in30 1 _ (98, [(4, .int m11), (3, .int ((a 9).getD (0 : Int32).toNatClampNeg 0)), (2, .int ((a 8).getD (0 : Int32).toNatClampNeg 0)), (0, .ref 1), (1, .int x1)], [.int (bif decide ((((a15 2).getD x1.toNatClampNeg 0) + m11) < 999) then (((a15 2).getD x1.toNatClampNeg 0) + m11) else 999), .int x1, .ref 2], (0, 0), ks ig1 a15 qg1 rg1) (by rfl) ?_
        generalize hm17 : (bif decide ((((a15 2).getD x1.toNatClampNeg 0) + m11) < 999) then (((a15 2).getD x1.toNatClampNeg 0) + m11) else 999) = m17 at m18 ⊢
        have qm17 := hm17.symm
        refine ko_iast3 mi_k30.1 (n := 8) (c := 8) (ax := (0, 0, 0, 0, 0)) (mi_k30.2 _ _ (by rfl)) (by rfl) (ksG2 _ _ _ _) (ksA2 _ _ _ _) (hJ15.I.2.1 2) rfl (oc1 hp0.1) (oc28 hp0.2) ?_
        intro a19 ea19 fa19
        have hJ19 := kG_a3 hJ15 2 rfl ea19 fa19 (kd_bd _)
        have b20 : ((-2147483648 : Int) ≤ (ig1 79).toInt) ∧ ((ig1 79).toInt ≤ 2147483647) := kd_bd (ig1 79)
        have hJ21 := kG_i hJ19 79 rfl (v := ((ig1 79) + m11)) (kd_bd _)
        first | refine fo_goI mi_k30 fz30_99_10_116 [.int 2, .ref 14, .int 2, .ref 14] (ku ig1 79 ((ig1 79) + m11)) (by rfl) ?_ | refine ft_go mi_k30 10 116 [(4, .int m11), (3, .int ((a 9).getD (0 : Int32).toNatClampNeg 0)), (2, .int ((a 8).getD (0 : Int32).toNatClampNeg 0)), (0, .ref 1), (1, .int x1)] [.int 2, .ref 14, .int 2, .ref 14] (ku ig1 79 ((ig1 79) + m11)) a19 qg1 rg1 (by rfl) ?_ | refine ko_steps mi_in30 10 _ (116, [(4, .int m11), (3, .int ((a 9).getD (0 : Int32).toNatClampNeg 0)), (2, .int ((a 8).getD (0 : Int32).toNatClampNeg 0)), (0, .ref 1), (1, .int x1)], [.int 2, .ref 14, .int 2, .ref 14], (0, 0), ks (ku ig1 79 ((ig1 79) + m11)) a19 qg1 rg1) (by rfl) ?_
        refine ko_iald3 mi_k30.1 (n := 5) (c := 5) (ax := (0, 0, 0, 0, 0)) (mi_k30.2 _ _ (by rfl)) (by rfl) (ksG14 _ _ _ _) (hJ21.I.2.1 14) rfl (oc29 koc2) (oc30 koc2) ?_
        have b22 : ((-2147483648 : Int) ≤ ((a 9).getD (0 : Int32).toNatClampNeg 0).toInt) ∧ (((a 9).getD (0 : Int32).toNatClampNeg 0).toInt ≤ 2147483647) := kd_bd ((a 9).getD (0 : Int32).toNatClampNeg 0)
        have b23 : ((-2147483648 : Int) ≤ ((a19 14).getD (2 : Int32).toNatClampNeg 0).toInt) ∧ (((a19 14).getD (2 : Int32).toNatClampNeg 0).toInt ≤ 2147483647) := kd_bd ((a19 14).getD (2 : Int32).toNatClampNeg 0)
        have b24 : ((-2147483648 : Int) ≤ (((a 9).getD (0 : Int32).toNatClampNeg 0) - m11).toInt) ∧ ((((a 9).getD (0 : Int32).toNatClampNeg 0) - m11).toInt ≤ 2147483647) := kd_bd (((a 9).getD (0 : Int32).toNatClampNeg 0) - m11)
        refine fo_goS mi_k30 fz30_117_4_122 [.int (((a19 14).getD (2 : Int32).toNatClampNeg 0) + (((a 9).getD (0 : Int32).toNatClampNeg 0) - m11)), .int 2, .ref 14] rfl ?_
        refine ko_iast3 mi_k30.1 (n := 5) (c := 5) (ax := (0, 0, 0, 0, 0)) (mi_k30.2 _ _ (by rfl)) (by rfl) (ksG14 _ _ _ _) (ksA14 _ _ _ _) (hJ21.I.2.1 14) rfl (oc29 koc2) (oc30 koc2) ?_
        intro a25 ea25 fa25
        have hJ25 := kG_a3 hJ21 14 rfl ea25 fa25 (kd_bd _)
        refine fo_goS mi_k30 fz30_123_3_128 [.int ((a 8).getD (0 : Int32).toNatClampNeg 0), .ref 15] rfl ?_
        by_cases w26 : ((a 8).getD (0 : Int32).toNatClampNeg 0).toInt = 0
        ·
          refine ft_alx mi_k30 (pc := 128) (v := 0) (p := 15) (z := 16) (kj_eq w26 (by decide) : ((a 8).getD (0 : Int32).toNatClampNeg 0) = 0) (by decide +kernel) (by decide +kernel) ?_
          refine fo_goS mi_k30 fz30_129_2_131 [.int x1, .ref 16, .int x1, .ref 16] rfl ?_
          refine ko_iald3 mi_k30.1 (n := 8) (c := 8) (ax := (0, 0, 0, 0, 0)) (mi_k30.2 _ _ (by rfl)) (by rfl) (ksG16 _ _ _ _) (hJ25.I.2.1 16) rfl (oc1 hp0.1) (oc28 hp0.2) ?_
          have b27 : ((-2147483648 : Int) ≤ ((a25 16).getD x1.toNatClampNeg 0).toInt) ∧ (((a25 16).getD x1.toNatClampNeg 0).toInt ≤ 2147483647) := kd_bd ((a25 16).getD x1.toNatClampNeg 0)
          refine fo_goS mi_k30 fz30_132_2_135 [.int (((a25 16).getD x1.toNatClampNeg 0) + m11), .int x1, .ref 16] rfl ?_
          refine ko_iast3 mi_k30.1 (n := 8) (c := 8) (ax := (0, 0, 0, 0, 0)) (mi_k30.2 _ _ (by rfl)) (by rfl) (ksG16 _ _ _ _) (ksA16 _ _ _ _) (hJ25.I.2.1 16) rfl (oc1 hp0.1) (oc28 hp0.2) ?_
          intro a28 ea28 fa28
          have hJ28 := kG_a3 hJ25 16 rfl ea28 fa28 (kd_bd _)
          exact ft_ret mi_k30 (by rfl) (hP  _ _ _ _ hJ28 ⟨(oc20 z2), ((cT_eq (p := 1) (i := ku ig1 79 ((ig1 79) + m11)) (a := a28) (T := cGive x1 (cT 1 i a)) (show ig1 450 = (cGive x1 (cT 1 i a)).1 from by first | rfl | (simp only [q3, sMn, sMx, cGive, cRest, cCoin, cT]; done) | (simp only [q3, sMn, sMx, cGive, cRest, cCoin, cT]; rfl)) (show a28 8 = (cGive x1 (cT 1 i a)).2.1 from by first | rfl | (simp only [fa28 8 (by decide), fa25 8 (by decide), fa19 8 (by decide), fa15 8 (by decide), q4, sMn, sMx, cGive, cRest, cCoin, cT]; done) | (simp only [fa28 8 (by decide), fa25 8 (by decide), fa19 8 (by decide), fa15 8 (by decide), q4, sMn, sMx, cGive, cRest, cCoin, cT]; rfl)) (show a28 9 = (cGive x1 (cT 1 i a)).2.2.1 from by first | rfl | (simp only [fa28 9 (by decide), fa25 9 (by decide), fa19 9 (by decide), fa15 9 (by decide), q5, sMn, sMx, cGive, cRest, cCoin, cT]; done) | (simp only [fa28 9 (by decide), fa25 9 (by decide), fa19 9 (by decide), fa15 9 (by decide), q5, sMn, sMx, cGive, cRest, cCoin, cT]; rfl)) (show a28 2 = (cGive x1 (cT 1 i a)).2.2.2.1 from by first | rfl | (simp only [fa28 2 (by decide), fa25 2 (by decide), ea19, ea15, qm17, qm11, kg1.fa 2 rfl, sMn, sMx, cGive, cRest, cCoin, cT]; done) | (simp only [fa28 2 (by decide), fa25 2 (by decide), ea19, ea15, qm17, qm11, kg1.fa 2 rfl, sMn, sMx, cGive, cRest, cCoin, cT]; rfl)) ((show ig1 78 = i 78 from (by first | rfl | (simp only [(kg1.fi 78 rfl : ig1 78 = i 78), sMn, sMx]; done) | (simp only [(kg1.fi 78 rfl : ig1 78 = i 78), sMn, sMx]; rfl))).trans (cY_neg (y := i 78) (d := (a 8).getD 0 0) (oc22 c6 efig1_78 koc8))) (show ((ig1 79) + m11) = (cGive x1 (cT 1 i a)).2.2.2.2.2.1 from by first | rfl | (simp only [(kg1.fi 79 rfl : ig1 79 = i 79), qm11, kg1.fa 2 rfl, sMn, sMx, cGive, cRest, cCoin, cT]; done) | (simp only [(kg1.fi 79 rfl : ig1 79 = i 79), qm11, kg1.fa 2 rfl, sMn, sMx, cGive, cRest, cCoin, cT]; rfl)) (show a28 14 = (cGive x1 (cT 1 i a)).2.2.2.2.2.2.1 from by first | rfl | (simp only [fa28 14 (by decide), ea25, fa19 14 (by decide), qm11, kg1.fa 2 rfl, fa15 14 (by decide), kg1.fa 14 rfl, sMn, sMx, cGive, cRest, cCoin, cT]; done) | (simp only [fa28 14 (by decide), ea25, fa19 14 (by decide), qm11, kg1.fa 2 rfl, fa15 14 (by decide), kg1.fa 14 rfl, sMn, sMx, cGive, cRest, cCoin, cT]; rfl)) (fun u hu => match u, hu with | 0, _ => (Eq.trans (show a28 16 = (cRow 1 a 0).set x1.toNatClampNeg ((cRow 1 a 0).getD x1.toNatClampNeg 0 + cCoin (cT 1 i a)) from by rw [cRow_lt (p := 1) (a := a) (by decide : 0 < 8)]; first | rfl | (simp only [ea28, fa25 16 (by decide), qm11, kg1.fa 2 rfl, fa19 16 (by decide), fa15 16 (by decide), kg1.fa 16 rfl, sMn, sMx, cCoin, cT]; done) | (simp only [ea28, fa25 16 (by decide), qm11, kg1.fa 2 rfl, fa19 16 (by decide), fa15 16 (by decide), kg1.fa 16 rfl, sMn, sMx, cCoin, cT]; rfl)) (cG_t (c := x1) (T := (cT 1 i a)) (u := 0) (oc33 w26 z10.1))) | 1, _ => (Eq.trans (show a28 17 = cRow 1 a 1 from by rw [cRow_lt (p := 1) (a := a) (by decide : 1 < 8)]; first | rfl | (simp only [fa28 17 (by decide), fa25 17 (by decide), fa19 17 (by decide), fa15 17 (by decide), kg1.fa 17 rfl, sMn, sMx, cCoin, cT]; done) | (simp only [fa28 17 (by decide), fa25 17 (by decide), fa19 17 (by decide), fa15 17 (by decide), kg1.fa 17 rfl, sMn, sMx, cCoin, cT]; rfl)) (cG_f (c := x1) (T := (cT 1 i a)) (u := 1) (oc1 z10.1) (oc34 w26))) | 2, _ => (Eq.trans (show a28 18 = cRow 1 a 2 from by rw [cRow_lt (p := 1) (a := a) (by decide : 2 < 8)]; first | rfl | (simp only [fa28 18 (by decide), fa25 18 (by decide), fa19 18 (by decide), fa15 18 (by decide), kg1.fa 18 rfl, sMn, sMx, cCoin, cT]; done) | (simp only [fa28 18 (by decide), fa25 18 (by decide), fa19 18 (by decide), fa15 18 (by decide), kg1.fa 18 rfl, sMn, sMx, cCoin, cT]; rfl)) (cG_f (c := x1) (T := (cT 1 i a)) (u := 2) (oc1 z10.1) (oc35 w26))) | 3, _ => (Eq.trans (show a28 19 = cRow 1 a 3 from by rw [cRow_lt (p := 1) (a := a) (by decide : 3 < 8)]; first | rfl | (simp only [fa28 19 (by decide), fa25 19 (by decide), fa19 19 (by decide), fa15 19 (by decide), kg1.fa 19 rfl, sMn, sMx, cCoin, cT]; done) | (simp only [fa28 19 (by decide), fa25 19 (by decide), fa19 19 (by decide), fa15 19 (by decide), kg1.fa 19 rfl, sMn, sMx, cCoin, cT]; rfl)) (cG_f (c := x1) (T := (cT 1 i a)) (u := 3) (oc1 z10.1) (oc36 w26))) | 4, _ => (Eq.trans (show a28 20 = cRow 1 a 4 from by rw [cRow_lt (p := 1) (a := a) (by decide : 4 < 8)]; first | rfl | (simp only [fa28 20 (by decide), fa25 20 (by decide), fa19 20 (by decide), fa15 20 (by decide), kg1.fa 20 rfl, sMn, sMx, cCoin, cT]; done) | (simp only [fa28 20 (by decide), fa25 20 (by decide), fa19 20 (by decide), fa15 20 (by decide), kg1.fa 20 rfl, sMn, sMx, cCoin, cT]; rfl)) (cG_f (c := x1) (T := (cT 1 i a)) (u := 4) (oc1 z10.1) (oc37 w26))) | 5, _ => (Eq.trans (show a28 21 = cRow 1 a 5 from by rw [cRow_lt (p := 1) (a := a) (by decide : 5 < 8)]; first | rfl | (simp only [fa28 21 (by decide), fa25 21 (by decide), fa19 21 (by decide), fa15 21 (by decide), kg1.fa 21 rfl, sMn, sMx, cCoin, cT]; done) | (simp only [fa28 21 (by decide), fa25 21 (by decide), fa19 21 (by decide), fa15 21 (by decide), kg1.fa 21 rfl, sMn, sMx, cCoin, cT]; rfl)) (cG_f (c := x1) (T := (cT 1 i a)) (u := 5) (oc1 z10.1) (oc38 w26))) | 6, _ => (Eq.trans (show a28 22 = cRow 1 a 6 from by rw [cRow_lt (p := 1) (a := a) (by decide : 6 < 8)]; first | rfl | (simp only [fa28 22 (by decide), fa25 22 (by decide), fa19 22 (by decide), fa15 22 (by decide), kg1.fa 22 rfl, sMn, sMx, cCoin, cT]; done) | (simp only [fa28 22 (by decide), fa25 22 (by decide), fa19 22 (by decide), fa15 22 (by decide), kg1.fa 22 rfl, sMn, sMx, cCoin, cT]; rfl)) (cG_f (c := x1) (T := (cT 1 i a)) (u := 6) (oc1 z10.1) (oc39 w26))) | 7, _ => (Eq.trans (show a28 23 = cRow 1 a 7 from by rw [cRow_lt (p := 1) (a := a) (by decide : 7 < 8)]; first | rfl | (simp only [fa28 23 (by decide), fa25 23 (by decide), fa19 23 (by decide), fa15 23 (by decide), kg1.fa 23 rfl, sMn, sMx, cCoin, cT]; done) | (simp only [fa28 23 (by decide), fa25 23 (by decide), fa19 23 (by decide), fa15 23 (by decide), kg1.fa 23 rfl, sMn, sMx, cCoin, cT]; rfl)) (cG_f (c := x1) (T := (cT 1 i a)) (u := 7) (oc1 z10.1) (oc40 w26))) | _ + 8, h => absurd h (by omega)) (fun u hu => (cG_f (c := x1) (T := (cT 1 i a)) (oc1 z10.1) (kj_big hu (oc41 w26))).symm.trans (cRow_ge hu))).trans (show cGive x1 (cT 1 i a) = cPay (i 64) x1 (cT 1 i a) from (if_pos (oc32 c8 efig1_64 hp0.1 w26 z10.1 z10.2)).symm))⟩)
        by_cases w29 : ((a 8).getD (0 : Int32).toNatClampNeg 0).toInt = 1
        ·
          refine ft_alx mi_k30 (pc := 128) (v := 1) (p := 15) (z := 17) (kj_eq w29 (by decide) : ((a 8).getD (0 : Int32).toNatClampNeg 0) = 1) (by decide +kernel) (by decide +kernel) ?_
          refine fo_goS mi_k30 fz30_129_2_131 [.int x1, .ref 17, .int x1, .ref 17] rfl ?_
          refine ko_iald3 mi_k30.1 (n := 8) (c := 8) (ax := (0, 0, 0, 0, 0)) (mi_k30.2 _ _ (by rfl)) (by rfl) (ksG17 _ _ _ _) (hJ25.I.2.1 17) rfl (oc1 hp0.1) (oc28 hp0.2) ?_
          have b30 : ((-2147483648 : Int) ≤ ((a25 17).getD x1.toNatClampNeg 0).toInt) ∧ (((a25 17).getD x1.toNatClampNeg 0).toInt ≤ 2147483647) := kd_bd ((a25 17).getD x1.toNatClampNeg 0)
          refine fo_goS mi_k30 fz30_132_2_135 [.int (((a25 17).getD x1.toNatClampNeg 0) + m11), .int x1, .ref 17] rfl ?_
          refine ko_iast3 mi_k30.1 (n := 8) (c := 8) (ax := (0, 0, 0, 0, 0)) (mi_k30.2 _ _ (by rfl)) (by rfl) (ksG17 _ _ _ _) (ksA17 _ _ _ _) (hJ25.I.2.1 17) rfl (oc1 hp0.1) (oc28 hp0.2) ?_
          intro a31 ea31 fa31
          have hJ31 := kG_a3 hJ25 17 rfl ea31 fa31 (kd_bd _)
          exact ft_ret mi_k30 (by rfl) (hP  _ _ _ _ hJ31 ⟨(oc20 z2), ((cT_eq (p := 1) (i := ku ig1 79 ((ig1 79) + m11)) (a := a31) (T := cGive x1 (cT 1 i a)) (show ig1 450 = (cGive x1 (cT 1 i a)).1 from by first | rfl | (simp only [q3, sMn, sMx, cGive, cRest, cCoin, cT]; done) | (simp only [q3, sMn, sMx, cGive, cRest, cCoin, cT]; rfl)) (show a31 8 = (cGive x1 (cT 1 i a)).2.1 from by first | rfl | (simp only [fa31 8 (by decide), fa25 8 (by decide), fa19 8 (by decide), fa15 8 (by decide), q4, sMn, sMx, cGive, cRest, cCoin, cT]; done) | (simp only [fa31 8 (by decide), fa25 8 (by decide), fa19 8 (by decide), fa15 8 (by decide), q4, sMn, sMx, cGive, cRest, cCoin, cT]; rfl)) (show a31 9 = (cGive x1 (cT 1 i a)).2.2.1 from by first | rfl | (simp only [fa31 9 (by decide), fa25 9 (by decide), fa19 9 (by decide), fa15 9 (by decide), q5, sMn, sMx, cGive, cRest, cCoin, cT]; done) | (simp only [fa31 9 (by decide), fa25 9 (by decide), fa19 9 (by decide), fa15 9 (by decide), q5, sMn, sMx, cGive, cRest, cCoin, cT]; rfl)) (show a31 2 = (cGive x1 (cT 1 i a)).2.2.2.1 from by first | rfl | (simp only [fa31 2 (by decide), fa25 2 (by decide), ea19, ea15, qm17, qm11, kg1.fa 2 rfl, sMn, sMx, cGive, cRest, cCoin, cT]; done) | (simp only [fa31 2 (by decide), fa25 2 (by decide), ea19, ea15, qm17, qm11, kg1.fa 2 rfl, sMn, sMx, cGive, cRest, cCoin, cT]; rfl)) ((show ig1 78 = i 78 from (by first | rfl | (simp only [(kg1.fi 78 rfl : ig1 78 = i 78), sMn, sMx]; done) | (simp only [(kg1.fi 78 rfl : ig1 78 = i 78), sMn, sMx]; rfl))).trans (cY_neg (y := i 78) (d := (a 8).getD 0 0) (oc22 c6 efig1_78 koc8))) (show ((ig1 79) + m11) = (cGive x1 (cT 1 i a)).2.2.2.2.2.1 from by first | rfl | (simp only [(kg1.fi 79 rfl : ig1 79 = i 79), qm11, kg1.fa 2 rfl, sMn, sMx, cGive, cRest, cCoin, cT]; done) | (simp only [(kg1.fi 79 rfl : ig1 79 = i 79), qm11, kg1.fa 2 rfl, sMn, sMx, cGive, cRest, cCoin, cT]; rfl)) (show a31 14 = (cGive x1 (cT 1 i a)).2.2.2.2.2.2.1 from by first | rfl | (simp only [fa31 14 (by decide), ea25, fa19 14 (by decide), qm11, kg1.fa 2 rfl, fa15 14 (by decide), kg1.fa 14 rfl, sMn, sMx, cGive, cRest, cCoin, cT]; done) | (simp only [fa31 14 (by decide), ea25, fa19 14 (by decide), qm11, kg1.fa 2 rfl, fa15 14 (by decide), kg1.fa 14 rfl, sMn, sMx, cGive, cRest, cCoin, cT]; rfl)) (fun u hu => match u, hu with | 0, _ => (Eq.trans (show a31 16 = cRow 1 a 0 from by rw [cRow_lt (p := 1) (a := a) (by decide : 0 < 8)]; first | rfl | (simp only [fa31 16 (by decide), fa25 16 (by decide), fa19 16 (by decide), fa15 16 (by decide), kg1.fa 16 rfl, sMn, sMx, cCoin, cT]; done) | (simp only [fa31 16 (by decide), fa25 16 (by decide), fa19 16 (by decide), fa15 16 (by decide), kg1.fa 16 rfl, sMn, sMx, cCoin, cT]; rfl)) (cG_f (c := x1) (T := (cT 1 i a)) (u := 0) (oc15 w29) (oc43 w29))) | 1, _ => (Eq.trans (show a31 17 = (cRow 1 a 1).set x1.toNatClampNeg ((cRow 1 a 1).getD x1.toNatClampNeg 0 + cCoin (cT 1 i a)) from by rw [cRow_lt (p := 1) (a := a) (by decide : 1 < 8)]; first | rfl | (simp only [ea31, fa25 17 (by decide), qm11, kg1.fa 2 rfl, fa19 17 (by decide), fa15 17 (by decide), kg1.fa 17 rfl, sMn, sMx, cCoin, cT]; done) | (simp only [ea31, fa25 17 (by decide), qm11, kg1.fa 2 rfl, fa19 17 (by decide), fa15 17 (by decide), kg1.fa 17 rfl, sMn, sMx, cCoin, cT]; rfl)) (cG_t (c := x1) (T := (cT 1 i a)) (u := 1) (oc44 w29))) | 2, _ => (Eq.trans (show a31 18 = cRow 1 a 2 from by rw [cRow_lt (p := 1) (a := a) (by decide : 2 < 8)]; first | rfl | (simp only [fa31 18 (by decide), fa25 18 (by decide), fa19 18 (by decide), fa15 18 (by decide), kg1.fa 18 rfl, sMn, sMx, cCoin, cT]; done) | (simp only [fa31 18 (by decide), fa25 18 (by decide), fa19 18 (by decide), fa15 18 (by decide), kg1.fa 18 rfl, sMn, sMx, cCoin, cT]; rfl)) (cG_f (c := x1) (T := (cT 1 i a)) (u := 2) (oc15 w29) (oc45 w29))) | 3, _ => (Eq.trans (show a31 19 = cRow 1 a 3 from by rw [cRow_lt (p := 1) (a := a) (by decide : 3 < 8)]; first | rfl | (simp only [fa31 19 (by decide), fa25 19 (by decide), fa19 19 (by decide), fa15 19 (by decide), kg1.fa 19 rfl, sMn, sMx, cCoin, cT]; done) | (simp only [fa31 19 (by decide), fa25 19 (by decide), fa19 19 (by decide), fa15 19 (by decide), kg1.fa 19 rfl, sMn, sMx, cCoin, cT]; rfl)) (cG_f (c := x1) (T := (cT 1 i a)) (u := 3) (oc15 w29) (oc46 w29))) | 4, _ => (Eq.trans (show a31 20 = cRow 1 a 4 from by rw [cRow_lt (p := 1) (a := a) (by decide : 4 < 8)]; first | rfl | (simp only [fa31 20 (by decide), fa25 20 (by decide), fa19 20 (by decide), fa15 20 (by decide), kg1.fa 20 rfl, sMn, sMx, cCoin, cT]; done) | (simp only [fa31 20 (by decide), fa25 20 (by decide), fa19 20 (by decide), fa15 20 (by decide), kg1.fa 20 rfl, sMn, sMx, cCoin, cT]; rfl)) (cG_f (c := x1) (T := (cT 1 i a)) (u := 4) (oc15 w29) (oc47 w29))) | 5, _ => (Eq.trans (show a31 21 = cRow 1 a 5 from by rw [cRow_lt (p := 1) (a := a) (by decide : 5 < 8)]; first | rfl | (simp only [fa31 21 (by decide), fa25 21 (by decide), fa19 21 (by decide), fa15 21 (by decide), kg1.fa 21 rfl, sMn, sMx, cCoin, cT]; done) | (simp only [fa31 21 (by decide), fa25 21 (by decide), fa19 21 (by decide), fa15 21 (by decide), kg1.fa 21 rfl, sMn, sMx, cCoin, cT]; rfl)) (cG_f (c := x1) (T := (cT 1 i a)) (u := 5) (oc15 w29) (oc48 w29))) | 6, _ => (Eq.trans (show a31 22 = cRow 1 a 6 from by rw [cRow_lt (p := 1) (a := a) (by decide : 6 < 8)]; first | rfl | (simp only [fa31 22 (by decide), fa25 22 (by decide), fa19 22 (by decide), fa15 22 (by decide), kg1.fa 22 rfl, sMn, sMx, cCoin, cT]; done) | (simp only [fa31 22 (by decide), fa25 22 (by decide), fa19 22 (by decide), fa15 22 (by decide), kg1.fa 22 rfl, sMn, sMx, cCoin, cT]; rfl)) (cG_f (c := x1) (T := (cT 1 i a)) (u := 6) (oc15 w29) (oc49 w29))) | 7, _ => (Eq.trans (show a31 23 = cRow 1 a 7 from by rw [cRow_lt (p := 1) (a := a) (by decide : 7 < 8)]; first | rfl | (simp only [fa31 23 (by decide), fa25 23 (by decide), fa19 23 (by decide), fa15 23 (by decide), kg1.fa 23 rfl, sMn, sMx, cCoin, cT]; done) | (simp only [fa31 23 (by decide), fa25 23 (by decide), fa19 23 (by decide), fa15 23 (by decide), kg1.fa 23 rfl, sMn, sMx, cCoin, cT]; rfl)) (cG_f (c := x1) (T := (cT 1 i a)) (u := 7) (oc15 w29) (oc50 w29))) | _ + 8, h => absurd h (by omega)) (fun u hu => (cG_f (c := x1) (T := (cT 1 i a)) (oc15 w29) (kj_big hu (oc51 w29))).symm.trans (cRow_ge hu))).trans (show cGive x1 (cT 1 i a) = cPay (i 64) x1 (cT 1 i a) from (if_pos (oc42 c8 efig1_64 w29 z10.2)).symm))⟩)
        by_cases w32 : ((a 8).getD (0 : Int32).toNatClampNeg 0).toInt = 2
        ·
          refine ft_alx mi_k30 (pc := 128) (v := 2) (p := 15) (z := 18) (kj_eq w32 (by decide) : ((a 8).getD (0 : Int32).toNatClampNeg 0) = 2) (by decide +kernel) (by decide +kernel) ?_
          refine fo_goS mi_k30 fz30_129_2_131 [.int x1, .ref 18, .int x1, .ref 18] rfl ?_
          refine ko_iald3 mi_k30.1 (n := 8) (c := 8) (ax := (0, 0, 0, 0, 0)) (mi_k30.2 _ _ (by rfl)) (by rfl) (ksG18 _ _ _ _) (hJ25.I.2.1 18) rfl (oc1 hp0.1) (oc28 hp0.2) ?_
          have b33 : ((-2147483648 : Int) ≤ ((a25 18).getD x1.toNatClampNeg 0).toInt) ∧ (((a25 18).getD x1.toNatClampNeg 0).toInt ≤ 2147483647) := kd_bd ((a25 18).getD x1.toNatClampNeg 0)
          refine fo_goS mi_k30 fz30_132_2_135 [.int (((a25 18).getD x1.toNatClampNeg 0) + m11), .int x1, .ref 18] rfl ?_
          refine ko_iast3 mi_k30.1 (n := 8) (c := 8) (ax := (0, 0, 0, 0, 0)) (mi_k30.2 _ _ (by rfl)) (by rfl) (ksG18 _ _ _ _) (ksA18 _ _ _ _) (hJ25.I.2.1 18) rfl (oc1 hp0.1) (oc28 hp0.2) ?_
          intro a34 ea34 fa34
          have hJ34 := kG_a3 hJ25 18 rfl ea34 fa34 (kd_bd _)
          exact ft_ret mi_k30 (by rfl) (hP  _ _ _ _ hJ34 ⟨(oc20 z2), ((cT_eq (p := 1) (i := ku ig1 79 ((ig1 79) + m11)) (a := a34) (T := cGive x1 (cT 1 i a)) (show ig1 450 = (cGive x1 (cT 1 i a)).1 from by first | rfl | (simp only [q3, sMn, sMx, cGive, cRest, cCoin, cT]; done) | (simp only [q3, sMn, sMx, cGive, cRest, cCoin, cT]; rfl)) (show a34 8 = (cGive x1 (cT 1 i a)).2.1 from by first | rfl | (simp only [fa34 8 (by decide), fa25 8 (by decide), fa19 8 (by decide), fa15 8 (by decide), q4, sMn, sMx, cGive, cRest, cCoin, cT]; done) | (simp only [fa34 8 (by decide), fa25 8 (by decide), fa19 8 (by decide), fa15 8 (by decide), q4, sMn, sMx, cGive, cRest, cCoin, cT]; rfl)) (show a34 9 = (cGive x1 (cT 1 i a)).2.2.1 from by first | rfl | (simp only [fa34 9 (by decide), fa25 9 (by decide), fa19 9 (by decide), fa15 9 (by decide), q5, sMn, sMx, cGive, cRest, cCoin, cT]; done) | (simp only [fa34 9 (by decide), fa25 9 (by decide), fa19 9 (by decide), fa15 9 (by decide), q5, sMn, sMx, cGive, cRest, cCoin, cT]; rfl)) (show a34 2 = (cGive x1 (cT 1 i a)).2.2.2.1 from by first | rfl | (simp only [fa34 2 (by decide), fa25 2 (by decide), ea19, ea15, qm17, qm11, kg1.fa 2 rfl, sMn, sMx, cGive, cRest, cCoin, cT]; done) | (simp only [fa34 2 (by decide), fa25 2 (by decide), ea19, ea15, qm17, qm11, kg1.fa 2 rfl, sMn, sMx, cGive, cRest, cCoin, cT]; rfl)) ((show ig1 78 = i 78 from (by first | rfl | (simp only [(kg1.fi 78 rfl : ig1 78 = i 78), sMn, sMx]; done) | (simp only [(kg1.fi 78 rfl : ig1 78 = i 78), sMn, sMx]; rfl))).trans (cY_neg (y := i 78) (d := (a 8).getD 0 0) (oc22 c6 efig1_78 koc8))) (show ((ig1 79) + m11) = (cGive x1 (cT 1 i a)).2.2.2.2.2.1 from by first | rfl | (simp only [(kg1.fi 79 rfl : ig1 79 = i 79), qm11, kg1.fa 2 rfl, sMn, sMx, cGive, cRest, cCoin, cT]; done) | (simp only [(kg1.fi 79 rfl : ig1 79 = i 79), qm11, kg1.fa 2 rfl, sMn, sMx, cGive, cRest, cCoin, cT]; rfl)) (show a34 14 = (cGive x1 (cT 1 i a)).2.2.2.2.2.2.1 from by first | rfl | (simp only [fa34 14 (by decide), ea25, fa19 14 (by decide), qm11, kg1.fa 2 rfl, fa15 14 (by decide), kg1.fa 14 rfl, sMn, sMx, cGive, cRest, cCoin, cT]; done) | (simp only [fa34 14 (by decide), ea25, fa19 14 (by decide), qm11, kg1.fa 2 rfl, fa15 14 (by decide), kg1.fa 14 rfl, sMn, sMx, cGive, cRest, cCoin, cT]; rfl)) (fun u hu => match u, hu with | 0, _ => (Eq.trans (show a34 16 = cRow 1 a 0 from by rw [cRow_lt (p := 1) (a := a) (by decide : 0 < 8)]; first | rfl | (simp only [fa34 16 (by decide), fa25 16 (by decide), fa19 16 (by decide), fa15 16 (by decide), kg1.fa 16 rfl, sMn, sMx, cCoin, cT]; done) | (simp only [fa34 16 (by decide), fa25 16 (by decide), fa19 16 (by decide), fa15 16 (by decide), kg1.fa 16 rfl, sMn, sMx, cCoin, cT]; rfl)) (cG_f (c := x1) (T := (cT 1 i a)) (u := 0) (oc29 w32) (oc53 w32))) | 1, _ => (Eq.trans (show a34 17 = cRow 1 a 1 from by rw [cRow_lt (p := 1) (a := a) (by decide : 1 < 8)]; first | rfl | (simp only [fa34 17 (by decide), fa25 17 (by decide), fa19 17 (by decide), fa15 17 (by decide), kg1.fa 17 rfl, sMn, sMx, cCoin, cT]; done) | (simp only [fa34 17 (by decide), fa25 17 (by decide), fa19 17 (by decide), fa15 17 (by decide), kg1.fa 17 rfl, sMn, sMx, cCoin, cT]; rfl)) (cG_f (c := x1) (T := (cT 1 i a)) (u := 1) (oc29 w32) (oc54 w32))) | 2, _ => (Eq.trans (show a34 18 = (cRow 1 a 2).set x1.toNatClampNeg ((cRow 1 a 2).getD x1.toNatClampNeg 0 + cCoin (cT 1 i a)) from by rw [cRow_lt (p := 1) (a := a) (by decide : 2 < 8)]; first | rfl | (simp only [ea34, fa25 18 (by decide), qm11, kg1.fa 2 rfl, fa19 18 (by decide), fa15 18 (by decide), kg1.fa 18 rfl, sMn, sMx, cCoin, cT]; done) | (simp only [ea34, fa25 18 (by decide), qm11, kg1.fa 2 rfl, fa19 18 (by decide), fa15 18 (by decide), kg1.fa 18 rfl, sMn, sMx, cCoin, cT]; rfl)) (cG_t (c := x1) (T := (cT 1 i a)) (u := 2) (oc55 w32))) | 3, _ => (Eq.trans (show a34 19 = cRow 1 a 3 from by rw [cRow_lt (p := 1) (a := a) (by decide : 3 < 8)]; first | rfl | (simp only [fa34 19 (by decide), fa25 19 (by decide), fa19 19 (by decide), fa15 19 (by decide), kg1.fa 19 rfl, sMn, sMx, cCoin, cT]; done) | (simp only [fa34 19 (by decide), fa25 19 (by decide), fa19 19 (by decide), fa15 19 (by decide), kg1.fa 19 rfl, sMn, sMx, cCoin, cT]; rfl)) (cG_f (c := x1) (T := (cT 1 i a)) (u := 3) (oc29 w32) (oc56 w32))) | 4, _ => (Eq.trans (show a34 20 = cRow 1 a 4 from by rw [cRow_lt (p := 1) (a := a) (by decide : 4 < 8)]; first | rfl | (simp only [fa34 20 (by decide), fa25 20 (by decide), fa19 20 (by decide), fa15 20 (by decide), kg1.fa 20 rfl, sMn, sMx, cCoin, cT]; done) | (simp only [fa34 20 (by decide), fa25 20 (by decide), fa19 20 (by decide), fa15 20 (by decide), kg1.fa 20 rfl, sMn, sMx, cCoin, cT]; rfl)) (cG_f (c := x1) (T := (cT 1 i a)) (u := 4) (oc29 w32) (oc57 w32))) | 5, _ => (Eq.trans (show a34 21 = cRow 1 a 5 from by rw [cRow_lt (p := 1) (a := a) (by decide : 5 < 8)]; first | rfl | (simp only [fa34 21 (by decide), fa25 21 (by decide), fa19 21 (by decide), fa15 21 (by decide), kg1.fa 21 rfl, sMn, sMx, cCoin, cT]; done) | (simp only [fa34 21 (by decide), fa25 21 (by decide), fa19 21 (by decide), fa15 21 (by decide), kg1.fa 21 rfl, sMn, sMx, cCoin, cT]; rfl)) (cG_f (c := x1) (T := (cT 1 i a)) (u := 5) (oc29 w32) (oc58 w32))) | 6, _ => (Eq.trans (show a34 22 = cRow 1 a 6 from by rw [cRow_lt (p := 1) (a := a) (by decide : 6 < 8)]; first | rfl | (simp only [fa34 22 (by decide), fa25 22 (by decide), fa19 22 (by decide), fa15 22 (by decide), kg1.fa 22 rfl, sMn, sMx, cCoin, cT]; done) | (simp only [fa34 22 (by decide), fa25 22 (by decide), fa19 22 (by decide), fa15 22 (by decide), kg1.fa 22 rfl, sMn, sMx, cCoin, cT]; rfl)) (cG_f (c := x1) (T := (cT 1 i a)) (u := 6) (oc29 w32) (oc59 w32))) | 7, _ => (Eq.trans (show a34 23 = cRow 1 a 7 from by rw [cRow_lt (p := 1) (a := a) (by decide : 7 < 8)]; first | rfl | (simp only [fa34 23 (by decide), fa25 23 (by decide), fa19 23 (by decide), fa15 23 (by decide), kg1.fa 23 rfl, sMn, sMx, cCoin, cT]; done) | (simp only [fa34 23 (by decide), fa25 23 (by decide), fa19 23 (by decide), fa15 23 (by decide), kg1.fa 23 rfl, sMn, sMx, cCoin, cT]; rfl)) (cG_f (c := x1) (T := (cT 1 i a)) (u := 7) (oc29 w32) (oc60 w32))) | _ + 8, h => absurd h (by omega)) (fun u hu => (cG_f (c := x1) (T := (cT 1 i a)) (oc29 w32) (kj_big hu (oc61 w32))).symm.trans (cRow_ge hu))).trans (show cGive x1 (cT 1 i a) = cPay (i 64) x1 (cT 1 i a) from (if_pos (oc52 c8 efig1_64 w32 z10.2)).symm))⟩)
        by_cases w35 : ((a 8).getD (0 : Int32).toNatClampNeg 0).toInt = 3
        ·
          refine ft_alx mi_k30 (pc := 128) (v := 3) (p := 15) (z := 19) (kj_eq w35 (by decide) : ((a 8).getD (0 : Int32).toNatClampNeg 0) = 3) (by decide +kernel) (by decide +kernel) ?_
          refine fo_goS mi_k30 fz30_129_2_131 [.int x1, .ref 19, .int x1, .ref 19] rfl ?_
          refine ko_iald3 mi_k30.1 (n := 8) (c := 8) (ax := (0, 0, 0, 0, 0)) (mi_k30.2 _ _ (by rfl)) (by rfl) (ksG19 _ _ _ _) (hJ25.I.2.1 19) rfl (oc1 hp0.1) (oc28 hp0.2) ?_
          have b36 : ((-2147483648 : Int) ≤ ((a25 19).getD x1.toNatClampNeg 0).toInt) ∧ (((a25 19).getD x1.toNatClampNeg 0).toInt ≤ 2147483647) := kd_bd ((a25 19).getD x1.toNatClampNeg 0)
          refine fo_goS mi_k30 fz30_132_2_135 [.int (((a25 19).getD x1.toNatClampNeg 0) + m11), .int x1, .ref 19] rfl ?_
          refine ko_iast3 mi_k30.1 (n := 8) (c := 8) (ax := (0, 0, 0, 0, 0)) (mi_k30.2 _ _ (by rfl)) (by rfl) (ksG19 _ _ _ _) (ksA19 _ _ _ _) (hJ25.I.2.1 19) rfl (oc1 hp0.1) (oc28 hp0.2) ?_
          intro a37 ea37 fa37
          have hJ37 := kG_a3 hJ25 19 rfl ea37 fa37 (kd_bd _)
          exact ft_ret mi_k30 (by rfl) (hP  _ _ _ _ hJ37 ⟨(oc20 z2), ((cT_eq (p := 1) (i := ku ig1 79 ((ig1 79) + m11)) (a := a37) (T := cGive x1 (cT 1 i a)) (show ig1 450 = (cGive x1 (cT 1 i a)).1 from by first | rfl | (simp only [q3, sMn, sMx, cGive, cRest, cCoin, cT]; done) | (simp only [q3, sMn, sMx, cGive, cRest, cCoin, cT]; rfl)) (show a37 8 = (cGive x1 (cT 1 i a)).2.1 from by first | rfl | (simp only [fa37 8 (by decide), fa25 8 (by decide), fa19 8 (by decide), fa15 8 (by decide), q4, sMn, sMx, cGive, cRest, cCoin, cT]; done) | (simp only [fa37 8 (by decide), fa25 8 (by decide), fa19 8 (by decide), fa15 8 (by decide), q4, sMn, sMx, cGive, cRest, cCoin, cT]; rfl)) (show a37 9 = (cGive x1 (cT 1 i a)).2.2.1 from by first | rfl | (simp only [fa37 9 (by decide), fa25 9 (by decide), fa19 9 (by decide), fa15 9 (by decide), q5, sMn, sMx, cGive, cRest, cCoin, cT]; done) | (simp only [fa37 9 (by decide), fa25 9 (by decide), fa19 9 (by decide), fa15 9 (by decide), q5, sMn, sMx, cGive, cRest, cCoin, cT]; rfl)) (show a37 2 = (cGive x1 (cT 1 i a)).2.2.2.1 from by first | rfl | (simp only [fa37 2 (by decide), fa25 2 (by decide), ea19, ea15, qm17, qm11, kg1.fa 2 rfl, sMn, sMx, cGive, cRest, cCoin, cT]; done) | (simp only [fa37 2 (by decide), fa25 2 (by decide), ea19, ea15, qm17, qm11, kg1.fa 2 rfl, sMn, sMx, cGive, cRest, cCoin, cT]; rfl)) ((show ig1 78 = i 78 from (by first | rfl | (simp only [(kg1.fi 78 rfl : ig1 78 = i 78), sMn, sMx]; done) | (simp only [(kg1.fi 78 rfl : ig1 78 = i 78), sMn, sMx]; rfl))).trans (cY_neg (y := i 78) (d := (a 8).getD 0 0) (oc22 c6 efig1_78 koc8))) (show ((ig1 79) + m11) = (cGive x1 (cT 1 i a)).2.2.2.2.2.1 from by first | rfl | (simp only [(kg1.fi 79 rfl : ig1 79 = i 79), qm11, kg1.fa 2 rfl, sMn, sMx, cGive, cRest, cCoin, cT]; done) | (simp only [(kg1.fi 79 rfl : ig1 79 = i 79), qm11, kg1.fa 2 rfl, sMn, sMx, cGive, cRest, cCoin, cT]; rfl)) (show a37 14 = (cGive x1 (cT 1 i a)).2.2.2.2.2.2.1 from by first | rfl | (simp only [fa37 14 (by decide), ea25, fa19 14 (by decide), qm11, kg1.fa 2 rfl, fa15 14 (by decide), kg1.fa 14 rfl, sMn, sMx, cGive, cRest, cCoin, cT]; done) | (simp only [fa37 14 (by decide), ea25, fa19 14 (by decide), qm11, kg1.fa 2 rfl, fa15 14 (by decide), kg1.fa 14 rfl, sMn, sMx, cGive, cRest, cCoin, cT]; rfl)) (fun u hu => match u, hu with | 0, _ => (Eq.trans (show a37 16 = cRow 1 a 0 from by rw [cRow_lt (p := 1) (a := a) (by decide : 0 < 8)]; first | rfl | (simp only [fa37 16 (by decide), fa25 16 (by decide), fa19 16 (by decide), fa15 16 (by decide), kg1.fa 16 rfl, sMn, sMx, cCoin, cT]; done) | (simp only [fa37 16 (by decide), fa25 16 (by decide), fa19 16 (by decide), fa15 16 (by decide), kg1.fa 16 rfl, sMn, sMx, cCoin, cT]; rfl)) (cG_f (c := x1) (T := (cT 1 i a)) (u := 0) (oc63 w35) (oc64 w35))) | 1, _ => (Eq.trans (show a37 17 = cRow 1 a 1 from by rw [cRow_lt (p := 1) (a := a) (by decide : 1 < 8)]; first | rfl | (simp only [fa37 17 (by decide), fa25 17 (by decide), fa19 17 (by decide), fa15 17 (by decide), kg1.fa 17 rfl, sMn, sMx, cCoin, cT]; done) | (simp only [fa37 17 (by decide), fa25 17 (by decide), fa19 17 (by decide), fa15 17 (by decide), kg1.fa 17 rfl, sMn, sMx, cCoin, cT]; rfl)) (cG_f (c := x1) (T := (cT 1 i a)) (u := 1) (oc63 w35) (oc65 w35))) | 2, _ => (Eq.trans (show a37 18 = cRow 1 a 2 from by rw [cRow_lt (p := 1) (a := a) (by decide : 2 < 8)]; first | rfl | (simp only [fa37 18 (by decide), fa25 18 (by decide), fa19 18 (by decide), fa15 18 (by decide), kg1.fa 18 rfl, sMn, sMx, cCoin, cT]; done) | (simp only [fa37 18 (by decide), fa25 18 (by decide), fa19 18 (by decide), fa15 18 (by decide), kg1.fa 18 rfl, sMn, sMx, cCoin, cT]; rfl)) (cG_f (c := x1) (T := (cT 1 i a)) (u := 2) (oc63 w35) (oc66 w35))) | 3, _ => (Eq.trans (show a37 19 = (cRow 1 a 3).set x1.toNatClampNeg ((cRow 1 a 3).getD x1.toNatClampNeg 0 + cCoin (cT 1 i a)) from by rw [cRow_lt (p := 1) (a := a) (by decide : 3 < 8)]; first | rfl | (simp only [ea37, fa25 19 (by decide), qm11, kg1.fa 2 rfl, fa19 19 (by decide), fa15 19 (by decide), kg1.fa 19 rfl, sMn, sMx, cCoin, cT]; done) | (simp only [ea37, fa25 19 (by decide), qm11, kg1.fa 2 rfl, fa19 19 (by decide), fa15 19 (by decide), kg1.fa 19 rfl, sMn, sMx, cCoin, cT]; rfl)) (cG_t (c := x1) (T := (cT 1 i a)) (u := 3) (oc67 w35))) | 4, _ => (Eq.trans (show a37 20 = cRow 1 a 4 from by rw [cRow_lt (p := 1) (a := a) (by decide : 4 < 8)]; first | rfl | (simp only [fa37 20 (by decide), fa25 20 (by decide), fa19 20 (by decide), fa15 20 (by decide), kg1.fa 20 rfl, sMn, sMx, cCoin, cT]; done) | (simp only [fa37 20 (by decide), fa25 20 (by decide), fa19 20 (by decide), fa15 20 (by decide), kg1.fa 20 rfl, sMn, sMx, cCoin, cT]; rfl)) (cG_f (c := x1) (T := (cT 1 i a)) (u := 4) (oc63 w35) (oc68 w35))) | 5, _ => (Eq.trans (show a37 21 = cRow 1 a 5 from by rw [cRow_lt (p := 1) (a := a) (by decide : 5 < 8)]; first | rfl | (simp only [fa37 21 (by decide), fa25 21 (by decide), fa19 21 (by decide), fa15 21 (by decide), kg1.fa 21 rfl, sMn, sMx, cCoin, cT]; done) | (simp only [fa37 21 (by decide), fa25 21 (by decide), fa19 21 (by decide), fa15 21 (by decide), kg1.fa 21 rfl, sMn, sMx, cCoin, cT]; rfl)) (cG_f (c := x1) (T := (cT 1 i a)) (u := 5) (oc63 w35) (oc69 w35))) | 6, _ => (Eq.trans (show a37 22 = cRow 1 a 6 from by rw [cRow_lt (p := 1) (a := a) (by decide : 6 < 8)]; first | rfl | (simp only [fa37 22 (by decide), fa25 22 (by decide), fa19 22 (by decide), fa15 22 (by decide), kg1.fa 22 rfl, sMn, sMx, cCoin, cT]; done) | (simp only [fa37 22 (by decide), fa25 22 (by decide), fa19 22 (by decide), fa15 22 (by decide), kg1.fa 22 rfl, sMn, sMx, cCoin, cT]; rfl)) (cG_f (c := x1) (T := (cT 1 i a)) (u := 6) (oc63 w35) (oc70 w35))) | 7, _ => (Eq.trans (show a37 23 = cRow 1 a 7 from by rw [cRow_lt (p := 1) (a := a) (by decide : 7 < 8)]; first | rfl | (simp only [fa37 23 (by decide), fa25 23 (by decide), fa19 23 (by decide), fa15 23 (by decide), kg1.fa 23 rfl, sMn, sMx, cCoin, cT]; done) | (simp only [fa37 23 (by decide), fa25 23 (by decide), fa19 23 (by decide), fa15 23 (by decide), kg1.fa 23 rfl, sMn, sMx, cCoin, cT]; rfl)) (cG_f (c := x1) (T := (cT 1 i a)) (u := 7) (oc63 w35) (oc71 w35))) | _ + 8, h => absurd h (by omega)) (fun u hu => (cG_f (c := x1) (T := (cT 1 i a)) (oc63 w35) (kj_big hu (oc72 w35))).symm.trans (cRow_ge hu))).trans (show cGive x1 (cT 1 i a) = cPay (i 64) x1 (cT 1 i a) from (if_pos (oc62 c8 efig1_64 w35 z10.2)).symm))⟩)
        by_cases w38 : ((a 8).getD (0 : Int32).toNatClampNeg 0).toInt = 4
        ·
          refine ft_alx mi_k30 (pc := 128) (v := 4) (p := 15) (z := 20) (kj_eq w38 (by decide) : ((a 8).getD (0 : Int32).toNatClampNeg 0) = 4) (by decide +kernel) (by decide +kernel) ?_
          refine fo_goS mi_k30 fz30_129_2_131 [.int x1, .ref 20, .int x1, .ref 20] rfl ?_
          refine ko_iald3 mi_k30.1 (n := 8) (c := 8) (ax := (0, 0, 0, 0, 0)) (mi_k30.2 _ _ (by rfl)) (by rfl) (ksG20 _ _ _ _) (hJ25.I.2.1 20) rfl (oc1 hp0.1) (oc28 hp0.2) ?_
          have b39 : ((-2147483648 : Int) ≤ ((a25 20).getD x1.toNatClampNeg 0).toInt) ∧ (((a25 20).getD x1.toNatClampNeg 0).toInt ≤ 2147483647) := kd_bd ((a25 20).getD x1.toNatClampNeg 0)
          refine fo_goS mi_k30 fz30_132_2_135 [.int (((a25 20).getD x1.toNatClampNeg 0) + m11), .int x1, .ref 20] rfl ?_
          refine ko_iast3 mi_k30.1 (n := 8) (c := 8) (ax := (0, 0, 0, 0, 0)) (mi_k30.2 _ _ (by rfl)) (by rfl) (ksG20 _ _ _ _) (ksA20 _ _ _ _) (hJ25.I.2.1 20) rfl (oc1 hp0.1) (oc28 hp0.2) ?_
          intro a40 ea40 fa40
          have hJ40 := kG_a3 hJ25 20 rfl ea40 fa40 (kd_bd _)
          exact ft_ret mi_k30 (by rfl) (hP  _ _ _ _ hJ40 ⟨(oc20 z2), ((cT_eq (p := 1) (i := ku ig1 79 ((ig1 79) + m11)) (a := a40) (T := cGive x1 (cT 1 i a)) (show ig1 450 = (cGive x1 (cT 1 i a)).1 from by first | rfl | (simp only [q3, sMn, sMx, cGive, cRest, cCoin, cT]; done) | (simp only [q3, sMn, sMx, cGive, cRest, cCoin, cT]; rfl)) (show a40 8 = (cGive x1 (cT 1 i a)).2.1 from by first | rfl | (simp only [fa40 8 (by decide), fa25 8 (by decide), fa19 8 (by decide), fa15 8 (by decide), q4, sMn, sMx, cGive, cRest, cCoin, cT]; done) | (simp only [fa40 8 (by decide), fa25 8 (by decide), fa19 8 (by decide), fa15 8 (by decide), q4, sMn, sMx, cGive, cRest, cCoin, cT]; rfl)) (show a40 9 = (cGive x1 (cT 1 i a)).2.2.1 from by first | rfl | (simp only [fa40 9 (by decide), fa25 9 (by decide), fa19 9 (by decide), fa15 9 (by decide), q5, sMn, sMx, cGive, cRest, cCoin, cT]; done) | (simp only [fa40 9 (by decide), fa25 9 (by decide), fa19 9 (by decide), fa15 9 (by decide), q5, sMn, sMx, cGive, cRest, cCoin, cT]; rfl)) (show a40 2 = (cGive x1 (cT 1 i a)).2.2.2.1 from by first | rfl | (simp only [fa40 2 (by decide), fa25 2 (by decide), ea19, ea15, qm17, qm11, kg1.fa 2 rfl, sMn, sMx, cGive, cRest, cCoin, cT]; done) | (simp only [fa40 2 (by decide), fa25 2 (by decide), ea19, ea15, qm17, qm11, kg1.fa 2 rfl, sMn, sMx, cGive, cRest, cCoin, cT]; rfl)) ((show ig1 78 = i 78 from (by first | rfl | (simp only [(kg1.fi 78 rfl : ig1 78 = i 78), sMn, sMx]; done) | (simp only [(kg1.fi 78 rfl : ig1 78 = i 78), sMn, sMx]; rfl))).trans (cY_neg (y := i 78) (d := (a 8).getD 0 0) (oc22 c6 efig1_78 koc8))) (show ((ig1 79) + m11) = (cGive x1 (cT 1 i a)).2.2.2.2.2.1 from by first | rfl | (simp only [(kg1.fi 79 rfl : ig1 79 = i 79), qm11, kg1.fa 2 rfl, sMn, sMx, cGive, cRest, cCoin, cT]; done) | (simp only [(kg1.fi 79 rfl : ig1 79 = i 79), qm11, kg1.fa 2 rfl, sMn, sMx, cGive, cRest, cCoin, cT]; rfl)) (show a40 14 = (cGive x1 (cT 1 i a)).2.2.2.2.2.2.1 from by first | rfl | (simp only [fa40 14 (by decide), ea25, fa19 14 (by decide), qm11, kg1.fa 2 rfl, fa15 14 (by decide), kg1.fa 14 rfl, sMn, sMx, cGive, cRest, cCoin, cT]; done) | (simp only [fa40 14 (by decide), ea25, fa19 14 (by decide), qm11, kg1.fa 2 rfl, fa15 14 (by decide), kg1.fa 14 rfl, sMn, sMx, cGive, cRest, cCoin, cT]; rfl)) (fun u hu => match u, hu with | 0, _ => (Eq.trans (show a40 16 = cRow 1 a 0 from by rw [cRow_lt (p := 1) (a := a) (by decide : 0 < 8)]; first | rfl | (simp only [fa40 16 (by decide), fa25 16 (by decide), fa19 16 (by decide), fa15 16 (by decide), kg1.fa 16 rfl, sMn, sMx, cCoin, cT]; done) | (simp only [fa40 16 (by decide), fa25 16 (by decide), fa19 16 (by decide), fa15 16 (by decide), kg1.fa 16 rfl, sMn, sMx, cCoin, cT]; rfl)) (cG_f (c := x1) (T := (cT 1 i a)) (u := 0) (oc74 w38) (oc75 w38))) | 1, _ => (Eq.trans (show a40 17 = cRow 1 a 1 from by rw [cRow_lt (p := 1) (a := a) (by decide : 1 < 8)]; first | rfl | (simp only [fa40 17 (by decide), fa25 17 (by decide), fa19 17 (by decide), fa15 17 (by decide), kg1.fa 17 rfl, sMn, sMx, cCoin, cT]; done) | (simp only [fa40 17 (by decide), fa25 17 (by decide), fa19 17 (by decide), fa15 17 (by decide), kg1.fa 17 rfl, sMn, sMx, cCoin, cT]; rfl)) (cG_f (c := x1) (T := (cT 1 i a)) (u := 1) (oc74 w38) (oc76 w38))) | 2, _ => (Eq.trans (show a40 18 = cRow 1 a 2 from by rw [cRow_lt (p := 1) (a := a) (by decide : 2 < 8)]; first | rfl | (simp only [fa40 18 (by decide), fa25 18 (by decide), fa19 18 (by decide), fa15 18 (by decide), kg1.fa 18 rfl, sMn, sMx, cCoin, cT]; done) | (simp only [fa40 18 (by decide), fa25 18 (by decide), fa19 18 (by decide), fa15 18 (by decide), kg1.fa 18 rfl, sMn, sMx, cCoin, cT]; rfl)) (cG_f (c := x1) (T := (cT 1 i a)) (u := 2) (oc74 w38) (oc77 w38))) | 3, _ => (Eq.trans (show a40 19 = cRow 1 a 3 from by rw [cRow_lt (p := 1) (a := a) (by decide : 3 < 8)]; first | rfl | (simp only [fa40 19 (by decide), fa25 19 (by decide), fa19 19 (by decide), fa15 19 (by decide), kg1.fa 19 rfl, sMn, sMx, cCoin, cT]; done) | (simp only [fa40 19 (by decide), fa25 19 (by decide), fa19 19 (by decide), fa15 19 (by decide), kg1.fa 19 rfl, sMn, sMx, cCoin, cT]; rfl)) (cG_f (c := x1) (T := (cT 1 i a)) (u := 3) (oc74 w38) (oc78 w38))) | 4, _ => (Eq.trans (show a40 20 = (cRow 1 a 4).set x1.toNatClampNeg ((cRow 1 a 4).getD x1.toNatClampNeg 0 + cCoin (cT 1 i a)) from by rw [cRow_lt (p := 1) (a := a) (by decide : 4 < 8)]; first | rfl | (simp only [ea40, fa25 20 (by decide), qm11, kg1.fa 2 rfl, fa19 20 (by decide), fa15 20 (by decide), kg1.fa 20 rfl, sMn, sMx, cCoin, cT]; done) | (simp only [ea40, fa25 20 (by decide), qm11, kg1.fa 2 rfl, fa19 20 (by decide), fa15 20 (by decide), kg1.fa 20 rfl, sMn, sMx, cCoin, cT]; rfl)) (cG_t (c := x1) (T := (cT 1 i a)) (u := 4) (oc79 w38))) | 5, _ => (Eq.trans (show a40 21 = cRow 1 a 5 from by rw [cRow_lt (p := 1) (a := a) (by decide : 5 < 8)]; first | rfl | (simp only [fa40 21 (by decide), fa25 21 (by decide), fa19 21 (by decide), fa15 21 (by decide), kg1.fa 21 rfl, sMn, sMx, cCoin, cT]; done) | (simp only [fa40 21 (by decide), fa25 21 (by decide), fa19 21 (by decide), fa15 21 (by decide), kg1.fa 21 rfl, sMn, sMx, cCoin, cT]; rfl)) (cG_f (c := x1) (T := (cT 1 i a)) (u := 5) (oc74 w38) (oc80 w38))) | 6, _ => (Eq.trans (show a40 22 = cRow 1 a 6 from by rw [cRow_lt (p := 1) (a := a) (by decide : 6 < 8)]; first | rfl | (simp only [fa40 22 (by decide), fa25 22 (by decide), fa19 22 (by decide), fa15 22 (by decide), kg1.fa 22 rfl, sMn, sMx, cCoin, cT]; done) | (simp only [fa40 22 (by decide), fa25 22 (by decide), fa19 22 (by decide), fa15 22 (by decide), kg1.fa 22 rfl, sMn, sMx, cCoin, cT]; rfl)) (cG_f (c := x1) (T := (cT 1 i a)) (u := 6) (oc74 w38) (oc81 w38))) | 7, _ => (Eq.trans (show a40 23 = cRow 1 a 7 from by rw [cRow_lt (p := 1) (a := a) (by decide : 7 < 8)]; first | rfl | (simp only [fa40 23 (by decide), fa25 23 (by decide), fa19 23 (by decide), fa15 23 (by decide), kg1.fa 23 rfl, sMn, sMx, cCoin, cT]; done) | (simp only [fa40 23 (by decide), fa25 23 (by decide), fa19 23 (by decide), fa15 23 (by decide), kg1.fa 23 rfl, sMn, sMx, cCoin, cT]; rfl)) (cG_f (c := x1) (T := (cT 1 i a)) (u := 7) (oc74 w38) (oc82 w38))) | _ + 8, h => absurd h (by omega)) (fun u hu => (cG_f (c := x1) (T := (cT 1 i a)) (oc74 w38) (kj_big hu (oc83 w38))).symm.trans (cRow_ge hu))).trans (show cGive x1 (cT 1 i a) = cPay (i 64) x1 (cT 1 i a) from (if_pos (oc73 c8 efig1_64 w38 z10.2)).symm))⟩)
        by_cases w41 : ((a 8).getD (0 : Int32).toNatClampNeg 0).toInt = 5
        ·
          refine ft_alx mi_k30 (pc := 128) (v := 5) (p := 15) (z := 21) (kj_eq w41 (by decide) : ((a 8).getD (0 : Int32).toNatClampNeg 0) = 5) (by decide +kernel) (by decide +kernel) ?_
          refine fo_goS mi_k30 fz30_129_2_131 [.int x1, .ref 21, .int x1, .ref 21] rfl ?_
          refine ko_iald3 mi_k30.1 (n := 8) (c := 8) (ax := (0, 0, 0, 0, 0)) (mi_k30.2 _ _ (by rfl)) (by rfl) (ksG21 _ _ _ _) (hJ25.I.2.1 21) rfl (oc1 hp0.1) (oc28 hp0.2) ?_
          have b42 : ((-2147483648 : Int) ≤ ((a25 21).getD x1.toNatClampNeg 0).toInt) ∧ (((a25 21).getD x1.toNatClampNeg 0).toInt ≤ 2147483647) := kd_bd ((a25 21).getD x1.toNatClampNeg 0)
          refine fo_goS mi_k30 fz30_132_2_135 [.int (((a25 21).getD x1.toNatClampNeg 0) + m11), .int x1, .ref 21] rfl ?_
          refine ko_iast3 mi_k30.1 (n := 8) (c := 8) (ax := (0, 0, 0, 0, 0)) (mi_k30.2 _ _ (by rfl)) (by rfl) (ksG21 _ _ _ _) (ksA21 _ _ _ _) (hJ25.I.2.1 21) rfl (oc1 hp0.1) (oc28 hp0.2) ?_
          intro a43 ea43 fa43
          have hJ43 := kG_a3 hJ25 21 rfl ea43 fa43 (kd_bd _)
          exact ft_ret mi_k30 (by rfl) (hP  _ _ _ _ hJ43 ⟨(oc20 z2), ((cT_eq (p := 1) (i := ku ig1 79 ((ig1 79) + m11)) (a := a43) (T := cGive x1 (cT 1 i a)) (show ig1 450 = (cGive x1 (cT 1 i a)).1 from by first | rfl | (simp only [q3, sMn, sMx, cGive, cRest, cCoin, cT]; done) | (simp only [q3, sMn, sMx, cGive, cRest, cCoin, cT]; rfl)) (show a43 8 = (cGive x1 (cT 1 i a)).2.1 from by first | rfl | (simp only [fa43 8 (by decide), fa25 8 (by decide), fa19 8 (by decide), fa15 8 (by decide), q4, sMn, sMx, cGive, cRest, cCoin, cT]; done) | (simp only [fa43 8 (by decide), fa25 8 (by decide), fa19 8 (by decide), fa15 8 (by decide), q4, sMn, sMx, cGive, cRest, cCoin, cT]; rfl)) (show a43 9 = (cGive x1 (cT 1 i a)).2.2.1 from by first | rfl | (simp only [fa43 9 (by decide), fa25 9 (by decide), fa19 9 (by decide), fa15 9 (by decide), q5, sMn, sMx, cGive, cRest, cCoin, cT]; done) | (simp only [fa43 9 (by decide), fa25 9 (by decide), fa19 9 (by decide), fa15 9 (by decide), q5, sMn, sMx, cGive, cRest, cCoin, cT]; rfl)) (show a43 2 = (cGive x1 (cT 1 i a)).2.2.2.1 from by first | rfl | (simp only [fa43 2 (by decide), fa25 2 (by decide), ea19, ea15, qm17, qm11, kg1.fa 2 rfl, sMn, sMx, cGive, cRest, cCoin, cT]; done) | (simp only [fa43 2 (by decide), fa25 2 (by decide), ea19, ea15, qm17, qm11, kg1.fa 2 rfl, sMn, sMx, cGive, cRest, cCoin, cT]; rfl)) ((show ig1 78 = i 78 from (by first | rfl | (simp only [(kg1.fi 78 rfl : ig1 78 = i 78), sMn, sMx]; done) | (simp only [(kg1.fi 78 rfl : ig1 78 = i 78), sMn, sMx]; rfl))).trans (cY_neg (y := i 78) (d := (a 8).getD 0 0) (oc22 c6 efig1_78 koc8))) (show ((ig1 79) + m11) = (cGive x1 (cT 1 i a)).2.2.2.2.2.1 from by first | rfl | (simp only [(kg1.fi 79 rfl : ig1 79 = i 79), qm11, kg1.fa 2 rfl, sMn, sMx, cGive, cRest, cCoin, cT]; done) | (simp only [(kg1.fi 79 rfl : ig1 79 = i 79), qm11, kg1.fa 2 rfl, sMn, sMx, cGive, cRest, cCoin, cT]; rfl)) (show a43 14 = (cGive x1 (cT 1 i a)).2.2.2.2.2.2.1 from by first | rfl | (simp only [fa43 14 (by decide), ea25, fa19 14 (by decide), qm11, kg1.fa 2 rfl, fa15 14 (by decide), kg1.fa 14 rfl, sMn, sMx, cGive, cRest, cCoin, cT]; done) | (simp only [fa43 14 (by decide), ea25, fa19 14 (by decide), qm11, kg1.fa 2 rfl, fa15 14 (by decide), kg1.fa 14 rfl, sMn, sMx, cGive, cRest, cCoin, cT]; rfl)) (fun u hu => match u, hu with | 0, _ => (Eq.trans (show a43 16 = cRow 1 a 0 from by rw [cRow_lt (p := 1) (a := a) (by decide : 0 < 8)]; first | rfl | (simp only [fa43 16 (by decide), fa25 16 (by decide), fa19 16 (by decide), fa15 16 (by decide), kg1.fa 16 rfl, sMn, sMx, cCoin, cT]; done) | (simp only [fa43 16 (by decide), fa25 16 (by decide), fa19 16 (by decide), fa15 16 (by decide), kg1.fa 16 rfl, sMn, sMx, cCoin, cT]; rfl)) (cG_f (c := x1) (T := (cT 1 i a)) (u := 0) (oc85 w41) (oc86 w41))) | 1, _ => (Eq.trans (show a43 17 = cRow 1 a 1 from by rw [cRow_lt (p := 1) (a := a) (by decide : 1 < 8)]; first | rfl | (simp only [fa43 17 (by decide), fa25 17 (by decide), fa19 17 (by decide), fa15 17 (by decide), kg1.fa 17 rfl, sMn, sMx, cCoin, cT]; done) | (simp only [fa43 17 (by decide), fa25 17 (by decide), fa19 17 (by decide), fa15 17 (by decide), kg1.fa 17 rfl, sMn, sMx, cCoin, cT]; rfl)) (cG_f (c := x1) (T := (cT 1 i a)) (u := 1) (oc85 w41) (oc87 w41))) | 2, _ => (Eq.trans (show a43 18 = cRow 1 a 2 from by rw [cRow_lt (p := 1) (a := a) (by decide : 2 < 8)]; first | rfl | (simp only [fa43 18 (by decide), fa25 18 (by decide), fa19 18 (by decide), fa15 18 (by decide), kg1.fa 18 rfl, sMn, sMx, cCoin, cT]; done) | (simp only [fa43 18 (by decide), fa25 18 (by decide), fa19 18 (by decide), fa15 18 (by decide), kg1.fa 18 rfl, sMn, sMx, cCoin, cT]; rfl)) (cG_f (c := x1) (T := (cT 1 i a)) (u := 2) (oc85 w41) (oc88 w41))) | 3, _ => (Eq.trans (show a43 19 = cRow 1 a 3 from by rw [cRow_lt (p := 1) (a := a) (by decide : 3 < 8)]; first | rfl | (simp only [fa43 19 (by decide), fa25 19 (by decide), fa19 19 (by decide), fa15 19 (by decide), kg1.fa 19 rfl, sMn, sMx, cCoin, cT]; done) | (simp only [fa43 19 (by decide), fa25 19 (by decide), fa19 19 (by decide), fa15 19 (by decide), kg1.fa 19 rfl, sMn, sMx, cCoin, cT]; rfl)) (cG_f (c := x1) (T := (cT 1 i a)) (u := 3) (oc85 w41) (oc89 w41))) | 4, _ => (Eq.trans (show a43 20 = cRow 1 a 4 from by rw [cRow_lt (p := 1) (a := a) (by decide : 4 < 8)]; first | rfl | (simp only [fa43 20 (by decide), fa25 20 (by decide), fa19 20 (by decide), fa15 20 (by decide), kg1.fa 20 rfl, sMn, sMx, cCoin, cT]; done) | (simp only [fa43 20 (by decide), fa25 20 (by decide), fa19 20 (by decide), fa15 20 (by decide), kg1.fa 20 rfl, sMn, sMx, cCoin, cT]; rfl)) (cG_f (c := x1) (T := (cT 1 i a)) (u := 4) (oc85 w41) (oc90 w41))) | 5, _ => (Eq.trans (show a43 21 = (cRow 1 a 5).set x1.toNatClampNeg ((cRow 1 a 5).getD x1.toNatClampNeg 0 + cCoin (cT 1 i a)) from by rw [cRow_lt (p := 1) (a := a) (by decide : 5 < 8)]; first | rfl | (simp only [ea43, fa25 21 (by decide), qm11, kg1.fa 2 rfl, fa19 21 (by decide), fa15 21 (by decide), kg1.fa 21 rfl, sMn, sMx, cCoin, cT]; done) | (simp only [ea43, fa25 21 (by decide), qm11, kg1.fa 2 rfl, fa19 21 (by decide), fa15 21 (by decide), kg1.fa 21 rfl, sMn, sMx, cCoin, cT]; rfl)) (cG_t (c := x1) (T := (cT 1 i a)) (u := 5) (oc91 w41))) | 6, _ => (Eq.trans (show a43 22 = cRow 1 a 6 from by rw [cRow_lt (p := 1) (a := a) (by decide : 6 < 8)]; first | rfl | (simp only [fa43 22 (by decide), fa25 22 (by decide), fa19 22 (by decide), fa15 22 (by decide), kg1.fa 22 rfl, sMn, sMx, cCoin, cT]; done) | (simp only [fa43 22 (by decide), fa25 22 (by decide), fa19 22 (by decide), fa15 22 (by decide), kg1.fa 22 rfl, sMn, sMx, cCoin, cT]; rfl)) (cG_f (c := x1) (T := (cT 1 i a)) (u := 6) (oc85 w41) (oc92 w41))) | 7, _ => (Eq.trans (show a43 23 = cRow 1 a 7 from by rw [cRow_lt (p := 1) (a := a) (by decide : 7 < 8)]; first | rfl | (simp only [fa43 23 (by decide), fa25 23 (by decide), fa19 23 (by decide), fa15 23 (by decide), kg1.fa 23 rfl, sMn, sMx, cCoin, cT]; done) | (simp only [fa43 23 (by decide), fa25 23 (by decide), fa19 23 (by decide), fa15 23 (by decide), kg1.fa 23 rfl, sMn, sMx, cCoin, cT]; rfl)) (cG_f (c := x1) (T := (cT 1 i a)) (u := 7) (oc85 w41) (oc93 w41))) | _ + 8, h => absurd h (by omega)) (fun u hu => (cG_f (c := x1) (T := (cT 1 i a)) (oc85 w41) (kj_big hu (oc94 w41))).symm.trans (cRow_ge hu))).trans (show cGive x1 (cT 1 i a) = cPay (i 64) x1 (cT 1 i a) from (if_pos (oc84 c8 efig1_64 w41 z10.2)).symm))⟩)
        by_cases w44 : ((a 8).getD (0 : Int32).toNatClampNeg 0).toInt = 6
        ·
          refine ft_alx mi_k30 (pc := 128) (v := 6) (p := 15) (z := 22) (kj_eq w44 (by decide) : ((a 8).getD (0 : Int32).toNatClampNeg 0) = 6) (by decide +kernel) (by decide +kernel) ?_
          refine fo_goS mi_k30 fz30_129_2_131 [.int x1, .ref 22, .int x1, .ref 22] rfl ?_
          refine ko_iald3 mi_k30.1 (n := 8) (c := 8) (ax := (0, 0, 0, 0, 0)) (mi_k30.2 _ _ (by rfl)) (by rfl) (ksG22 _ _ _ _) (hJ25.I.2.1 22) rfl (oc1 hp0.1) (oc28 hp0.2) ?_
          have b45 : ((-2147483648 : Int) ≤ ((a25 22).getD x1.toNatClampNeg 0).toInt) ∧ (((a25 22).getD x1.toNatClampNeg 0).toInt ≤ 2147483647) := kd_bd ((a25 22).getD x1.toNatClampNeg 0)
          refine fo_goS mi_k30 fz30_132_2_135 [.int (((a25 22).getD x1.toNatClampNeg 0) + m11), .int x1, .ref 22] rfl ?_
          refine ko_iast3 mi_k30.1 (n := 8) (c := 8) (ax := (0, 0, 0, 0, 0)) (mi_k30.2 _ _ (by rfl)) (by rfl) (ksG22 _ _ _ _) (ksA22 _ _ _ _) (hJ25.I.2.1 22) rfl (oc1 hp0.1) (oc28 hp0.2) ?_
          intro a46 ea46 fa46
          have hJ46 := kG_a3 hJ25 22 rfl ea46 fa46 (kd_bd _)
          exact ft_ret mi_k30 (by rfl) (hP  _ _ _ _ hJ46 ⟨(oc20 z2), ((cT_eq (p := 1) (i := ku ig1 79 ((ig1 79) + m11)) (a := a46) (T := cGive x1 (cT 1 i a)) (show ig1 450 = (cGive x1 (cT 1 i a)).1 from by first | rfl | (simp only [q3, sMn, sMx, cGive, cRest, cCoin, cT]; done) | (simp only [q3, sMn, sMx, cGive, cRest, cCoin, cT]; rfl)) (show a46 8 = (cGive x1 (cT 1 i a)).2.1 from by first | rfl | (simp only [fa46 8 (by decide), fa25 8 (by decide), fa19 8 (by decide), fa15 8 (by decide), q4, sMn, sMx, cGive, cRest, cCoin, cT]; done) | (simp only [fa46 8 (by decide), fa25 8 (by decide), fa19 8 (by decide), fa15 8 (by decide), q4, sMn, sMx, cGive, cRest, cCoin, cT]; rfl)) (show a46 9 = (cGive x1 (cT 1 i a)).2.2.1 from by first | rfl | (simp only [fa46 9 (by decide), fa25 9 (by decide), fa19 9 (by decide), fa15 9 (by decide), q5, sMn, sMx, cGive, cRest, cCoin, cT]; done) | (simp only [fa46 9 (by decide), fa25 9 (by decide), fa19 9 (by decide), fa15 9 (by decide), q5, sMn, sMx, cGive, cRest, cCoin, cT]; rfl)) (show a46 2 = (cGive x1 (cT 1 i a)).2.2.2.1 from by first | rfl | (simp only [fa46 2 (by decide), fa25 2 (by decide), ea19, ea15, qm17, qm11, kg1.fa 2 rfl, sMn, sMx, cGive, cRest, cCoin, cT]; done) | (simp only [fa46 2 (by decide), fa25 2 (by decide), ea19, ea15, qm17, qm11, kg1.fa 2 rfl, sMn, sMx, cGive, cRest, cCoin, cT]; rfl)) ((show ig1 78 = i 78 from (by first | rfl | (simp only [(kg1.fi 78 rfl : ig1 78 = i 78), sMn, sMx]; done) | (simp only [(kg1.fi 78 rfl : ig1 78 = i 78), sMn, sMx]; rfl))).trans (cY_neg (y := i 78) (d := (a 8).getD 0 0) (oc22 c6 efig1_78 koc8))) (show ((ig1 79) + m11) = (cGive x1 (cT 1 i a)).2.2.2.2.2.1 from by first | rfl | (simp only [(kg1.fi 79 rfl : ig1 79 = i 79), qm11, kg1.fa 2 rfl, sMn, sMx, cGive, cRest, cCoin, cT]; done) | (simp only [(kg1.fi 79 rfl : ig1 79 = i 79), qm11, kg1.fa 2 rfl, sMn, sMx, cGive, cRest, cCoin, cT]; rfl)) (show a46 14 = (cGive x1 (cT 1 i a)).2.2.2.2.2.2.1 from by first | rfl | (simp only [fa46 14 (by decide), ea25, fa19 14 (by decide), qm11, kg1.fa 2 rfl, fa15 14 (by decide), kg1.fa 14 rfl, sMn, sMx, cGive, cRest, cCoin, cT]; done) | (simp only [fa46 14 (by decide), ea25, fa19 14 (by decide), qm11, kg1.fa 2 rfl, fa15 14 (by decide), kg1.fa 14 rfl, sMn, sMx, cGive, cRest, cCoin, cT]; rfl)) (fun u hu => match u, hu with | 0, _ => (Eq.trans (show a46 16 = cRow 1 a 0 from by rw [cRow_lt (p := 1) (a := a) (by decide : 0 < 8)]; first | rfl | (simp only [fa46 16 (by decide), fa25 16 (by decide), fa19 16 (by decide), fa15 16 (by decide), kg1.fa 16 rfl, sMn, sMx, cCoin, cT]; done) | (simp only [fa46 16 (by decide), fa25 16 (by decide), fa19 16 (by decide), fa15 16 (by decide), kg1.fa 16 rfl, sMn, sMx, cCoin, cT]; rfl)) (cG_f (c := x1) (T := (cT 1 i a)) (u := 0) (oc96 w44) (oc97 w44))) | 1, _ => (Eq.trans (show a46 17 = cRow 1 a 1 from by rw [cRow_lt (p := 1) (a := a) (by decide : 1 < 8)]; first | rfl | (simp only [fa46 17 (by decide), fa25 17 (by decide), fa19 17 (by decide), fa15 17 (by decide), kg1.fa 17 rfl, sMn, sMx, cCoin, cT]; done) | (simp only [fa46 17 (by decide), fa25 17 (by decide), fa19 17 (by decide), fa15 17 (by decide), kg1.fa 17 rfl, sMn, sMx, cCoin, cT]; rfl)) (cG_f (c := x1) (T := (cT 1 i a)) (u := 1) (oc96 w44) (oc98 w44))) | 2, _ => (Eq.trans (show a46 18 = cRow 1 a 2 from by rw [cRow_lt (p := 1) (a := a) (by decide : 2 < 8)]; first | rfl | (simp only [fa46 18 (by decide), fa25 18 (by decide), fa19 18 (by decide), fa15 18 (by decide), kg1.fa 18 rfl, sMn, sMx, cCoin, cT]; done) | (simp only [fa46 18 (by decide), fa25 18 (by decide), fa19 18 (by decide), fa15 18 (by decide), kg1.fa 18 rfl, sMn, sMx, cCoin, cT]; rfl)) (cG_f (c := x1) (T := (cT 1 i a)) (u := 2) (oc96 w44) (oc99 w44))) | 3, _ => (Eq.trans (show a46 19 = cRow 1 a 3 from by rw [cRow_lt (p := 1) (a := a) (by decide : 3 < 8)]; first | rfl | (simp only [fa46 19 (by decide), fa25 19 (by decide), fa19 19 (by decide), fa15 19 (by decide), kg1.fa 19 rfl, sMn, sMx, cCoin, cT]; done) | (simp only [fa46 19 (by decide), fa25 19 (by decide), fa19 19 (by decide), fa15 19 (by decide), kg1.fa 19 rfl, sMn, sMx, cCoin, cT]; rfl)) (cG_f (c := x1) (T := (cT 1 i a)) (u := 3) (oc96 w44) (oc100 w44))) | 4, _ => (Eq.trans (show a46 20 = cRow 1 a 4 from by rw [cRow_lt (p := 1) (a := a) (by decide : 4 < 8)]; first | rfl | (simp only [fa46 20 (by decide), fa25 20 (by decide), fa19 20 (by decide), fa15 20 (by decide), kg1.fa 20 rfl, sMn, sMx, cCoin, cT]; done) | (simp only [fa46 20 (by decide), fa25 20 (by decide), fa19 20 (by decide), fa15 20 (by decide), kg1.fa 20 rfl, sMn, sMx, cCoin, cT]; rfl)) (cG_f (c := x1) (T := (cT 1 i a)) (u := 4) (oc96 w44) (oc101 w44))) | 5, _ => (Eq.trans (show a46 21 = cRow 1 a 5 from by rw [cRow_lt (p := 1) (a := a) (by decide : 5 < 8)]; first | rfl | (simp only [fa46 21 (by decide), fa25 21 (by decide), fa19 21 (by decide), fa15 21 (by decide), kg1.fa 21 rfl, sMn, sMx, cCoin, cT]; done) | (simp only [fa46 21 (by decide), fa25 21 (by decide), fa19 21 (by decide), fa15 21 (by decide), kg1.fa 21 rfl, sMn, sMx, cCoin, cT]; rfl)) (cG_f (c := x1) (T := (cT 1 i a)) (u := 5) (oc96 w44) (oc102 w44))) | 6, _ => (Eq.trans (show a46 22 = (cRow 1 a 6).set x1.toNatClampNeg ((cRow 1 a 6).getD x1.toNatClampNeg 0 + cCoin (cT 1 i a)) from by rw [cRow_lt (p := 1) (a := a) (by decide : 6 < 8)]; first | rfl | (simp only [ea46, fa25 22 (by decide), qm11, kg1.fa 2 rfl, fa19 22 (by decide), fa15 22 (by decide), kg1.fa 22 rfl, sMn, sMx, cCoin, cT]; done) | (simp only [ea46, fa25 22 (by decide), qm11, kg1.fa 2 rfl, fa19 22 (by decide), fa15 22 (by decide), kg1.fa 22 rfl, sMn, sMx, cCoin, cT]; rfl)) (cG_t (c := x1) (T := (cT 1 i a)) (u := 6) (oc103 w44))) | 7, _ => (Eq.trans (show a46 23 = cRow 1 a 7 from by rw [cRow_lt (p := 1) (a := a) (by decide : 7 < 8)]; first | rfl | (simp only [fa46 23 (by decide), fa25 23 (by decide), fa19 23 (by decide), fa15 23 (by decide), kg1.fa 23 rfl, sMn, sMx, cCoin, cT]; done) | (simp only [fa46 23 (by decide), fa25 23 (by decide), fa19 23 (by decide), fa15 23 (by decide), kg1.fa 23 rfl, sMn, sMx, cCoin, cT]; rfl)) (cG_f (c := x1) (T := (cT 1 i a)) (u := 7) (oc96 w44) (oc104 w44))) | _ + 8, h => absurd h (by omega)) (fun u hu => (cG_f (c := x1) (T := (cT 1 i a)) (oc96 w44) (kj_big hu (oc105 w44))).symm.trans (cRow_ge hu))).trans (show cGive x1 (cT 1 i a) = cPay (i 64) x1 (cT 1 i a) from (if_pos (oc95 c8 efig1_64 w44 z10.2)).symm))⟩)
        by_cases w47 : ((a 8).getD (0 : Int32).toNatClampNeg 0).toInt = 7
        ·
          refine ft_alx mi_k30 (pc := 128) (v := 7) (p := 15) (z := 23) (kj_eq w47 (by decide) : ((a 8).getD (0 : Int32).toNatClampNeg 0) = 7) (by decide +kernel) (by decide +kernel) ?_
          refine fo_goS mi_k30 fz30_129_2_131 [.int x1, .ref 23, .int x1, .ref 23] rfl ?_
          refine ko_iald3 mi_k30.1 (n := 8) (c := 8) (ax := (0, 0, 0, 0, 0)) (mi_k30.2 _ _ (by rfl)) (by rfl) (ksG23 _ _ _ _) (hJ25.I.2.1 23) rfl (oc1 hp0.1) (oc28 hp0.2) ?_
          have b48 : ((-2147483648 : Int) ≤ ((a25 23).getD x1.toNatClampNeg 0).toInt) ∧ (((a25 23).getD x1.toNatClampNeg 0).toInt ≤ 2147483647) := kd_bd ((a25 23).getD x1.toNatClampNeg 0)
          refine fo_goS mi_k30 fz30_132_2_135 [.int (((a25 23).getD x1.toNatClampNeg 0) + m11), .int x1, .ref 23] rfl ?_
          refine ko_iast3 mi_k30.1 (n := 8) (c := 8) (ax := (0, 0, 0, 0, 0)) (mi_k30.2 _ _ (by rfl)) (by rfl) (ksG23 _ _ _ _) (ksA23 _ _ _ _) (hJ25.I.2.1 23) rfl (oc1 hp0.1) (oc28 hp0.2) ?_
          intro a49 ea49 fa49
          have hJ49 := kG_a3 hJ25 23 rfl ea49 fa49 (kd_bd _)
          exact ft_ret mi_k30 (by rfl) (hP  _ _ _ _ hJ49 ⟨(oc20 z2), ((cT_eq (p := 1) (i := ku ig1 79 ((ig1 79) + m11)) (a := a49) (T := cGive x1 (cT 1 i a)) (show ig1 450 = (cGive x1 (cT 1 i a)).1 from by first | rfl | (simp only [q3, sMn, sMx, cGive, cRest, cCoin, cT]; done) | (simp only [q3, sMn, sMx, cGive, cRest, cCoin, cT]; rfl)) (show a49 8 = (cGive x1 (cT 1 i a)).2.1 from by first | rfl | (simp only [fa49 8 (by decide), fa25 8 (by decide), fa19 8 (by decide), fa15 8 (by decide), q4, sMn, sMx, cGive, cRest, cCoin, cT]; done) | (simp only [fa49 8 (by decide), fa25 8 (by decide), fa19 8 (by decide), fa15 8 (by decide), q4, sMn, sMx, cGive, cRest, cCoin, cT]; rfl)) (show a49 9 = (cGive x1 (cT 1 i a)).2.2.1 from by first | rfl | (simp only [fa49 9 (by decide), fa25 9 (by decide), fa19 9 (by decide), fa15 9 (by decide), q5, sMn, sMx, cGive, cRest, cCoin, cT]; done) | (simp only [fa49 9 (by decide), fa25 9 (by decide), fa19 9 (by decide), fa15 9 (by decide), q5, sMn, sMx, cGive, cRest, cCoin, cT]; rfl)) (show a49 2 = (cGive x1 (cT 1 i a)).2.2.2.1 from by first | rfl | (simp only [fa49 2 (by decide), fa25 2 (by decide), ea19, ea15, qm17, qm11, kg1.fa 2 rfl, sMn, sMx, cGive, cRest, cCoin, cT]; done) | (simp only [fa49 2 (by decide), fa25 2 (by decide), ea19, ea15, qm17, qm11, kg1.fa 2 rfl, sMn, sMx, cGive, cRest, cCoin, cT]; rfl)) ((show ig1 78 = i 78 from (by first | rfl | (simp only [(kg1.fi 78 rfl : ig1 78 = i 78), sMn, sMx]; done) | (simp only [(kg1.fi 78 rfl : ig1 78 = i 78), sMn, sMx]; rfl))).trans (cY_neg (y := i 78) (d := (a 8).getD 0 0) (oc22 c6 efig1_78 koc8))) (show ((ig1 79) + m11) = (cGive x1 (cT 1 i a)).2.2.2.2.2.1 from by first | rfl | (simp only [(kg1.fi 79 rfl : ig1 79 = i 79), qm11, kg1.fa 2 rfl, sMn, sMx, cGive, cRest, cCoin, cT]; done) | (simp only [(kg1.fi 79 rfl : ig1 79 = i 79), qm11, kg1.fa 2 rfl, sMn, sMx, cGive, cRest, cCoin, cT]; rfl)) (show a49 14 = (cGive x1 (cT 1 i a)).2.2.2.2.2.2.1 from by first | rfl | (simp only [fa49 14 (by decide), ea25, fa19 14 (by decide), qm11, kg1.fa 2 rfl, fa15 14 (by decide), kg1.fa 14 rfl, sMn, sMx, cGive, cRest, cCoin, cT]; done) | (simp only [fa49 14 (by decide), ea25, fa19 14 (by decide), qm11, kg1.fa 2 rfl, fa15 14 (by decide), kg1.fa 14 rfl, sMn, sMx, cGive, cRest, cCoin, cT]; rfl)) (fun u hu => match u, hu with | 0, _ => (Eq.trans (show a49 16 = cRow 1 a 0 from by rw [cRow_lt (p := 1) (a := a) (by decide : 0 < 8)]; first | rfl | (simp only [fa49 16 (by decide), fa25 16 (by decide), fa19 16 (by decide), fa15 16 (by decide), kg1.fa 16 rfl, sMn, sMx, cCoin, cT]; done) | (simp only [fa49 16 (by decide), fa25 16 (by decide), fa19 16 (by decide), fa15 16 (by decide), kg1.fa 16 rfl, sMn, sMx, cCoin, cT]; rfl)) (cG_f (c := x1) (T := (cT 1 i a)) (u := 0) (oc107 w47) (oc108 w47))) | 1, _ => (Eq.trans (show a49 17 = cRow 1 a 1 from by rw [cRow_lt (p := 1) (a := a) (by decide : 1 < 8)]; first | rfl | (simp only [fa49 17 (by decide), fa25 17 (by decide), fa19 17 (by decide), fa15 17 (by decide), kg1.fa 17 rfl, sMn, sMx, cCoin, cT]; done) | (simp only [fa49 17 (by decide), fa25 17 (by decide), fa19 17 (by decide), fa15 17 (by decide), kg1.fa 17 rfl, sMn, sMx, cCoin, cT]; rfl)) (cG_f (c := x1) (T := (cT 1 i a)) (u := 1) (oc107 w47) (oc109 w47))) | 2, _ => (Eq.trans (show a49 18 = cRow 1 a 2 from by rw [cRow_lt (p := 1) (a := a) (by decide : 2 < 8)]; first | rfl | (simp only [fa49 18 (by decide), fa25 18 (by decide), fa19 18 (by decide), fa15 18 (by decide), kg1.fa 18 rfl, sMn, sMx, cCoin, cT]; done) | (simp only [fa49 18 (by decide), fa25 18 (by decide), fa19 18 (by decide), fa15 18 (by decide), kg1.fa 18 rfl, sMn, sMx, cCoin, cT]; rfl)) (cG_f (c := x1) (T := (cT 1 i a)) (u := 2) (oc107 w47) (oc110 w47))) | 3, _ => (Eq.trans (show a49 19 = cRow 1 a 3 from by rw [cRow_lt (p := 1) (a := a) (by decide : 3 < 8)]; first | rfl | (simp only [fa49 19 (by decide), fa25 19 (by decide), fa19 19 (by decide), fa15 19 (by decide), kg1.fa 19 rfl, sMn, sMx, cCoin, cT]; done) | (simp only [fa49 19 (by decide), fa25 19 (by decide), fa19 19 (by decide), fa15 19 (by decide), kg1.fa 19 rfl, sMn, sMx, cCoin, cT]; rfl)) (cG_f (c := x1) (T := (cT 1 i a)) (u := 3) (oc107 w47) (oc111 w47))) | 4, _ => (Eq.trans (show a49 20 = cRow 1 a 4 from by rw [cRow_lt (p := 1) (a := a) (by decide : 4 < 8)]; first | rfl | (simp only [fa49 20 (by decide), fa25 20 (by decide), fa19 20 (by decide), fa15 20 (by decide), kg1.fa 20 rfl, sMn, sMx, cCoin, cT]; done) | (simp only [fa49 20 (by decide), fa25 20 (by decide), fa19 20 (by decide), fa15 20 (by decide), kg1.fa 20 rfl, sMn, sMx, cCoin, cT]; rfl)) (cG_f (c := x1) (T := (cT 1 i a)) (u := 4) (oc107 w47) (oc112 w47))) | 5, _ => (Eq.trans (show a49 21 = cRow 1 a 5 from by rw [cRow_lt (p := 1) (a := a) (by decide : 5 < 8)]; first | rfl | (simp only [fa49 21 (by decide), fa25 21 (by decide), fa19 21 (by decide), fa15 21 (by decide), kg1.fa 21 rfl, sMn, sMx, cCoin, cT]; done) | (simp only [fa49 21 (by decide), fa25 21 (by decide), fa19 21 (by decide), fa15 21 (by decide), kg1.fa 21 rfl, sMn, sMx, cCoin, cT]; rfl)) (cG_f (c := x1) (T := (cT 1 i a)) (u := 5) (oc107 w47) (oc113 w47))) | 6, _ => (Eq.trans (show a49 22 = cRow 1 a 6 from by rw [cRow_lt (p := 1) (a := a) (by decide : 6 < 8)]; first | rfl | (simp only [fa49 22 (by decide), fa25 22 (by decide), fa19 22 (by decide), fa15 22 (by decide), kg1.fa 22 rfl, sMn, sMx, cCoin, cT]; done) | (simp only [fa49 22 (by decide), fa25 22 (by decide), fa19 22 (by decide), fa15 22 (by decide), kg1.fa 22 rfl, sMn, sMx, cCoin, cT]; rfl)) (cG_f (c := x1) (T := (cT 1 i a)) (u := 6) (oc107 w47) (oc114 w47))) | 7, _ => (Eq.trans (show a49 23 = (cRow 1 a 7).set x1.toNatClampNeg ((cRow 1 a 7).getD x1.toNatClampNeg 0 + cCoin (cT 1 i a)) from by rw [cRow_lt (p := 1) (a := a) (by decide : 7 < 8)]; first | rfl | (simp only [ea49, fa25 23 (by decide), qm11, kg1.fa 2 rfl, fa19 23 (by decide), fa15 23 (by decide), kg1.fa 23 rfl, sMn, sMx, cCoin, cT]; done) | (simp only [ea49, fa25 23 (by decide), qm11, kg1.fa 2 rfl, fa19 23 (by decide), fa15 23 (by decide), kg1.fa 23 rfl, sMn, sMx, cCoin, cT]; rfl)) (cG_t (c := x1) (T := (cT 1 i a)) (u := 7) (oc115 w47))) | _ + 8, h => absurd h (by omega)) (fun u hu => (cG_f (c := x1) (T := (cT 1 i a)) (oc107 w47) (kj_big hu (oc116 w47))).symm.trans (cRow_ge hu))).trans (show cGive x1 (cT 1 i a) = cPay (i 64) x1 (cT 1 i a) from (if_pos (oc106 c8 efig1_64 hp0.2 w47 z10.2)).symm))⟩)
        exact (oc117 fig1_64.2 w26 w29 w32 w35 w38 w41 w44 w47 z10.1 z10.2).elim
      ·
        subst eg9
        have efig1_64 : (ig1 64).toInt = (i 64).toInt := kg1.ti 64 rfl
        have z50 : ¬ (((0 : Int) ≤ ((a 8).getD (0 : Int32).toNatClampNeg 0).toInt) ∧ (((a 8).getD (0 : Int32).toNatClampNeg 0).toInt < (ig1 64).toInt)) := hg9
        first | refine fo_goS mi_k30 fz30_51_1_54 [] (by rfl) ?_ | refine ft_goS mi_k30 1 54 [] (by rfl) ?_ | refine ko_steps mi_in30 1 _ (54, [(3, .int ((a 9).getD (0 : Int32).toNatClampNeg 0)), (2, .int ((a 8).getD (0 : Int32).toNatClampNeg 0)), (0, .ref 1), (1, .int x1)], [], (0, 0), ks ig1 ag1 qg1 rg1) (by rfl) ?_
        exact ft_ret mi_k30 (by rfl) (hP  _ _ _ _ hGg1 ⟨(oc20 z2), ((cT_eq (p := 1) (i := ig1) (a := ag1) (T := cRest (cT 1 i a)) (show ig1 450 = (cRest (cT 1 i a)).1 from by first | rfl | (simp only [q3, sMn, sMx, cGive, cRest, cCoin, cT]; done) | (simp only [q3, sMn, sMx, cGive, cRest, cCoin, cT]; rfl)) (show ag1 8 = (cRest (cT 1 i a)).2.1 from by first | rfl | (simp only [q4, sMn, sMx, cGive, cRest, cCoin, cT]; done) | (simp only [q4, sMn, sMx, cGive, cRest, cCoin, cT]; rfl)) (show ag1 9 = (cRest (cT 1 i a)).2.2.1 from by first | rfl | (simp only [q5, sMn, sMx, cGive, cRest, cCoin, cT]; done) | (simp only [q5, sMn, sMx, cGive, cRest, cCoin, cT]; rfl)) (show ag1 2 = (cRest (cT 1 i a)).2.2.2.1 from by first | rfl | (simp only [kg1.fa 2 rfl, sMn, sMx, cGive, cRest, cCoin, cT]; done) | (simp only [kg1.fa 2 rfl, sMn, sMx, cGive, cRest, cCoin, cT]; rfl)) ((show ig1 78 = i 78 from (by first | rfl | (simp only [(kg1.fi 78 rfl : ig1 78 = i 78), sMn, sMx]; done) | (simp only [(kg1.fi 78 rfl : ig1 78 = i 78), sMn, sMx]; rfl))).trans (cY_neg (y := i 78) (d := (a 8).getD 0 0) (oc22 c6 efig1_78 koc8))) (show ig1 79 = (cRest (cT 1 i a)).2.2.2.2.2.1 from by first | rfl | (simp only [(kg1.fi 79 rfl : ig1 79 = i 79), sMn, sMx, cGive, cRest, cCoin, cT]; done) | (simp only [(kg1.fi 79 rfl : ig1 79 = i 79), sMn, sMx, cGive, cRest, cCoin, cT]; rfl)) (show ag1 14 = (cRest (cT 1 i a)).2.2.2.2.2.2.1 from by first | rfl | (simp only [kg1.fa 14 rfl, sMn, sMx, cGive, cRest, cCoin, cT]; done) | (simp only [kg1.fa 14 rfl, sMn, sMx, cGive, cRest, cCoin, cT]; rfl)) (fun u hu => match u, hu with | 0, _ => (show ag1 16 = cRow 1 a 0 from by rw [cRow_lt (p := 1) (a := a) (by decide : 0 < 8)]; first | rfl | (simp only [kg1.fa 16 rfl, sMn, sMx, cCoin, cT]; done) | (simp only [kg1.fa 16 rfl, sMn, sMx, cCoin, cT]; rfl)) | 1, _ => (show ag1 17 = cRow 1 a 1 from by rw [cRow_lt (p := 1) (a := a) (by decide : 1 < 8)]; first | rfl | (simp only [kg1.fa 17 rfl, sMn, sMx, cCoin, cT]; done) | (simp only [kg1.fa 17 rfl, sMn, sMx, cCoin, cT]; rfl)) | 2, _ => (show ag1 18 = cRow 1 a 2 from by rw [cRow_lt (p := 1) (a := a) (by decide : 2 < 8)]; first | rfl | (simp only [kg1.fa 18 rfl, sMn, sMx, cCoin, cT]; done) | (simp only [kg1.fa 18 rfl, sMn, sMx, cCoin, cT]; rfl)) | 3, _ => (show ag1 19 = cRow 1 a 3 from by rw [cRow_lt (p := 1) (a := a) (by decide : 3 < 8)]; first | rfl | (simp only [kg1.fa 19 rfl, sMn, sMx, cCoin, cT]; done) | (simp only [kg1.fa 19 rfl, sMn, sMx, cCoin, cT]; rfl)) | 4, _ => (show ag1 20 = cRow 1 a 4 from by rw [cRow_lt (p := 1) (a := a) (by decide : 4 < 8)]; first | rfl | (simp only [kg1.fa 20 rfl, sMn, sMx, cCoin, cT]; done) | (simp only [kg1.fa 20 rfl, sMn, sMx, cCoin, cT]; rfl)) | 5, _ => (show ag1 21 = cRow 1 a 5 from by rw [cRow_lt (p := 1) (a := a) (by decide : 5 < 8)]; first | rfl | (simp only [kg1.fa 21 rfl, sMn, sMx, cCoin, cT]; done) | (simp only [kg1.fa 21 rfl, sMn, sMx, cCoin, cT]; rfl)) | 6, _ => (show ag1 22 = cRow 1 a 6 from by rw [cRow_lt (p := 1) (a := a) (by decide : 6 < 8)]; first | rfl | (simp only [kg1.fa 22 rfl, sMn, sMx, cCoin, cT]; done) | (simp only [kg1.fa 22 rfl, sMn, sMx, cCoin, cT]; rfl)) | 7, _ => (show ag1 23 = cRow 1 a 7 from by rw [cRow_lt (p := 1) (a := a) (by decide : 7 < 8)]; first | rfl | (simp only [kg1.fa 23 rfl, sMn, sMx, cCoin, cT]; done) | (simp only [kg1.fa 23 rfl, sMn, sMx, cCoin, cT]; rfl)) | _ + 8, h => absurd h (by omega)) (fun u hu => cRow_ge hu)).trans (show cRest (cT 1 i a) = cPay (i 64) x1 (cT 1 i a) from (if_neg (oc118 efig1_64 z50)).symm))⟩)
  ·
    have c51 : (ig1 78).toInt = (8 : Int32).toInt := kd_neF c; clear c
    have hJ52 := kG_i hGg1 78 rfl (v := ((a 8).getD (0 : Int32).toNatClampNeg 0)) (kd_bd _)
    first | refine fo_goI mi_k30 fz30_36_5_43 [.int x1, .int ((a 8).getD (0 : Int32).toNatClampNeg 0)] (ku ig1 78 ((a 8).getD (0 : Int32).toNatClampNeg 0)) (by rfl) ?_ | refine ft_goS mi_k30 5 43 [.int x1, .int ((a 8).getD (0 : Int32).toNatClampNeg 0)] (by rfl) ?_ | refine ft_go mi_k30 5 43 [(3, .int ((a 9).getD (0 : Int32).toNatClampNeg 0)), (2, .int ((a 8).getD (0 : Int32).toNatClampNeg 0)), (0, .ref 1), (1, .int x1)] [.int x1, .int ((a 8).getD (0 : Int32).toNatClampNeg 0)] (ku ig1 78 ((a 8).getD (0 : Int32).toNatClampNeg 0)) ag1 qg1 rg1 (by rfl) ?_ | refine ko_steps mi_in30 5 _ (43, [(3, .int ((a 9).getD (0 : Int32).toNatClampNeg 0)), (2, .int ((a 8).getD (0 : Int32).toNatClampNeg 0)), (0, .ref 1), (1, .int x1)], [.int x1, .int ((a 8).getD (0 : Int32).toNatClampNeg 0)], (0, 0), ks (ku ig1 78 ((a 8).getD (0 : Int32).toNatClampNeg 0)) ag1 qg1 rg1) (by rfl) ?_
    refine ft_ifS mi_k30 (((a 8).getD (0 : Int32).toNatClampNeg 0) == x1) 54 46 [] (by rfl) (fun c => ?_) (fun c => ?_)
    ·
      have c53 : ((a 8).getD (0 : Int32).toNatClampNeg 0).toInt = x1.toInt := kd_eq c; clear c
      exact ft_ret mi_k30 (by rfl) (hP  _ _ _ _ hJ52 ⟨(oc20 z2), ((cT_eq (p := 1) (i := ku ig1 78 ((a 8).getD (0 : Int32).toNatClampNeg 0)) (a := ag1) (T := cRest (cT 1 i a)) (show ig1 450 = (cRest (cT 1 i a)).1 from by first | rfl | (simp only [q3, sMn, sMx, cGive, cRest, cCoin, cT]; done) | (simp only [q3, sMn, sMx, cGive, cRest, cCoin, cT]; rfl)) (show ag1 8 = (cRest (cT 1 i a)).2.1 from by first | rfl | (simp only [q4, sMn, sMx, cGive, cRest, cCoin, cT]; done) | (simp only [q4, sMn, sMx, cGive, cRest, cCoin, cT]; rfl)) (show ag1 9 = (cRest (cT 1 i a)).2.2.1 from by first | rfl | (simp only [q5, sMn, sMx, cGive, cRest, cCoin, cT]; done) | (simp only [q5, sMn, sMx, cGive, cRest, cCoin, cT]; rfl)) (show ag1 2 = (cRest (cT 1 i a)).2.2.2.1 from by first | rfl | (simp only [kg1.fa 2 rfl, sMn, sMx, cGive, cRest, cCoin, cT]; done) | (simp only [kg1.fa 2 rfl, sMn, sMx, cGive, cRest, cCoin, cT]; rfl)) (cY_pos (y := i 78) (d := (a 8).getD 0 0) (oc119 c51 efig1_78 koc8)) (show ig1 79 = (cRest (cT 1 i a)).2.2.2.2.2.1 from by first | rfl | (simp only [(kg1.fi 79 rfl : ig1 79 = i 79), sMn, sMx, cGive, cRest, cCoin, cT]; done) | (simp only [(kg1.fi 79 rfl : ig1 79 = i 79), sMn, sMx, cGive, cRest, cCoin, cT]; rfl)) (show ag1 14 = (cRest (cT 1 i a)).2.2.2.2.2.2.1 from by first | rfl | (simp only [kg1.fa 14 rfl, sMn, sMx, cGive, cRest, cCoin, cT]; done) | (simp only [kg1.fa 14 rfl, sMn, sMx, cGive, cRest, cCoin, cT]; rfl)) (fun u hu => match u, hu with | 0, _ => (show ag1 16 = cRow 1 a 0 from by rw [cRow_lt (p := 1) (a := a) (by decide : 0 < 8)]; first | rfl | (simp only [kg1.fa 16 rfl, sMn, sMx, cCoin, cT]; done) | (simp only [kg1.fa 16 rfl, sMn, sMx, cCoin, cT]; rfl)) | 1, _ => (show ag1 17 = cRow 1 a 1 from by rw [cRow_lt (p := 1) (a := a) (by decide : 1 < 8)]; first | rfl | (simp only [kg1.fa 17 rfl, sMn, sMx, cCoin, cT]; done) | (simp only [kg1.fa 17 rfl, sMn, sMx, cCoin, cT]; rfl)) | 2, _ => (show ag1 18 = cRow 1 a 2 from by rw [cRow_lt (p := 1) (a := a) (by decide : 2 < 8)]; first | rfl | (simp only [kg1.fa 18 rfl, sMn, sMx, cCoin, cT]; done) | (simp only [kg1.fa 18 rfl, sMn, sMx, cCoin, cT]; rfl)) | 3, _ => (show ag1 19 = cRow 1 a 3 from by rw [cRow_lt (p := 1) (a := a) (by decide : 3 < 8)]; first | rfl | (simp only [kg1.fa 19 rfl, sMn, sMx, cCoin, cT]; done) | (simp only [kg1.fa 19 rfl, sMn, sMx, cCoin, cT]; rfl)) | 4, _ => (show ag1 20 = cRow 1 a 4 from by rw [cRow_lt (p := 1) (a := a) (by decide : 4 < 8)]; first | rfl | (simp only [kg1.fa 20 rfl, sMn, sMx, cCoin, cT]; done) | (simp only [kg1.fa 20 rfl, sMn, sMx, cCoin, cT]; rfl)) | 5, _ => (show ag1 21 = cRow 1 a 5 from by rw [cRow_lt (p := 1) (a := a) (by decide : 5 < 8)]; first | rfl | (simp only [kg1.fa 21 rfl, sMn, sMx, cCoin, cT]; done) | (simp only [kg1.fa 21 rfl, sMn, sMx, cCoin, cT]; rfl)) | 6, _ => (show ag1 22 = cRow 1 a 6 from by rw [cRow_lt (p := 1) (a := a) (by decide : 6 < 8)]; first | rfl | (simp only [kg1.fa 22 rfl, sMn, sMx, cCoin, cT]; done) | (simp only [kg1.fa 22 rfl, sMn, sMx, cCoin, cT]; rfl)) | 7, _ => (show ag1 23 = cRow 1 a 7 from by rw [cRow_lt (p := 1) (a := a) (by decide : 7 < 8)]; first | rfl | (simp only [kg1.fa 23 rfl, sMn, sMx, cCoin, cT]; done) | (simp only [kg1.fa 23 rfl, sMn, sMx, cCoin, cT]; rfl)) | _ + 8, h => absurd h (by omega)) (fun u hu => cRow_ge hu)).trans (show cRest (cT 1 i a) = cPay (i 64) x1 (cT 1 i a) from (if_neg (oc21 c53)).symm))⟩)
    ·
      have c54 : ((a 8).getD (0 : Int32).toNatClampNeg 0).toInt ≠ x1.toInt := kd_eqF c; clear c
      refine fo_goS mi_k30 fz30_46_2_48 [.int ((a 8).getD (0 : Int32).toNatClampNeg 0), .ref 1] rfl ?_
      refine ko_callPI mi_k30.1 (pc := 48) (ls := [(3, .int ((a 9).getD (0 : Int32).toNatClampNeg 0)), (2, .int ((a 8).getD (0 : Int32).toNatClampNeg 0)), (0, .ref 1), (1, .int x1)]) (st := [.int ((a 8).getD (0 : Int32).toNatClampNeg 0), .ref 1]) (h := ks (ku ig1 78 ((a 8).getD (0 : Int32).toNatClampNeg 0)) ag1 qg1 rg1) (i := (.invokevirtual 85, 3, 24, 0, 9, 0, 165)) (mi_k30.2 _ _ (by rfl)) (ft_invS mi_pq24 (by rfl)) (cy := mi_c24) mi_pq24 rfl (kc24_1 hJ52.I hJ52.R ((a 8).getD (0 : Int32).toNatClampNeg 0)) (by decide) ?_
      intro vg55 hg55
      rcases hg55 with ⟨eg55, hg55⟩ | ⟨eg55, hg55⟩
      ·
        subst eg55
        have fig1_64 : ((0 : Int) ≤ (ig1 64).toInt) ∧ ((ig1 64).toInt ≤ 8) := hJ52.I.1 64
        have efig1_64 : (ig1 64).toInt = (i 64).toInt := kg1.ti 64 rfl
        have z56 : ((0 : Int) ≤ ((a 8).getD (0 : Int32).toNatClampNeg 0).toInt) ∧ (((a 8).getD (0 : Int32).toNatClampNeg 0).toInt < (ig1 64).toInt) := hg55
        first | refine fo_goS mi_k30 fz30_51_5_61 [.int ((a 8).getD (0 : Int32).toNatClampNeg 0), .ref 2, .int ((a 9).getD (0 : Int32).toNatClampNeg 0)] (by rfl) ?_ | refine ft_goS mi_k30 5 61 [.int ((a 8).getD (0 : Int32).toNatClampNeg 0), .ref 2, .int ((a 9).getD (0 : Int32).toNatClampNeg 0)] (by rfl) ?_ | refine ko_steps mi_in30 5 _ (61, [(3, .int ((a 9).getD (0 : Int32).toNatClampNeg 0)), (2, .int ((a 8).getD (0 : Int32).toNatClampNeg 0)), (0, .ref 1), (1, .int x1)], [.int ((a 8).getD (0 : Int32).toNatClampNeg 0), .ref 2, .int ((a 9).getD (0 : Int32).toNatClampNeg 0)], (0, 0), ks (ku ig1 78 ((a 8).getD (0 : Int32).toNatClampNeg 0)) ag1 qg1 rg1) (by rfl) ?_
        refine ko_iald3 mi_k30.1 (n := 8) (c := 8) (ax := (0, 0, 0, 0, 0)) (mi_k30.2 _ _ (by rfl)) (by rfl) (ksG2 _ _ _ _) (hJ52.I.2.1 2) rfl (oc1 z56.1) (oc27 fig1_64.2 z56.2) ?_
        have m58 : (((bif decide (((ag1 2).getD ((a 8).getD (0 : Int32).toNatClampNeg 0).toNatClampNeg 0) < ((a 9).getD (0 : Int32).toNatClampNeg 0)) then ((ag1 2).getD ((a 8).getD (0 : Int32).toNatClampNeg 0).toNatClampNeg 0) else ((a 9).getD (0 : Int32).toNatClampNeg 0)).toInt ≤ ((a 9).getD (0 : Int32).toNatClampNeg 0).toInt) ∧ ((bif decide (((ag1 2).getD ((a 8).getD (0 : Int32).toNatClampNeg 0).toNatClampNeg 0) < ((a 9).getD (0 : Int32).toNatClampNeg 0)) then ((ag1 2).getD ((a 8).getD (0 : Int32).toNatClampNeg 0).toNatClampNeg 0) else ((a 9).getD (0 : Int32).toNatClampNeg 0)).toInt ≤ ((ag1 2).getD ((a 8).getD (0 : Int32).toNatClampNeg 0).toNatClampNeg 0).toInt)) ∧ ((bif decide (((ag1 2).getD ((a 8).getD (0 : Int32).toNatClampNeg 0).toNatClampNeg 0) < ((a 9).getD (0 : Int32).toNatClampNeg 0)) then ((ag1 2).getD ((a 8).getD (0 : Int32).toNatClampNeg 0).toNatClampNeg 0) else ((a 9).getD (0 : Int32).toNatClampNeg 0)).toInt = ((a 9).getD (0 : Int32).toNatClampNeg 0).toInt ∨ (bif decide (((ag1 2).getD ((a 8).getD (0 : Int32).toNatClampNeg 0).toNatClampNeg 0) < ((a 9).getD (0 : Int32).toNatClampNeg 0)) then ((ag1 2).getD ((a 8).getD (0 : Int32).toNatClampNeg 0).toNatClampNeg 0) else ((a 9).getD (0 : Int32).toNatClampNeg 0)).toInt = ((ag1 2).getD ((a 8).getD (0 : Int32).toNatClampNeg 0).toNatClampNeg 0).toInt) := kd_min
        first | refine ft_goS mi_k30 1 65 [.int (bif decide (((ag1 2).getD ((a 8).getD (0 : Int32).toNatClampNeg 0).toNatClampNeg 0) < ((a 9).getD (0 : Int32).toNatClampNeg 0)) then ((ag1 2).getD ((a 8).getD (0 : Int32).toNatClampNeg 0).toNatClampNeg 0) else ((a 9).getD (0 : Int32).toNatClampNeg 0))] (by rfl) ?_ | refine ko_steps mi_in30 1 _ (65, [(3, .int ((a 9).getD (0 : Int32).toNatClampNeg 0)), (2, .int ((a 8).getD (0 : Int32).toNatClampNeg 0)), (0, .ref 1), (1, .int x1)], [.int (bif decide (((ag1 2).getD ((a 8).getD (0 : Int32).toNatClampNeg 0).toNatClampNeg 0) < ((a 9).getD (0 : Int32).toNatClampNeg 0)) then ((ag1 2).getD ((a 8).getD (0 : Int32).toNatClampNeg 0).toNatClampNeg 0) else ((a 9).getD (0 : Int32).toNatClampNeg 0))], (0, 0), ks (ku ig1 78 ((a 8).getD (0 : Int32).toNatClampNeg 0)) ag1 qg1 rg1) (by rfl) ?_
        generalize hm57 : (bif decide (((ag1 2).getD ((a 8).getD (0 : Int32).toNatClampNeg 0).toNatClampNeg 0) < ((a 9).getD (0 : Int32).toNatClampNeg 0)) then ((ag1 2).getD ((a 8).getD (0 : Int32).toNatClampNeg 0).toNatClampNeg 0) else ((a 9).getD (0 : Int32).toNatClampNeg 0)) = m57 at m58 ⊢
        have qm57 := hm57.symm
        refine fo_goL mi_k30 fz30_65_5_73 [(4, .int m57), (3, .int ((a 9).getD (0 : Int32).toNatClampNeg 0)), (2, .int ((a 8).getD (0 : Int32).toNatClampNeg 0)), (0, .ref 1), (1, .int x1)] [.int ((a 8).getD (0 : Int32).toNatClampNeg 0), .ref 2, .int ((a 8).getD (0 : Int32).toNatClampNeg 0), .ref 2] rfl ?_
        refine ko_iald3 mi_k30.1 (n := 8) (c := 8) (ax := (0, 0, 0, 0, 0)) (mi_k30.2 _ _ (by rfl)) (by rfl) (ksG2 _ _ _ _) (hJ52.I.2.1 2) rfl (oc1 z56.1) (oc27 fig1_64.2 z56.2) ?_
        have b59 : ((-2147483648 : Int) ≤ ((ag1 2).getD ((a 8).getD (0 : Int32).toNatClampNeg 0).toNatClampNeg 0).toInt) ∧ (((ag1 2).getD ((a 8).getD (0 : Int32).toNatClampNeg 0).toNatClampNeg 0).toInt ≤ 2147483647) := kd_bd ((ag1 2).getD ((a 8).getD (0 : Int32).toNatClampNeg 0).toNatClampNeg 0)
        have b60 : ((-2147483648 : Int) ≤ m57.toInt) ∧ (m57.toInt ≤ 2147483647) := kd_bd m57
        refine fo_goS mi_k30 fz30_74_2_77 [.int (((ag1 2).getD ((a 8).getD (0 : Int32).toNatClampNeg 0).toNatClampNeg 0) - m57), .int ((a 8).getD (0 : Int32).toNatClampNeg 0), .ref 2] rfl ?_
        refine ko_iast3 mi_k30.1 (n := 8) (c := 8) (ax := (0, 0, 0, 0, 0)) (mi_k30.2 _ _ (by rfl)) (by rfl) (ksG2 _ _ _ _) (ksA2 _ _ _ _) (hJ52.I.2.1 2) rfl (oc1 z56.1) (oc27 fig1_64.2 z56.2) ?_
        intro a61 ea61 fa61
        have hJ61 := kG_a3 hJ52 2 rfl ea61 fa61 (kd_bd _)
        refine fo_goS mi_k30 fz30_78_7_91 [.int x1, .ref 2, .int 999, .int x1, .ref 2] rfl ?_
        refine ko_iald3 mi_k30.1 (n := 8) (c := 8) (ax := (0, 0, 0, 0, 0)) (mi_k30.2 _ _ (by rfl)) (by rfl) (ksG2 _ _ _ _) (hJ61.I.2.1 2) rfl (oc1 hp0.1) (oc28 hp0.2) ?_
        have b62 : ((-2147483648 : Int) ≤ ((a61 2).getD x1.toNatClampNeg 0).toInt) ∧ (((a61 2).getD x1.toNatClampNeg 0).toInt ≤ 2147483647) := kd_bd ((a61 2).getD x1.toNatClampNeg 0)
        refine fo_goS mi_k30 fz30_92_2_95 [.int (((a61 2).getD x1.toNatClampNeg 0) + m57), .int 999, .int x1, .ref 2] rfl ?_
        have m64 : (((bif decide ((((a61 2).getD x1.toNatClampNeg 0) + m57) < 999) then (((a61 2).getD x1.toNatClampNeg 0) + m57) else 999).toInt ≤ (999 : Int32).toInt) ∧ ((bif decide ((((a61 2).getD x1.toNatClampNeg 0) + m57) < 999) then (((a61 2).getD x1.toNatClampNeg 0) + m57) else 999).toInt ≤ (((a61 2).getD x1.toNatClampNeg 0) + m57).toInt)) ∧ ((bif decide ((((a61 2).getD x1.toNatClampNeg 0) + m57) < 999) then (((a61 2).getD x1.toNatClampNeg 0) + m57) else 999).toInt = (999 : Int32).toInt ∨ (bif decide ((((a61 2).getD x1.toNatClampNeg 0) + m57) < 999) then (((a61 2).getD x1.toNatClampNeg 0) + m57) else 999).toInt = (((a61 2).getD x1.toNatClampNeg 0) + m57).toInt) := kd_min
        first | refine ft_goS mi_k30 1 98 [.int (bif decide ((((a61 2).getD x1.toNatClampNeg 0) + m57) < 999) then (((a61 2).getD x1.toNatClampNeg 0) + m57) else 999), .int x1, .ref 2] (by rfl) ?_ | refine ko_steps mi_in30 1 _ (98, [(4, .int m57), (3, .int ((a 9).getD (0 : Int32).toNatClampNeg 0)), (2, .int ((a 8).getD (0 : Int32).toNatClampNeg 0)), (0, .ref 1), (1, .int x1)], [.int (bif decide ((((a61 2).getD x1.toNatClampNeg 0) + m57) < 999) then (((a61 2).getD x1.toNatClampNeg 0) + m57) else 999), .int x1, .ref 2], (0, 0), ks (ku ig1 78 ((a 8).getD (0 : Int32).toNatClampNeg 0)) a61 qg1 rg1) (by rfl) ?_
        generalize hm63 : (bif decide ((((a61 2).getD x1.toNatClampNeg 0) + m57) < 999) then (((a61 2).getD x1.toNatClampNeg 0) + m57) else 999) = m63 at m64 ⊢
        have qm63 := hm63.symm
        refine ko_iast3 mi_k30.1 (n := 8) (c := 8) (ax := (0, 0, 0, 0, 0)) (mi_k30.2 _ _ (by rfl)) (by rfl) (ksG2 _ _ _ _) (ksA2 _ _ _ _) (hJ61.I.2.1 2) rfl (oc1 hp0.1) (oc28 hp0.2) ?_
        intro a65 ea65 fa65
        have hJ65 := kG_a3 hJ61 2 rfl ea65 fa65 (kd_bd _)
        have b66 : ((-2147483648 : Int) ≤ (ig1 79).toInt) ∧ ((ig1 79).toInt ≤ 2147483647) := kd_bd (ig1 79)
        have hJ67 := kG_i hJ65 79 rfl (v := ((ig1 79) + m57)) (kd_bd _)
        first | refine fo_goI mi_k30 fz30_99_10_116 [.int 2, .ref 14, .int 2, .ref 14] (ku (ku ig1 78 ((a 8).getD (0 : Int32).toNatClampNeg 0)) 79 ((ig1 79) + m57)) (by rfl) ?_ | refine ft_go mi_k30 10 116 [(4, .int m57), (3, .int ((a 9).getD (0 : Int32).toNatClampNeg 0)), (2, .int ((a 8).getD (0 : Int32).toNatClampNeg 0)), (0, .ref 1), (1, .int x1)] [.int 2, .ref 14, .int 2, .ref 14] (ku (ku ig1 78 ((a 8).getD (0 : Int32).toNatClampNeg 0)) 79 ((ig1 79) + m57)) a65 qg1 rg1 (by rfl) ?_ | refine ko_steps mi_in30 10 _ (116, [(4, .int m57), (3, .int ((a 9).getD (0 : Int32).toNatClampNeg 0)), (2, .int ((a 8).getD (0 : Int32).toNatClampNeg 0)), (0, .ref 1), (1, .int x1)], [.int 2, .ref 14, .int 2, .ref 14], (0, 0), ks (ku (ku ig1 78 ((a 8).getD (0 : Int32).toNatClampNeg 0)) 79 ((ig1 79) + m57)) a65 qg1 rg1) (by rfl) ?_
        refine ko_iald3 mi_k30.1 (n := 5) (c := 5) (ax := (0, 0, 0, 0, 0)) (mi_k30.2 _ _ (by rfl)) (by rfl) (ksG14 _ _ _ _) (hJ67.I.2.1 14) rfl (oc29 koc2) (oc30 koc2) ?_
        have b68 : ((-2147483648 : Int) ≤ ((a 9).getD (0 : Int32).toNatClampNeg 0).toInt) ∧ (((a 9).getD (0 : Int32).toNatClampNeg 0).toInt ≤ 2147483647) := kd_bd ((a 9).getD (0 : Int32).toNatClampNeg 0)
        have b69 : ((-2147483648 : Int) ≤ ((a65 14).getD (2 : Int32).toNatClampNeg 0).toInt) ∧ (((a65 14).getD (2 : Int32).toNatClampNeg 0).toInt ≤ 2147483647) := kd_bd ((a65 14).getD (2 : Int32).toNatClampNeg 0)
        have b70 : ((-2147483648 : Int) ≤ (((a 9).getD (0 : Int32).toNatClampNeg 0) - m57).toInt) ∧ ((((a 9).getD (0 : Int32).toNatClampNeg 0) - m57).toInt ≤ 2147483647) := kd_bd (((a 9).getD (0 : Int32).toNatClampNeg 0) - m57)
        refine fo_goS mi_k30 fz30_117_4_122 [.int (((a65 14).getD (2 : Int32).toNatClampNeg 0) + (((a 9).getD (0 : Int32).toNatClampNeg 0) - m57)), .int 2, .ref 14] rfl ?_
        refine ko_iast3 mi_k30.1 (n := 5) (c := 5) (ax := (0, 0, 0, 0, 0)) (mi_k30.2 _ _ (by rfl)) (by rfl) (ksG14 _ _ _ _) (ksA14 _ _ _ _) (hJ67.I.2.1 14) rfl (oc29 koc2) (oc30 koc2) ?_
        intro a71 ea71 fa71
        have hJ71 := kG_a3 hJ67 14 rfl ea71 fa71 (kd_bd _)
        refine fo_goS mi_k30 fz30_123_3_128 [.int ((a 8).getD (0 : Int32).toNatClampNeg 0), .ref 15] rfl ?_
        by_cases w72 : ((a 8).getD (0 : Int32).toNatClampNeg 0).toInt = 0
        ·
          refine ft_alx mi_k30 (pc := 128) (v := 0) (p := 15) (z := 16) (kj_eq w72 (by decide) : ((a 8).getD (0 : Int32).toNatClampNeg 0) = 0) (by decide +kernel) (by decide +kernel) ?_
          refine fo_goS mi_k30 fz30_129_2_131 [.int x1, .ref 16, .int x1, .ref 16] rfl ?_
          refine ko_iald3 mi_k30.1 (n := 8) (c := 8) (ax := (0, 0, 0, 0, 0)) (mi_k30.2 _ _ (by rfl)) (by rfl) (ksG16 _ _ _ _) (hJ71.I.2.1 16) rfl (oc1 hp0.1) (oc28 hp0.2) ?_
          have b73 : ((-2147483648 : Int) ≤ ((a71 16).getD x1.toNatClampNeg 0).toInt) ∧ (((a71 16).getD x1.toNatClampNeg 0).toInt ≤ 2147483647) := kd_bd ((a71 16).getD x1.toNatClampNeg 0)
          refine fo_goS mi_k30 fz30_132_2_135 [.int (((a71 16).getD x1.toNatClampNeg 0) + m57), .int x1, .ref 16] rfl ?_
          refine ko_iast3 mi_k30.1 (n := 8) (c := 8) (ax := (0, 0, 0, 0, 0)) (mi_k30.2 _ _ (by rfl)) (by rfl) (ksG16 _ _ _ _) (ksA16 _ _ _ _) (hJ71.I.2.1 16) rfl (oc1 hp0.1) (oc28 hp0.2) ?_
          intro a74 ea74 fa74
          have hJ74 := kG_a3 hJ71 16 rfl ea74 fa74 (kd_bd _)
          exact ft_ret mi_k30 (by rfl) (hP  _ _ _ _ hJ74 ⟨(oc20 z2), ((cT_eq (p := 1) (i := ku (ku ig1 78 ((a 8).getD (0 : Int32).toNatClampNeg 0)) 79 ((ig1 79) + m57)) (a := a74) (T := cGive x1 (cT 1 i a)) (show ig1 450 = (cGive x1 (cT 1 i a)).1 from by first | rfl | (simp only [q3, sMn, sMx, cGive, cRest, cCoin, cT]; done) | (simp only [q3, sMn, sMx, cGive, cRest, cCoin, cT]; rfl)) (show a74 8 = (cGive x1 (cT 1 i a)).2.1 from by first | rfl | (simp only [fa74 8 (by decide), fa71 8 (by decide), fa65 8 (by decide), fa61 8 (by decide), q4, sMn, sMx, cGive, cRest, cCoin, cT]; done) | (simp only [fa74 8 (by decide), fa71 8 (by decide), fa65 8 (by decide), fa61 8 (by decide), q4, sMn, sMx, cGive, cRest, cCoin, cT]; rfl)) (show a74 9 = (cGive x1 (cT 1 i a)).2.2.1 from by first | rfl | (simp only [fa74 9 (by decide), fa71 9 (by decide), fa65 9 (by decide), fa61 9 (by decide), q5, sMn, sMx, cGive, cRest, cCoin, cT]; done) | (simp only [fa74 9 (by decide), fa71 9 (by decide), fa65 9 (by decide), fa61 9 (by decide), q5, sMn, sMx, cGive, cRest, cCoin, cT]; rfl)) (show a74 2 = (cGive x1 (cT 1 i a)).2.2.2.1 from by first | rfl | (simp only [fa74 2 (by decide), fa71 2 (by decide), ea65, ea61, qm63, qm57, kg1.fa 2 rfl, sMn, sMx, cGive, cRest, cCoin, cT]; done) | (simp only [fa74 2 (by decide), fa71 2 (by decide), ea65, ea61, qm63, qm57, kg1.fa 2 rfl, sMn, sMx, cGive, cRest, cCoin, cT]; rfl)) (cY_pos (y := i 78) (d := (a 8).getD 0 0) (oc119 c51 efig1_78 koc8)) (show ((ig1 79) + m57) = (cGive x1 (cT 1 i a)).2.2.2.2.2.1 from by first | rfl | (simp only [(kg1.fi 79 rfl : ig1 79 = i 79), qm57, kg1.fa 2 rfl, sMn, sMx, cGive, cRest, cCoin, cT]; done) | (simp only [(kg1.fi 79 rfl : ig1 79 = i 79), qm57, kg1.fa 2 rfl, sMn, sMx, cGive, cRest, cCoin, cT]; rfl)) (show a74 14 = (cGive x1 (cT 1 i a)).2.2.2.2.2.2.1 from by first | rfl | (simp only [fa74 14 (by decide), ea71, fa65 14 (by decide), qm57, kg1.fa 2 rfl, fa61 14 (by decide), kg1.fa 14 rfl, sMn, sMx, cGive, cRest, cCoin, cT]; done) | (simp only [fa74 14 (by decide), ea71, fa65 14 (by decide), qm57, kg1.fa 2 rfl, fa61 14 (by decide), kg1.fa 14 rfl, sMn, sMx, cGive, cRest, cCoin, cT]; rfl)) (fun u hu => match u, hu with | 0, _ => (Eq.trans (show a74 16 = (cRow 1 a 0).set x1.toNatClampNeg ((cRow 1 a 0).getD x1.toNatClampNeg 0 + cCoin (cT 1 i a)) from by rw [cRow_lt (p := 1) (a := a) (by decide : 0 < 8)]; first | rfl | (simp only [ea74, fa71 16 (by decide), qm57, kg1.fa 2 rfl, fa65 16 (by decide), fa61 16 (by decide), kg1.fa 16 rfl, sMn, sMx, cCoin, cT]; done) | (simp only [ea74, fa71 16 (by decide), qm57, kg1.fa 2 rfl, fa65 16 (by decide), fa61 16 (by decide), kg1.fa 16 rfl, sMn, sMx, cCoin, cT]; rfl)) (cG_t (c := x1) (T := (cT 1 i a)) (u := 0) (oc33 w72 z56.1))) | 1, _ => (Eq.trans (show a74 17 = cRow 1 a 1 from by rw [cRow_lt (p := 1) (a := a) (by decide : 1 < 8)]; first | rfl | (simp only [fa74 17 (by decide), fa71 17 (by decide), fa65 17 (by decide), fa61 17 (by decide), kg1.fa 17 rfl, sMn, sMx, cCoin, cT]; done) | (simp only [fa74 17 (by decide), fa71 17 (by decide), fa65 17 (by decide), fa61 17 (by decide), kg1.fa 17 rfl, sMn, sMx, cCoin, cT]; rfl)) (cG_f (c := x1) (T := (cT 1 i a)) (u := 1) (oc1 z56.1) (oc34 w72))) | 2, _ => (Eq.trans (show a74 18 = cRow 1 a 2 from by rw [cRow_lt (p := 1) (a := a) (by decide : 2 < 8)]; first | rfl | (simp only [fa74 18 (by decide), fa71 18 (by decide), fa65 18 (by decide), fa61 18 (by decide), kg1.fa 18 rfl, sMn, sMx, cCoin, cT]; done) | (simp only [fa74 18 (by decide), fa71 18 (by decide), fa65 18 (by decide), fa61 18 (by decide), kg1.fa 18 rfl, sMn, sMx, cCoin, cT]; rfl)) (cG_f (c := x1) (T := (cT 1 i a)) (u := 2) (oc1 z56.1) (oc35 w72))) | 3, _ => (Eq.trans (show a74 19 = cRow 1 a 3 from by rw [cRow_lt (p := 1) (a := a) (by decide : 3 < 8)]; first | rfl | (simp only [fa74 19 (by decide), fa71 19 (by decide), fa65 19 (by decide), fa61 19 (by decide), kg1.fa 19 rfl, sMn, sMx, cCoin, cT]; done) | (simp only [fa74 19 (by decide), fa71 19 (by decide), fa65 19 (by decide), fa61 19 (by decide), kg1.fa 19 rfl, sMn, sMx, cCoin, cT]; rfl)) (cG_f (c := x1) (T := (cT 1 i a)) (u := 3) (oc1 z56.1) (oc36 w72))) | 4, _ => (Eq.trans (show a74 20 = cRow 1 a 4 from by rw [cRow_lt (p := 1) (a := a) (by decide : 4 < 8)]; first | rfl | (simp only [fa74 20 (by decide), fa71 20 (by decide), fa65 20 (by decide), fa61 20 (by decide), kg1.fa 20 rfl, sMn, sMx, cCoin, cT]; done) | (simp only [fa74 20 (by decide), fa71 20 (by decide), fa65 20 (by decide), fa61 20 (by decide), kg1.fa 20 rfl, sMn, sMx, cCoin, cT]; rfl)) (cG_f (c := x1) (T := (cT 1 i a)) (u := 4) (oc1 z56.1) (oc37 w72))) | 5, _ => (Eq.trans (show a74 21 = cRow 1 a 5 from by rw [cRow_lt (p := 1) (a := a) (by decide : 5 < 8)]; first | rfl | (simp only [fa74 21 (by decide), fa71 21 (by decide), fa65 21 (by decide), fa61 21 (by decide), kg1.fa 21 rfl, sMn, sMx, cCoin, cT]; done) | (simp only [fa74 21 (by decide), fa71 21 (by decide), fa65 21 (by decide), fa61 21 (by decide), kg1.fa 21 rfl, sMn, sMx, cCoin, cT]; rfl)) (cG_f (c := x1) (T := (cT 1 i a)) (u := 5) (oc1 z56.1) (oc38 w72))) | 6, _ => (Eq.trans (show a74 22 = cRow 1 a 6 from by rw [cRow_lt (p := 1) (a := a) (by decide : 6 < 8)]; first | rfl | (simp only [fa74 22 (by decide), fa71 22 (by decide), fa65 22 (by decide), fa61 22 (by decide), kg1.fa 22 rfl, sMn, sMx, cCoin, cT]; done) | (simp only [fa74 22 (by decide), fa71 22 (by decide), fa65 22 (by decide), fa61 22 (by decide), kg1.fa 22 rfl, sMn, sMx, cCoin, cT]; rfl)) (cG_f (c := x1) (T := (cT 1 i a)) (u := 6) (oc1 z56.1) (oc39 w72))) | 7, _ => (Eq.trans (show a74 23 = cRow 1 a 7 from by rw [cRow_lt (p := 1) (a := a) (by decide : 7 < 8)]; first | rfl | (simp only [fa74 23 (by decide), fa71 23 (by decide), fa65 23 (by decide), fa61 23 (by decide), kg1.fa 23 rfl, sMn, sMx, cCoin, cT]; done) | (simp only [fa74 23 (by decide), fa71 23 (by decide), fa65 23 (by decide), fa61 23 (by decide), kg1.fa 23 rfl, sMn, sMx, cCoin, cT]; rfl)) (cG_f (c := x1) (T := (cT 1 i a)) (u := 7) (oc1 z56.1) (oc40 w72))) | _ + 8, h => absurd h (by omega)) (fun u hu => (cG_f (c := x1) (T := (cT 1 i a)) (oc1 z56.1) (kj_big hu (oc41 w72))).symm.trans (cRow_ge hu))).trans (show cGive x1 (cT 1 i a) = cPay (i 64) x1 (cT 1 i a) from (if_pos (oc32 c54 efig1_64 hp0.1 w72 z56.1 z56.2)).symm))⟩)
        by_cases w75 : ((a 8).getD (0 : Int32).toNatClampNeg 0).toInt = 1
        ·
          refine ft_alx mi_k30 (pc := 128) (v := 1) (p := 15) (z := 17) (kj_eq w75 (by decide) : ((a 8).getD (0 : Int32).toNatClampNeg 0) = 1) (by decide +kernel) (by decide +kernel) ?_
          refine fo_goS mi_k30 fz30_129_2_131 [.int x1, .ref 17, .int x1, .ref 17] rfl ?_
          refine ko_iald3 mi_k30.1 (n := 8) (c := 8) (ax := (0, 0, 0, 0, 0)) (mi_k30.2 _ _ (by rfl)) (by rfl) (ksG17 _ _ _ _) (hJ71.I.2.1 17) rfl (oc1 hp0.1) (oc28 hp0.2) ?_
          have b76 : ((-2147483648 : Int) ≤ ((a71 17).getD x1.toNatClampNeg 0).toInt) ∧ (((a71 17).getD x1.toNatClampNeg 0).toInt ≤ 2147483647) := kd_bd ((a71 17).getD x1.toNatClampNeg 0)
          refine fo_goS mi_k30 fz30_132_2_135 [.int (((a71 17).getD x1.toNatClampNeg 0) + m57), .int x1, .ref 17] rfl ?_
          refine ko_iast3 mi_k30.1 (n := 8) (c := 8) (ax := (0, 0, 0, 0, 0)) (mi_k30.2 _ _ (by rfl)) (by rfl) (ksG17 _ _ _ _) (ksA17 _ _ _ _) (hJ71.I.2.1 17) rfl (oc1 hp0.1) (oc28 hp0.2) ?_
          intro a77 ea77 fa77
          have hJ77 := kG_a3 hJ71 17 rfl ea77 fa77 (kd_bd _)
          exact ft_ret mi_k30 (by rfl) (hP  _ _ _ _ hJ77 ⟨(oc20 z2), ((cT_eq (p := 1) (i := ku (ku ig1 78 ((a 8).getD (0 : Int32).toNatClampNeg 0)) 79 ((ig1 79) + m57)) (a := a77) (T := cGive x1 (cT 1 i a)) (show ig1 450 = (cGive x1 (cT 1 i a)).1 from by first | rfl | (simp only [q3, sMn, sMx, cGive, cRest, cCoin, cT]; done) | (simp only [q3, sMn, sMx, cGive, cRest, cCoin, cT]; rfl)) (show a77 8 = (cGive x1 (cT 1 i a)).2.1 from by first | rfl | (simp only [fa77 8 (by decide), fa71 8 (by decide), fa65 8 (by decide), fa61 8 (by decide), q4, sMn, sMx, cGive, cRest, cCoin, cT]; done) | (simp only [fa77 8 (by decide), fa71 8 (by decide), fa65 8 (by decide), fa61 8 (by decide), q4, sMn, sMx, cGive, cRest, cCoin, cT]; rfl)) (show a77 9 = (cGive x1 (cT 1 i a)).2.2.1 from by first | rfl | (simp only [fa77 9 (by decide), fa71 9 (by decide), fa65 9 (by decide), fa61 9 (by decide), q5, sMn, sMx, cGive, cRest, cCoin, cT]; done) | (simp only [fa77 9 (by decide), fa71 9 (by decide), fa65 9 (by decide), fa61 9 (by decide), q5, sMn, sMx, cGive, cRest, cCoin, cT]; rfl)) (show a77 2 = (cGive x1 (cT 1 i a)).2.2.2.1 from by first | rfl | (simp only [fa77 2 (by decide), fa71 2 (by decide), ea65, ea61, qm63, qm57, kg1.fa 2 rfl, sMn, sMx, cGive, cRest, cCoin, cT]; done) | (simp only [fa77 2 (by decide), fa71 2 (by decide), ea65, ea61, qm63, qm57, kg1.fa 2 rfl, sMn, sMx, cGive, cRest, cCoin, cT]; rfl)) (cY_pos (y := i 78) (d := (a 8).getD 0 0) (oc119 c51 efig1_78 koc8)) (show ((ig1 79) + m57) = (cGive x1 (cT 1 i a)).2.2.2.2.2.1 from by first | rfl | (simp only [(kg1.fi 79 rfl : ig1 79 = i 79), qm57, kg1.fa 2 rfl, sMn, sMx, cGive, cRest, cCoin, cT]; done) | (simp only [(kg1.fi 79 rfl : ig1 79 = i 79), qm57, kg1.fa 2 rfl, sMn, sMx, cGive, cRest, cCoin, cT]; rfl)) (show a77 14 = (cGive x1 (cT 1 i a)).2.2.2.2.2.2.1 from by first | rfl | (simp only [fa77 14 (by decide), ea71, fa65 14 (by decide), qm57, kg1.fa 2 rfl, fa61 14 (by decide), kg1.fa 14 rfl, sMn, sMx, cGive, cRest, cCoin, cT]; done) | (simp only [fa77 14 (by decide), ea71, fa65 14 (by decide), qm57, kg1.fa 2 rfl, fa61 14 (by decide), kg1.fa 14 rfl, sMn, sMx, cGive, cRest, cCoin, cT]; rfl)) (fun u hu => match u, hu with | 0, _ => (Eq.trans (show a77 16 = cRow 1 a 0 from by rw [cRow_lt (p := 1) (a := a) (by decide : 0 < 8)]; first | rfl | (simp only [fa77 16 (by decide), fa71 16 (by decide), fa65 16 (by decide), fa61 16 (by decide), kg1.fa 16 rfl, sMn, sMx, cCoin, cT]; done) | (simp only [fa77 16 (by decide), fa71 16 (by decide), fa65 16 (by decide), fa61 16 (by decide), kg1.fa 16 rfl, sMn, sMx, cCoin, cT]; rfl)) (cG_f (c := x1) (T := (cT 1 i a)) (u := 0) (oc15 w75) (oc43 w75))) | 1, _ => (Eq.trans (show a77 17 = (cRow 1 a 1).set x1.toNatClampNeg ((cRow 1 a 1).getD x1.toNatClampNeg 0 + cCoin (cT 1 i a)) from by rw [cRow_lt (p := 1) (a := a) (by decide : 1 < 8)]; first | rfl | (simp only [ea77, fa71 17 (by decide), qm57, kg1.fa 2 rfl, fa65 17 (by decide), fa61 17 (by decide), kg1.fa 17 rfl, sMn, sMx, cCoin, cT]; done) | (simp only [ea77, fa71 17 (by decide), qm57, kg1.fa 2 rfl, fa65 17 (by decide), fa61 17 (by decide), kg1.fa 17 rfl, sMn, sMx, cCoin, cT]; rfl)) (cG_t (c := x1) (T := (cT 1 i a)) (u := 1) (oc44 w75))) | 2, _ => (Eq.trans (show a77 18 = cRow 1 a 2 from by rw [cRow_lt (p := 1) (a := a) (by decide : 2 < 8)]; first | rfl | (simp only [fa77 18 (by decide), fa71 18 (by decide), fa65 18 (by decide), fa61 18 (by decide), kg1.fa 18 rfl, sMn, sMx, cCoin, cT]; done) | (simp only [fa77 18 (by decide), fa71 18 (by decide), fa65 18 (by decide), fa61 18 (by decide), kg1.fa 18 rfl, sMn, sMx, cCoin, cT]; rfl)) (cG_f (c := x1) (T := (cT 1 i a)) (u := 2) (oc15 w75) (oc45 w75))) | 3, _ => (Eq.trans (show a77 19 = cRow 1 a 3 from by rw [cRow_lt (p := 1) (a := a) (by decide : 3 < 8)]; first | rfl | (simp only [fa77 19 (by decide), fa71 19 (by decide), fa65 19 (by decide), fa61 19 (by decide), kg1.fa 19 rfl, sMn, sMx, cCoin, cT]; done) | (simp only [fa77 19 (by decide), fa71 19 (by decide), fa65 19 (by decide), fa61 19 (by decide), kg1.fa 19 rfl, sMn, sMx, cCoin, cT]; rfl)) (cG_f (c := x1) (T := (cT 1 i a)) (u := 3) (oc15 w75) (oc46 w75))) | 4, _ => (Eq.trans (show a77 20 = cRow 1 a 4 from by rw [cRow_lt (p := 1) (a := a) (by decide : 4 < 8)]; first | rfl | (simp only [fa77 20 (by decide), fa71 20 (by decide), fa65 20 (by decide), fa61 20 (by decide), kg1.fa 20 rfl, sMn, sMx, cCoin, cT]; done) | (simp only [fa77 20 (by decide), fa71 20 (by decide), fa65 20 (by decide), fa61 20 (by decide), kg1.fa 20 rfl, sMn, sMx, cCoin, cT]; rfl)) (cG_f (c := x1) (T := (cT 1 i a)) (u := 4) (oc15 w75) (oc47 w75))) | 5, _ => (Eq.trans (show a77 21 = cRow 1 a 5 from by rw [cRow_lt (p := 1) (a := a) (by decide : 5 < 8)]; first | rfl | (simp only [fa77 21 (by decide), fa71 21 (by decide), fa65 21 (by decide), fa61 21 (by decide), kg1.fa 21 rfl, sMn, sMx, cCoin, cT]; done) | (simp only [fa77 21 (by decide), fa71 21 (by decide), fa65 21 (by decide), fa61 21 (by decide), kg1.fa 21 rfl, sMn, sMx, cCoin, cT]; rfl)) (cG_f (c := x1) (T := (cT 1 i a)) (u := 5) (oc15 w75) (oc48 w75))) | 6, _ => (Eq.trans (show a77 22 = cRow 1 a 6 from by rw [cRow_lt (p := 1) (a := a) (by decide : 6 < 8)]; first | rfl | (simp only [fa77 22 (by decide), fa71 22 (by decide), fa65 22 (by decide), fa61 22 (by decide), kg1.fa 22 rfl, sMn, sMx, cCoin, cT]; done) | (simp only [fa77 22 (by decide), fa71 22 (by decide), fa65 22 (by decide), fa61 22 (by decide), kg1.fa 22 rfl, sMn, sMx, cCoin, cT]; rfl)) (cG_f (c := x1) (T := (cT 1 i a)) (u := 6) (oc15 w75) (oc49 w75))) | 7, _ => (Eq.trans (show a77 23 = cRow 1 a 7 from by rw [cRow_lt (p := 1) (a := a) (by decide : 7 < 8)]; first | rfl | (simp only [fa77 23 (by decide), fa71 23 (by decide), fa65 23 (by decide), fa61 23 (by decide), kg1.fa 23 rfl, sMn, sMx, cCoin, cT]; done) | (simp only [fa77 23 (by decide), fa71 23 (by decide), fa65 23 (by decide), fa61 23 (by decide), kg1.fa 23 rfl, sMn, sMx, cCoin, cT]; rfl)) (cG_f (c := x1) (T := (cT 1 i a)) (u := 7) (oc15 w75) (oc50 w75))) | _ + 8, h => absurd h (by omega)) (fun u hu => (cG_f (c := x1) (T := (cT 1 i a)) (oc15 w75) (kj_big hu (oc51 w75))).symm.trans (cRow_ge hu))).trans (show cGive x1 (cT 1 i a) = cPay (i 64) x1 (cT 1 i a) from (if_pos (oc42 c54 efig1_64 w75 z56.2)).symm))⟩)
        by_cases w78 : ((a 8).getD (0 : Int32).toNatClampNeg 0).toInt = 2
        ·
          refine ft_alx mi_k30 (pc := 128) (v := 2) (p := 15) (z := 18) (kj_eq w78 (by decide) : ((a 8).getD (0 : Int32).toNatClampNeg 0) = 2) (by decide +kernel) (by decide +kernel) ?_
          refine fo_goS mi_k30 fz30_129_2_131 [.int x1, .ref 18, .int x1, .ref 18] rfl ?_
          refine ko_iald3 mi_k30.1 (n := 8) (c := 8) (ax := (0, 0, 0, 0, 0)) (mi_k30.2 _ _ (by rfl)) (by rfl) (ksG18 _ _ _ _) (hJ71.I.2.1 18) rfl (oc1 hp0.1) (oc28 hp0.2) ?_
          have b79 : ((-2147483648 : Int) ≤ ((a71 18).getD x1.toNatClampNeg 0).toInt) ∧ (((a71 18).getD x1.toNatClampNeg 0).toInt ≤ 2147483647) := kd_bd ((a71 18).getD x1.toNatClampNeg 0)
          refine fo_goS mi_k30 fz30_132_2_135 [.int (((a71 18).getD x1.toNatClampNeg 0) + m57), .int x1, .ref 18] rfl ?_
          refine ko_iast3 mi_k30.1 (n := 8) (c := 8) (ax := (0, 0, 0, 0, 0)) (mi_k30.2 _ _ (by rfl)) (by rfl) (ksG18 _ _ _ _) (ksA18 _ _ _ _) (hJ71.I.2.1 18) rfl (oc1 hp0.1) (oc28 hp0.2) ?_
          intro a80 ea80 fa80
          have hJ80 := kG_a3 hJ71 18 rfl ea80 fa80 (kd_bd _)
          exact ft_ret mi_k30 (by rfl) (hP  _ _ _ _ hJ80 ⟨(oc20 z2), ((cT_eq (p := 1) (i := ku (ku ig1 78 ((a 8).getD (0 : Int32).toNatClampNeg 0)) 79 ((ig1 79) + m57)) (a := a80) (T := cGive x1 (cT 1 i a)) (show ig1 450 = (cGive x1 (cT 1 i a)).1 from by first | rfl | (simp only [q3, sMn, sMx, cGive, cRest, cCoin, cT]; done) | (simp only [q3, sMn, sMx, cGive, cRest, cCoin, cT]; rfl)) (show a80 8 = (cGive x1 (cT 1 i a)).2.1 from by first | rfl | (simp only [fa80 8 (by decide), fa71 8 (by decide), fa65 8 (by decide), fa61 8 (by decide), q4, sMn, sMx, cGive, cRest, cCoin, cT]; done) | (simp only [fa80 8 (by decide), fa71 8 (by decide), fa65 8 (by decide), fa61 8 (by decide), q4, sMn, sMx, cGive, cRest, cCoin, cT]; rfl)) (show a80 9 = (cGive x1 (cT 1 i a)).2.2.1 from by first | rfl | (simp only [fa80 9 (by decide), fa71 9 (by decide), fa65 9 (by decide), fa61 9 (by decide), q5, sMn, sMx, cGive, cRest, cCoin, cT]; done) | (simp only [fa80 9 (by decide), fa71 9 (by decide), fa65 9 (by decide), fa61 9 (by decide), q5, sMn, sMx, cGive, cRest, cCoin, cT]; rfl)) (show a80 2 = (cGive x1 (cT 1 i a)).2.2.2.1 from by first | rfl | (simp only [fa80 2 (by decide), fa71 2 (by decide), ea65, ea61, qm63, qm57, kg1.fa 2 rfl, sMn, sMx, cGive, cRest, cCoin, cT]; done) | (simp only [fa80 2 (by decide), fa71 2 (by decide), ea65, ea61, qm63, qm57, kg1.fa 2 rfl, sMn, sMx, cGive, cRest, cCoin, cT]; rfl)) (cY_pos (y := i 78) (d := (a 8).getD 0 0) (oc119 c51 efig1_78 koc8)) (show ((ig1 79) + m57) = (cGive x1 (cT 1 i a)).2.2.2.2.2.1 from by first | rfl | (simp only [(kg1.fi 79 rfl : ig1 79 = i 79), qm57, kg1.fa 2 rfl, sMn, sMx, cGive, cRest, cCoin, cT]; done) | (simp only [(kg1.fi 79 rfl : ig1 79 = i 79), qm57, kg1.fa 2 rfl, sMn, sMx, cGive, cRest, cCoin, cT]; rfl)) (show a80 14 = (cGive x1 (cT 1 i a)).2.2.2.2.2.2.1 from by first | rfl | (simp only [fa80 14 (by decide), ea71, fa65 14 (by decide), qm57, kg1.fa 2 rfl, fa61 14 (by decide), kg1.fa 14 rfl, sMn, sMx, cGive, cRest, cCoin, cT]; done) | (simp only [fa80 14 (by decide), ea71, fa65 14 (by decide), qm57, kg1.fa 2 rfl, fa61 14 (by decide), kg1.fa 14 rfl, sMn, sMx, cGive, cRest, cCoin, cT]; rfl)) (fun u hu => match u, hu with | 0, _ => (Eq.trans (show a80 16 = cRow 1 a 0 from by rw [cRow_lt (p := 1) (a := a) (by decide : 0 < 8)]; first | rfl | (simp only [fa80 16 (by decide), fa71 16 (by decide), fa65 16 (by decide), fa61 16 (by decide), kg1.fa 16 rfl, sMn, sMx, cCoin, cT]; done) | (simp only [fa80 16 (by decide), fa71 16 (by decide), fa65 16 (by decide), fa61 16 (by decide), kg1.fa 16 rfl, sMn, sMx, cCoin, cT]; rfl)) (cG_f (c := x1) (T := (cT 1 i a)) (u := 0) (oc29 w78) (oc53 w78))) | 1, _ => (Eq.trans (show a80 17 = cRow 1 a 1 from by rw [cRow_lt (p := 1) (a := a) (by decide : 1 < 8)]; first | rfl | (simp only [fa80 17 (by decide), fa71 17 (by decide), fa65 17 (by decide), fa61 17 (by decide), kg1.fa 17 rfl, sMn, sMx, cCoin, cT]; done) | (simp only [fa80 17 (by decide), fa71 17 (by decide), fa65 17 (by decide), fa61 17 (by decide), kg1.fa 17 rfl, sMn, sMx, cCoin, cT]; rfl)) (cG_f (c := x1) (T := (cT 1 i a)) (u := 1) (oc29 w78) (oc54 w78))) | 2, _ => (Eq.trans (show a80 18 = (cRow 1 a 2).set x1.toNatClampNeg ((cRow 1 a 2).getD x1.toNatClampNeg 0 + cCoin (cT 1 i a)) from by rw [cRow_lt (p := 1) (a := a) (by decide : 2 < 8)]; first | rfl | (simp only [ea80, fa71 18 (by decide), qm57, kg1.fa 2 rfl, fa65 18 (by decide), fa61 18 (by decide), kg1.fa 18 rfl, sMn, sMx, cCoin, cT]; done) | (simp only [ea80, fa71 18 (by decide), qm57, kg1.fa 2 rfl, fa65 18 (by decide), fa61 18 (by decide), kg1.fa 18 rfl, sMn, sMx, cCoin, cT]; rfl)) (cG_t (c := x1) (T := (cT 1 i a)) (u := 2) (oc55 w78))) | 3, _ => (Eq.trans (show a80 19 = cRow 1 a 3 from by rw [cRow_lt (p := 1) (a := a) (by decide : 3 < 8)]; first | rfl | (simp only [fa80 19 (by decide), fa71 19 (by decide), fa65 19 (by decide), fa61 19 (by decide), kg1.fa 19 rfl, sMn, sMx, cCoin, cT]; done) | (simp only [fa80 19 (by decide), fa71 19 (by decide), fa65 19 (by decide), fa61 19 (by decide), kg1.fa 19 rfl, sMn, sMx, cCoin, cT]; rfl)) (cG_f (c := x1) (T := (cT 1 i a)) (u := 3) (oc29 w78) (oc56 w78))) | 4, _ => (Eq.trans (show a80 20 = cRow 1 a 4 from by rw [cRow_lt (p := 1) (a := a) (by decide : 4 < 8)]; first | rfl | (simp only [fa80 20 (by decide), fa71 20 (by decide), fa65 20 (by decide), fa61 20 (by decide), kg1.fa 20 rfl, sMn, sMx, cCoin, cT]; done) | (simp only [fa80 20 (by decide), fa71 20 (by decide), fa65 20 (by decide), fa61 20 (by decide), kg1.fa 20 rfl, sMn, sMx, cCoin, cT]; rfl)) (cG_f (c := x1) (T := (cT 1 i a)) (u := 4) (oc29 w78) (oc57 w78))) | 5, _ => (Eq.trans (show a80 21 = cRow 1 a 5 from by rw [cRow_lt (p := 1) (a := a) (by decide : 5 < 8)]; first | rfl | (simp only [fa80 21 (by decide), fa71 21 (by decide), fa65 21 (by decide), fa61 21 (by decide), kg1.fa 21 rfl, sMn, sMx, cCoin, cT]; done) | (simp only [fa80 21 (by decide), fa71 21 (by decide), fa65 21 (by decide), fa61 21 (by decide), kg1.fa 21 rfl, sMn, sMx, cCoin, cT]; rfl)) (cG_f (c := x1) (T := (cT 1 i a)) (u := 5) (oc29 w78) (oc58 w78))) | 6, _ => (Eq.trans (show a80 22 = cRow 1 a 6 from by rw [cRow_lt (p := 1) (a := a) (by decide : 6 < 8)]; first | rfl | (simp only [fa80 22 (by decide), fa71 22 (by decide), fa65 22 (by decide), fa61 22 (by decide), kg1.fa 22 rfl, sMn, sMx, cCoin, cT]; done) | (simp only [fa80 22 (by decide), fa71 22 (by decide), fa65 22 (by decide), fa61 22 (by decide), kg1.fa 22 rfl, sMn, sMx, cCoin, cT]; rfl)) (cG_f (c := x1) (T := (cT 1 i a)) (u := 6) (oc29 w78) (oc59 w78))) | 7, _ => (Eq.trans (show a80 23 = cRow 1 a 7 from by rw [cRow_lt (p := 1) (a := a) (by decide : 7 < 8)]; first | rfl | (simp only [fa80 23 (by decide), fa71 23 (by decide), fa65 23 (by decide), fa61 23 (by decide), kg1.fa 23 rfl, sMn, sMx, cCoin, cT]; done) | (simp only [fa80 23 (by decide), fa71 23 (by decide), fa65 23 (by decide), fa61 23 (by decide), kg1.fa 23 rfl, sMn, sMx, cCoin, cT]; rfl)) (cG_f (c := x1) (T := (cT 1 i a)) (u := 7) (oc29 w78) (oc60 w78))) | _ + 8, h => absurd h (by omega)) (fun u hu => (cG_f (c := x1) (T := (cT 1 i a)) (oc29 w78) (kj_big hu (oc61 w78))).symm.trans (cRow_ge hu))).trans (show cGive x1 (cT 1 i a) = cPay (i 64) x1 (cT 1 i a) from (if_pos (oc52 c54 efig1_64 w78 z56.2)).symm))⟩)
        by_cases w81 : ((a 8).getD (0 : Int32).toNatClampNeg 0).toInt = 3
        ·
          refine ft_alx mi_k30 (pc := 128) (v := 3) (p := 15) (z := 19) (kj_eq w81 (by decide) : ((a 8).getD (0 : Int32).toNatClampNeg 0) = 3) (by decide +kernel) (by decide +kernel) ?_
          refine fo_goS mi_k30 fz30_129_2_131 [.int x1, .ref 19, .int x1, .ref 19] rfl ?_
          refine ko_iald3 mi_k30.1 (n := 8) (c := 8) (ax := (0, 0, 0, 0, 0)) (mi_k30.2 _ _ (by rfl)) (by rfl) (ksG19 _ _ _ _) (hJ71.I.2.1 19) rfl (oc1 hp0.1) (oc28 hp0.2) ?_
          have b82 : ((-2147483648 : Int) ≤ ((a71 19).getD x1.toNatClampNeg 0).toInt) ∧ (((a71 19).getD x1.toNatClampNeg 0).toInt ≤ 2147483647) := kd_bd ((a71 19).getD x1.toNatClampNeg 0)
          refine fo_goS mi_k30 fz30_132_2_135 [.int (((a71 19).getD x1.toNatClampNeg 0) + m57), .int x1, .ref 19] rfl ?_
          refine ko_iast3 mi_k30.1 (n := 8) (c := 8) (ax := (0, 0, 0, 0, 0)) (mi_k30.2 _ _ (by rfl)) (by rfl) (ksG19 _ _ _ _) (ksA19 _ _ _ _) (hJ71.I.2.1 19) rfl (oc1 hp0.1) (oc28 hp0.2) ?_
          intro a83 ea83 fa83
          have hJ83 := kG_a3 hJ71 19 rfl ea83 fa83 (kd_bd _)
          exact ft_ret mi_k30 (by rfl) (hP  _ _ _ _ hJ83 ⟨(oc20 z2), ((cT_eq (p := 1) (i := ku (ku ig1 78 ((a 8).getD (0 : Int32).toNatClampNeg 0)) 79 ((ig1 79) + m57)) (a := a83) (T := cGive x1 (cT 1 i a)) (show ig1 450 = (cGive x1 (cT 1 i a)).1 from by first | rfl | (simp only [q3, sMn, sMx, cGive, cRest, cCoin, cT]; done) | (simp only [q3, sMn, sMx, cGive, cRest, cCoin, cT]; rfl)) (show a83 8 = (cGive x1 (cT 1 i a)).2.1 from by first | rfl | (simp only [fa83 8 (by decide), fa71 8 (by decide), fa65 8 (by decide), fa61 8 (by decide), q4, sMn, sMx, cGive, cRest, cCoin, cT]; done) | (simp only [fa83 8 (by decide), fa71 8 (by decide), fa65 8 (by decide), fa61 8 (by decide), q4, sMn, sMx, cGive, cRest, cCoin, cT]; rfl)) (show a83 9 = (cGive x1 (cT 1 i a)).2.2.1 from by first | rfl | (simp only [fa83 9 (by decide), fa71 9 (by decide), fa65 9 (by decide), fa61 9 (by decide), q5, sMn, sMx, cGive, cRest, cCoin, cT]; done) | (simp only [fa83 9 (by decide), fa71 9 (by decide), fa65 9 (by decide), fa61 9 (by decide), q5, sMn, sMx, cGive, cRest, cCoin, cT]; rfl)) (show a83 2 = (cGive x1 (cT 1 i a)).2.2.2.1 from by first | rfl | (simp only [fa83 2 (by decide), fa71 2 (by decide), ea65, ea61, qm63, qm57, kg1.fa 2 rfl, sMn, sMx, cGive, cRest, cCoin, cT]; done) | (simp only [fa83 2 (by decide), fa71 2 (by decide), ea65, ea61, qm63, qm57, kg1.fa 2 rfl, sMn, sMx, cGive, cRest, cCoin, cT]; rfl)) (cY_pos (y := i 78) (d := (a 8).getD 0 0) (oc119 c51 efig1_78 koc8)) (show ((ig1 79) + m57) = (cGive x1 (cT 1 i a)).2.2.2.2.2.1 from by first | rfl | (simp only [(kg1.fi 79 rfl : ig1 79 = i 79), qm57, kg1.fa 2 rfl, sMn, sMx, cGive, cRest, cCoin, cT]; done) | (simp only [(kg1.fi 79 rfl : ig1 79 = i 79), qm57, kg1.fa 2 rfl, sMn, sMx, cGive, cRest, cCoin, cT]; rfl)) (show a83 14 = (cGive x1 (cT 1 i a)).2.2.2.2.2.2.1 from by first | rfl | (simp only [fa83 14 (by decide), ea71, fa65 14 (by decide), qm57, kg1.fa 2 rfl, fa61 14 (by decide), kg1.fa 14 rfl, sMn, sMx, cGive, cRest, cCoin, cT]; done) | (simp only [fa83 14 (by decide), ea71, fa65 14 (by decide), qm57, kg1.fa 2 rfl, fa61 14 (by decide), kg1.fa 14 rfl, sMn, sMx, cGive, cRest, cCoin, cT]; rfl)) (fun u hu => match u, hu with | 0, _ => (Eq.trans (show a83 16 = cRow 1 a 0 from by rw [cRow_lt (p := 1) (a := a) (by decide : 0 < 8)]; first | rfl | (simp only [fa83 16 (by decide), fa71 16 (by decide), fa65 16 (by decide), fa61 16 (by decide), kg1.fa 16 rfl, sMn, sMx, cCoin, cT]; done) | (simp only [fa83 16 (by decide), fa71 16 (by decide), fa65 16 (by decide), fa61 16 (by decide), kg1.fa 16 rfl, sMn, sMx, cCoin, cT]; rfl)) (cG_f (c := x1) (T := (cT 1 i a)) (u := 0) (oc63 w81) (oc64 w81))) | 1, _ => (Eq.trans (show a83 17 = cRow 1 a 1 from by rw [cRow_lt (p := 1) (a := a) (by decide : 1 < 8)]; first | rfl | (simp only [fa83 17 (by decide), fa71 17 (by decide), fa65 17 (by decide), fa61 17 (by decide), kg1.fa 17 rfl, sMn, sMx, cCoin, cT]; done) | (simp only [fa83 17 (by decide), fa71 17 (by decide), fa65 17 (by decide), fa61 17 (by decide), kg1.fa 17 rfl, sMn, sMx, cCoin, cT]; rfl)) (cG_f (c := x1) (T := (cT 1 i a)) (u := 1) (oc63 w81) (oc65 w81))) | 2, _ => (Eq.trans (show a83 18 = cRow 1 a 2 from by rw [cRow_lt (p := 1) (a := a) (by decide : 2 < 8)]; first | rfl | (simp only [fa83 18 (by decide), fa71 18 (by decide), fa65 18 (by decide), fa61 18 (by decide), kg1.fa 18 rfl, sMn, sMx, cCoin, cT]; done) | (simp only [fa83 18 (by decide), fa71 18 (by decide), fa65 18 (by decide), fa61 18 (by decide), kg1.fa 18 rfl, sMn, sMx, cCoin, cT]; rfl)) (cG_f (c := x1) (T := (cT 1 i a)) (u := 2) (oc63 w81) (oc66 w81))) | 3, _ => (Eq.trans (show a83 19 = (cRow 1 a 3).set x1.toNatClampNeg ((cRow 1 a 3).getD x1.toNatClampNeg 0 + cCoin (cT 1 i a)) from by rw [cRow_lt (p := 1) (a := a) (by decide : 3 < 8)]; first | rfl | (simp only [ea83, fa71 19 (by decide), qm57, kg1.fa 2 rfl, fa65 19 (by decide), fa61 19 (by decide), kg1.fa 19 rfl, sMn, sMx, cCoin, cT]; done) | (simp only [ea83, fa71 19 (by decide), qm57, kg1.fa 2 rfl, fa65 19 (by decide), fa61 19 (by decide), kg1.fa 19 rfl, sMn, sMx, cCoin, cT]; rfl)) (cG_t (c := x1) (T := (cT 1 i a)) (u := 3) (oc67 w81))) | 4, _ => (Eq.trans (show a83 20 = cRow 1 a 4 from by rw [cRow_lt (p := 1) (a := a) (by decide : 4 < 8)]; first | rfl | (simp only [fa83 20 (by decide), fa71 20 (by decide), fa65 20 (by decide), fa61 20 (by decide), kg1.fa 20 rfl, sMn, sMx, cCoin, cT]; done) | (simp only [fa83 20 (by decide), fa71 20 (by decide), fa65 20 (by decide), fa61 20 (by decide), kg1.fa 20 rfl, sMn, sMx, cCoin, cT]; rfl)) (cG_f (c := x1) (T := (cT 1 i a)) (u := 4) (oc63 w81) (oc68 w81))) | 5, _ => (Eq.trans (show a83 21 = cRow 1 a 5 from by rw [cRow_lt (p := 1) (a := a) (by decide : 5 < 8)]; first | rfl | (simp only [fa83 21 (by decide), fa71 21 (by decide), fa65 21 (by decide), fa61 21 (by decide), kg1.fa 21 rfl, sMn, sMx, cCoin, cT]; done) | (simp only [fa83 21 (by decide), fa71 21 (by decide), fa65 21 (by decide), fa61 21 (by decide), kg1.fa 21 rfl, sMn, sMx, cCoin, cT]; rfl)) (cG_f (c := x1) (T := (cT 1 i a)) (u := 5) (oc63 w81) (oc69 w81))) | 6, _ => (Eq.trans (show a83 22 = cRow 1 a 6 from by rw [cRow_lt (p := 1) (a := a) (by decide : 6 < 8)]; first | rfl | (simp only [fa83 22 (by decide), fa71 22 (by decide), fa65 22 (by decide), fa61 22 (by decide), kg1.fa 22 rfl, sMn, sMx, cCoin, cT]; done) | (simp only [fa83 22 (by decide), fa71 22 (by decide), fa65 22 (by decide), fa61 22 (by decide), kg1.fa 22 rfl, sMn, sMx, cCoin, cT]; rfl)) (cG_f (c := x1) (T := (cT 1 i a)) (u := 6) (oc63 w81) (oc70 w81))) | 7, _ => (Eq.trans (show a83 23 = cRow 1 a 7 from by rw [cRow_lt (p := 1) (a := a) (by decide : 7 < 8)]; first | rfl | (simp only [fa83 23 (by decide), fa71 23 (by decide), fa65 23 (by decide), fa61 23 (by decide), kg1.fa 23 rfl, sMn, sMx, cCoin, cT]; done) | (simp only [fa83 23 (by decide), fa71 23 (by decide), fa65 23 (by decide), fa61 23 (by decide), kg1.fa 23 rfl, sMn, sMx, cCoin, cT]; rfl)) (cG_f (c := x1) (T := (cT 1 i a)) (u := 7) (oc63 w81) (oc71 w81))) | _ + 8, h => absurd h (by omega)) (fun u hu => (cG_f (c := x1) (T := (cT 1 i a)) (oc63 w81) (kj_big hu (oc72 w81))).symm.trans (cRow_ge hu))).trans (show cGive x1 (cT 1 i a) = cPay (i 64) x1 (cT 1 i a) from (if_pos (oc62 c54 efig1_64 w81 z56.2)).symm))⟩)
        by_cases w84 : ((a 8).getD (0 : Int32).toNatClampNeg 0).toInt = 4
        ·
          refine ft_alx mi_k30 (pc := 128) (v := 4) (p := 15) (z := 20) (kj_eq w84 (by decide) : ((a 8).getD (0 : Int32).toNatClampNeg 0) = 4) (by decide +kernel) (by decide +kernel) ?_
          refine fo_goS mi_k30 fz30_129_2_131 [.int x1, .ref 20, .int x1, .ref 20] rfl ?_
          refine ko_iald3 mi_k30.1 (n := 8) (c := 8) (ax := (0, 0, 0, 0, 0)) (mi_k30.2 _ _ (by rfl)) (by rfl) (ksG20 _ _ _ _) (hJ71.I.2.1 20) rfl (oc1 hp0.1) (oc28 hp0.2) ?_
          have b85 : ((-2147483648 : Int) ≤ ((a71 20).getD x1.toNatClampNeg 0).toInt) ∧ (((a71 20).getD x1.toNatClampNeg 0).toInt ≤ 2147483647) := kd_bd ((a71 20).getD x1.toNatClampNeg 0)
          refine fo_goS mi_k30 fz30_132_2_135 [.int (((a71 20).getD x1.toNatClampNeg 0) + m57), .int x1, .ref 20] rfl ?_
          refine ko_iast3 mi_k30.1 (n := 8) (c := 8) (ax := (0, 0, 0, 0, 0)) (mi_k30.2 _ _ (by rfl)) (by rfl) (ksG20 _ _ _ _) (ksA20 _ _ _ _) (hJ71.I.2.1 20) rfl (oc1 hp0.1) (oc28 hp0.2) ?_
          intro a86 ea86 fa86
          have hJ86 := kG_a3 hJ71 20 rfl ea86 fa86 (kd_bd _)
          exact ft_ret mi_k30 (by rfl) (hP  _ _ _ _ hJ86 ⟨(oc20 z2), ((cT_eq (p := 1) (i := ku (ku ig1 78 ((a 8).getD (0 : Int32).toNatClampNeg 0)) 79 ((ig1 79) + m57)) (a := a86) (T := cGive x1 (cT 1 i a)) (show ig1 450 = (cGive x1 (cT 1 i a)).1 from by first | rfl | (simp only [q3, sMn, sMx, cGive, cRest, cCoin, cT]; done) | (simp only [q3, sMn, sMx, cGive, cRest, cCoin, cT]; rfl)) (show a86 8 = (cGive x1 (cT 1 i a)).2.1 from by first | rfl | (simp only [fa86 8 (by decide), fa71 8 (by decide), fa65 8 (by decide), fa61 8 (by decide), q4, sMn, sMx, cGive, cRest, cCoin, cT]; done) | (simp only [fa86 8 (by decide), fa71 8 (by decide), fa65 8 (by decide), fa61 8 (by decide), q4, sMn, sMx, cGive, cRest, cCoin, cT]; rfl)) (show a86 9 = (cGive x1 (cT 1 i a)).2.2.1 from by first | rfl | (simp only [fa86 9 (by decide), fa71 9 (by decide), fa65 9 (by decide), fa61 9 (by decide), q5, sMn, sMx, cGive, cRest, cCoin, cT]; done) | (simp only [fa86 9 (by decide), fa71 9 (by decide), fa65 9 (by decide), fa61 9 (by decide), q5, sMn, sMx, cGive, cRest, cCoin, cT]; rfl)) (show a86 2 = (cGive x1 (cT 1 i a)).2.2.2.1 from by first | rfl | (simp only [fa86 2 (by decide), fa71 2 (by decide), ea65, ea61, qm63, qm57, kg1.fa 2 rfl, sMn, sMx, cGive, cRest, cCoin, cT]; done) | (simp only [fa86 2 (by decide), fa71 2 (by decide), ea65, ea61, qm63, qm57, kg1.fa 2 rfl, sMn, sMx, cGive, cRest, cCoin, cT]; rfl)) (cY_pos (y := i 78) (d := (a 8).getD 0 0) (oc119 c51 efig1_78 koc8)) (show ((ig1 79) + m57) = (cGive x1 (cT 1 i a)).2.2.2.2.2.1 from by first | rfl | (simp only [(kg1.fi 79 rfl : ig1 79 = i 79), qm57, kg1.fa 2 rfl, sMn, sMx, cGive, cRest, cCoin, cT]; done) | (simp only [(kg1.fi 79 rfl : ig1 79 = i 79), qm57, kg1.fa 2 rfl, sMn, sMx, cGive, cRest, cCoin, cT]; rfl)) (show a86 14 = (cGive x1 (cT 1 i a)).2.2.2.2.2.2.1 from by first | rfl | (simp only [fa86 14 (by decide), ea71, fa65 14 (by decide), qm57, kg1.fa 2 rfl, fa61 14 (by decide), kg1.fa 14 rfl, sMn, sMx, cGive, cRest, cCoin, cT]; done) | (simp only [fa86 14 (by decide), ea71, fa65 14 (by decide), qm57, kg1.fa 2 rfl, fa61 14 (by decide), kg1.fa 14 rfl, sMn, sMx, cGive, cRest, cCoin, cT]; rfl)) (fun u hu => match u, hu with | 0, _ => (Eq.trans (show a86 16 = cRow 1 a 0 from by rw [cRow_lt (p := 1) (a := a) (by decide : 0 < 8)]; first | rfl | (simp only [fa86 16 (by decide), fa71 16 (by decide), fa65 16 (by decide), fa61 16 (by decide), kg1.fa 16 rfl, sMn, sMx, cCoin, cT]; done) | (simp only [fa86 16 (by decide), fa71 16 (by decide), fa65 16 (by decide), fa61 16 (by decide), kg1.fa 16 rfl, sMn, sMx, cCoin, cT]; rfl)) (cG_f (c := x1) (T := (cT 1 i a)) (u := 0) (oc74 w84) (oc75 w84))) | 1, _ => (Eq.trans (show a86 17 = cRow 1 a 1 from by rw [cRow_lt (p := 1) (a := a) (by decide : 1 < 8)]; first | rfl | (simp only [fa86 17 (by decide), fa71 17 (by decide), fa65 17 (by decide), fa61 17 (by decide), kg1.fa 17 rfl, sMn, sMx, cCoin, cT]; done) | (simp only [fa86 17 (by decide), fa71 17 (by decide), fa65 17 (by decide), fa61 17 (by decide), kg1.fa 17 rfl, sMn, sMx, cCoin, cT]; rfl)) (cG_f (c := x1) (T := (cT 1 i a)) (u := 1) (oc74 w84) (oc76 w84))) | 2, _ => (Eq.trans (show a86 18 = cRow 1 a 2 from by rw [cRow_lt (p := 1) (a := a) (by decide : 2 < 8)]; first | rfl | (simp only [fa86 18 (by decide), fa71 18 (by decide), fa65 18 (by decide), fa61 18 (by decide), kg1.fa 18 rfl, sMn, sMx, cCoin, cT]; done) | (simp only [fa86 18 (by decide), fa71 18 (by decide), fa65 18 (by decide), fa61 18 (by decide), kg1.fa 18 rfl, sMn, sMx, cCoin, cT]; rfl)) (cG_f (c := x1) (T := (cT 1 i a)) (u := 2) (oc74 w84) (oc77 w84))) | 3, _ => (Eq.trans (show a86 19 = cRow 1 a 3 from by rw [cRow_lt (p := 1) (a := a) (by decide : 3 < 8)]; first | rfl | (simp only [fa86 19 (by decide), fa71 19 (by decide), fa65 19 (by decide), fa61 19 (by decide), kg1.fa 19 rfl, sMn, sMx, cCoin, cT]; done) | (simp only [fa86 19 (by decide), fa71 19 (by decide), fa65 19 (by decide), fa61 19 (by decide), kg1.fa 19 rfl, sMn, sMx, cCoin, cT]; rfl)) (cG_f (c := x1) (T := (cT 1 i a)) (u := 3) (oc74 w84) (oc78 w84))) | 4, _ => (Eq.trans (show a86 20 = (cRow 1 a 4).set x1.toNatClampNeg ((cRow 1 a 4).getD x1.toNatClampNeg 0 + cCoin (cT 1 i a)) from by rw [cRow_lt (p := 1) (a := a) (by decide : 4 < 8)]; first | rfl | (simp only [ea86, fa71 20 (by decide), qm57, kg1.fa 2 rfl, fa65 20 (by decide), fa61 20 (by decide), kg1.fa 20 rfl, sMn, sMx, cCoin, cT]; done) | (simp only [ea86, fa71 20 (by decide), qm57, kg1.fa 2 rfl, fa65 20 (by decide), fa61 20 (by decide), kg1.fa 20 rfl, sMn, sMx, cCoin, cT]; rfl)) (cG_t (c := x1) (T := (cT 1 i a)) (u := 4) (oc79 w84))) | 5, _ => (Eq.trans (show a86 21 = cRow 1 a 5 from by rw [cRow_lt (p := 1) (a := a) (by decide : 5 < 8)]; first | rfl | (simp only [fa86 21 (by decide), fa71 21 (by decide), fa65 21 (by decide), fa61 21 (by decide), kg1.fa 21 rfl, sMn, sMx, cCoin, cT]; done) | (simp only [fa86 21 (by decide), fa71 21 (by decide), fa65 21 (by decide), fa61 21 (by decide), kg1.fa 21 rfl, sMn, sMx, cCoin, cT]; rfl)) (cG_f (c := x1) (T := (cT 1 i a)) (u := 5) (oc74 w84) (oc80 w84))) | 6, _ => (Eq.trans (show a86 22 = cRow 1 a 6 from by rw [cRow_lt (p := 1) (a := a) (by decide : 6 < 8)]; first | rfl | (simp only [fa86 22 (by decide), fa71 22 (by decide), fa65 22 (by decide), fa61 22 (by decide), kg1.fa 22 rfl, sMn, sMx, cCoin, cT]; done) | (simp only [fa86 22 (by decide), fa71 22 (by decide), fa65 22 (by decide), fa61 22 (by decide), kg1.fa 22 rfl, sMn, sMx, cCoin, cT]; rfl)) (cG_f (c := x1) (T := (cT 1 i a)) (u := 6) (oc74 w84) (oc81 w84))) | 7, _ => (Eq.trans (show a86 23 = cRow 1 a 7 from by rw [cRow_lt (p := 1) (a := a) (by decide : 7 < 8)]; first | rfl | (simp only [fa86 23 (by decide), fa71 23 (by decide), fa65 23 (by decide), fa61 23 (by decide), kg1.fa 23 rfl, sMn, sMx, cCoin, cT]; done) | (simp only [fa86 23 (by decide), fa71 23 (by decide), fa65 23 (by decide), fa61 23 (by decide), kg1.fa 23 rfl, sMn, sMx, cCoin, cT]; rfl)) (cG_f (c := x1) (T := (cT 1 i a)) (u := 7) (oc74 w84) (oc82 w84))) | _ + 8, h => absurd h (by omega)) (fun u hu => (cG_f (c := x1) (T := (cT 1 i a)) (oc74 w84) (kj_big hu (oc83 w84))).symm.trans (cRow_ge hu))).trans (show cGive x1 (cT 1 i a) = cPay (i 64) x1 (cT 1 i a) from (if_pos (oc73 c54 efig1_64 w84 z56.2)).symm))⟩)
        by_cases w87 : ((a 8).getD (0 : Int32).toNatClampNeg 0).toInt = 5
        ·
          refine ft_alx mi_k30 (pc := 128) (v := 5) (p := 15) (z := 21) (kj_eq w87 (by decide) : ((a 8).getD (0 : Int32).toNatClampNeg 0) = 5) (by decide +kernel) (by decide +kernel) ?_
          refine fo_goS mi_k30 fz30_129_2_131 [.int x1, .ref 21, .int x1, .ref 21] rfl ?_
          refine ko_iald3 mi_k30.1 (n := 8) (c := 8) (ax := (0, 0, 0, 0, 0)) (mi_k30.2 _ _ (by rfl)) (by rfl) (ksG21 _ _ _ _) (hJ71.I.2.1 21) rfl (oc1 hp0.1) (oc28 hp0.2) ?_
          have b88 : ((-2147483648 : Int) ≤ ((a71 21).getD x1.toNatClampNeg 0).toInt) ∧ (((a71 21).getD x1.toNatClampNeg 0).toInt ≤ 2147483647) := kd_bd ((a71 21).getD x1.toNatClampNeg 0)
          refine fo_goS mi_k30 fz30_132_2_135 [.int (((a71 21).getD x1.toNatClampNeg 0) + m57), .int x1, .ref 21] rfl ?_
          refine ko_iast3 mi_k30.1 (n := 8) (c := 8) (ax := (0, 0, 0, 0, 0)) (mi_k30.2 _ _ (by rfl)) (by rfl) (ksG21 _ _ _ _) (ksA21 _ _ _ _) (hJ71.I.2.1 21) rfl (oc1 hp0.1) (oc28 hp0.2) ?_
          intro a89 ea89 fa89
          have hJ89 := kG_a3 hJ71 21 rfl ea89 fa89 (kd_bd _)
          exact ft_ret mi_k30 (by rfl) (hP  _ _ _ _ hJ89 ⟨(oc20 z2), ((cT_eq (p := 1) (i := ku (ku ig1 78 ((a 8).getD (0 : Int32).toNatClampNeg 0)) 79 ((ig1 79) + m57)) (a := a89) (T := cGive x1 (cT 1 i a)) (show ig1 450 = (cGive x1 (cT 1 i a)).1 from by first | rfl | (simp only [q3, sMn, sMx, cGive, cRest, cCoin, cT]; done) | (simp only [q3, sMn, sMx, cGive, cRest, cCoin, cT]; rfl)) (show a89 8 = (cGive x1 (cT 1 i a)).2.1 from by first | rfl | (simp only [fa89 8 (by decide), fa71 8 (by decide), fa65 8 (by decide), fa61 8 (by decide), q4, sMn, sMx, cGive, cRest, cCoin, cT]; done) | (simp only [fa89 8 (by decide), fa71 8 (by decide), fa65 8 (by decide), fa61 8 (by decide), q4, sMn, sMx, cGive, cRest, cCoin, cT]; rfl)) (show a89 9 = (cGive x1 (cT 1 i a)).2.2.1 from by first | rfl | (simp only [fa89 9 (by decide), fa71 9 (by decide), fa65 9 (by decide), fa61 9 (by decide), q5, sMn, sMx, cGive, cRest, cCoin, cT]; done) | (simp only [fa89 9 (by decide), fa71 9 (by decide), fa65 9 (by decide), fa61 9 (by decide), q5, sMn, sMx, cGive, cRest, cCoin, cT]; rfl)) (show a89 2 = (cGive x1 (cT 1 i a)).2.2.2.1 from by first | rfl | (simp only [fa89 2 (by decide), fa71 2 (by decide), ea65, ea61, qm63, qm57, kg1.fa 2 rfl, sMn, sMx, cGive, cRest, cCoin, cT]; done) | (simp only [fa89 2 (by decide), fa71 2 (by decide), ea65, ea61, qm63, qm57, kg1.fa 2 rfl, sMn, sMx, cGive, cRest, cCoin, cT]; rfl)) (cY_pos (y := i 78) (d := (a 8).getD 0 0) (oc119 c51 efig1_78 koc8)) (show ((ig1 79) + m57) = (cGive x1 (cT 1 i a)).2.2.2.2.2.1 from by first | rfl | (simp only [(kg1.fi 79 rfl : ig1 79 = i 79), qm57, kg1.fa 2 rfl, sMn, sMx, cGive, cRest, cCoin, cT]; done) | (simp only [(kg1.fi 79 rfl : ig1 79 = i 79), qm57, kg1.fa 2 rfl, sMn, sMx, cGive, cRest, cCoin, cT]; rfl)) (show a89 14 = (cGive x1 (cT 1 i a)).2.2.2.2.2.2.1 from by first | rfl | (simp only [fa89 14 (by decide), ea71, fa65 14 (by decide), qm57, kg1.fa 2 rfl, fa61 14 (by decide), kg1.fa 14 rfl, sMn, sMx, cGive, cRest, cCoin, cT]; done) | (simp only [fa89 14 (by decide), ea71, fa65 14 (by decide), qm57, kg1.fa 2 rfl, fa61 14 (by decide), kg1.fa 14 rfl, sMn, sMx, cGive, cRest, cCoin, cT]; rfl)) (fun u hu => match u, hu with | 0, _ => (Eq.trans (show a89 16 = cRow 1 a 0 from by rw [cRow_lt (p := 1) (a := a) (by decide : 0 < 8)]; first | rfl | (simp only [fa89 16 (by decide), fa71 16 (by decide), fa65 16 (by decide), fa61 16 (by decide), kg1.fa 16 rfl, sMn, sMx, cCoin, cT]; done) | (simp only [fa89 16 (by decide), fa71 16 (by decide), fa65 16 (by decide), fa61 16 (by decide), kg1.fa 16 rfl, sMn, sMx, cCoin, cT]; rfl)) (cG_f (c := x1) (T := (cT 1 i a)) (u := 0) (oc85 w87) (oc86 w87))) | 1, _ => (Eq.trans (show a89 17 = cRow 1 a 1 from by rw [cRow_lt (p := 1) (a := a) (by decide : 1 < 8)]; first | rfl | (simp only [fa89 17 (by decide), fa71 17 (by decide), fa65 17 (by decide), fa61 17 (by decide), kg1.fa 17 rfl, sMn, sMx, cCoin, cT]; done) | (simp only [fa89 17 (by decide), fa71 17 (by decide), fa65 17 (by decide), fa61 17 (by decide), kg1.fa 17 rfl, sMn, sMx, cCoin, cT]; rfl)) (cG_f (c := x1) (T := (cT 1 i a)) (u := 1) (oc85 w87) (oc87 w87))) | 2, _ => (Eq.trans (show a89 18 = cRow 1 a 2 from by rw [cRow_lt (p := 1) (a := a) (by decide : 2 < 8)]; first | rfl | (simp only [fa89 18 (by decide), fa71 18 (by decide), fa65 18 (by decide), fa61 18 (by decide), kg1.fa 18 rfl, sMn, sMx, cCoin, cT]; done) | (simp only [fa89 18 (by decide), fa71 18 (by decide), fa65 18 (by decide), fa61 18 (by decide), kg1.fa 18 rfl, sMn, sMx, cCoin, cT]; rfl)) (cG_f (c := x1) (T := (cT 1 i a)) (u := 2) (oc85 w87) (oc88 w87))) | 3, _ => (Eq.trans (show a89 19 = cRow 1 a 3 from by rw [cRow_lt (p := 1) (a := a) (by decide : 3 < 8)]; first | rfl | (simp only [fa89 19 (by decide), fa71 19 (by decide), fa65 19 (by decide), fa61 19 (by decide), kg1.fa 19 rfl, sMn, sMx, cCoin, cT]; done) | (simp only [fa89 19 (by decide), fa71 19 (by decide), fa65 19 (by decide), fa61 19 (by decide), kg1.fa 19 rfl, sMn, sMx, cCoin, cT]; rfl)) (cG_f (c := x1) (T := (cT 1 i a)) (u := 3) (oc85 w87) (oc89 w87))) | 4, _ => (Eq.trans (show a89 20 = cRow 1 a 4 from by rw [cRow_lt (p := 1) (a := a) (by decide : 4 < 8)]; first | rfl | (simp only [fa89 20 (by decide), fa71 20 (by decide), fa65 20 (by decide), fa61 20 (by decide), kg1.fa 20 rfl, sMn, sMx, cCoin, cT]; done) | (simp only [fa89 20 (by decide), fa71 20 (by decide), fa65 20 (by decide), fa61 20 (by decide), kg1.fa 20 rfl, sMn, sMx, cCoin, cT]; rfl)) (cG_f (c := x1) (T := (cT 1 i a)) (u := 4) (oc85 w87) (oc90 w87))) | 5, _ => (Eq.trans (show a89 21 = (cRow 1 a 5).set x1.toNatClampNeg ((cRow 1 a 5).getD x1.toNatClampNeg 0 + cCoin (cT 1 i a)) from by rw [cRow_lt (p := 1) (a := a) (by decide : 5 < 8)]; first | rfl | (simp only [ea89, fa71 21 (by decide), qm57, kg1.fa 2 rfl, fa65 21 (by decide), fa61 21 (by decide), kg1.fa 21 rfl, sMn, sMx, cCoin, cT]; done) | (simp only [ea89, fa71 21 (by decide), qm57, kg1.fa 2 rfl, fa65 21 (by decide), fa61 21 (by decide), kg1.fa 21 rfl, sMn, sMx, cCoin, cT]; rfl)) (cG_t (c := x1) (T := (cT 1 i a)) (u := 5) (oc91 w87))) | 6, _ => (Eq.trans (show a89 22 = cRow 1 a 6 from by rw [cRow_lt (p := 1) (a := a) (by decide : 6 < 8)]; first | rfl | (simp only [fa89 22 (by decide), fa71 22 (by decide), fa65 22 (by decide), fa61 22 (by decide), kg1.fa 22 rfl, sMn, sMx, cCoin, cT]; done) | (simp only [fa89 22 (by decide), fa71 22 (by decide), fa65 22 (by decide), fa61 22 (by decide), kg1.fa 22 rfl, sMn, sMx, cCoin, cT]; rfl)) (cG_f (c := x1) (T := (cT 1 i a)) (u := 6) (oc85 w87) (oc92 w87))) | 7, _ => (Eq.trans (show a89 23 = cRow 1 a 7 from by rw [cRow_lt (p := 1) (a := a) (by decide : 7 < 8)]; first | rfl | (simp only [fa89 23 (by decide), fa71 23 (by decide), fa65 23 (by decide), fa61 23 (by decide), kg1.fa 23 rfl, sMn, sMx, cCoin, cT]; done) | (simp only [fa89 23 (by decide), fa71 23 (by decide), fa65 23 (by decide), fa61 23 (by decide), kg1.fa 23 rfl, sMn, sMx, cCoin, cT]; rfl)) (cG_f (c := x1) (T := (cT 1 i a)) (u := 7) (oc85 w87) (oc93 w87))) | _ + 8, h => absurd h (by omega)) (fun u hu => (cG_f (c := x1) (T := (cT 1 i a)) (oc85 w87) (kj_big hu (oc94 w87))).symm.trans (cRow_ge hu))).trans (show cGive x1 (cT 1 i a) = cPay (i 64) x1 (cT 1 i a) from (if_pos (oc84 c54 efig1_64 w87 z56.2)).symm))⟩)
        by_cases w90 : ((a 8).getD (0 : Int32).toNatClampNeg 0).toInt = 6
        ·
          refine ft_alx mi_k30 (pc := 128) (v := 6) (p := 15) (z := 22) (kj_eq w90 (by decide) : ((a 8).getD (0 : Int32).toNatClampNeg 0) = 6) (by decide +kernel) (by decide +kernel) ?_
          refine fo_goS mi_k30 fz30_129_2_131 [.int x1, .ref 22, .int x1, .ref 22] rfl ?_
          refine ko_iald3 mi_k30.1 (n := 8) (c := 8) (ax := (0, 0, 0, 0, 0)) (mi_k30.2 _ _ (by rfl)) (by rfl) (ksG22 _ _ _ _) (hJ71.I.2.1 22) rfl (oc1 hp0.1) (oc28 hp0.2) ?_
          have b91 : ((-2147483648 : Int) ≤ ((a71 22).getD x1.toNatClampNeg 0).toInt) ∧ (((a71 22).getD x1.toNatClampNeg 0).toInt ≤ 2147483647) := kd_bd ((a71 22).getD x1.toNatClampNeg 0)
          refine fo_goS mi_k30 fz30_132_2_135 [.int (((a71 22).getD x1.toNatClampNeg 0) + m57), .int x1, .ref 22] rfl ?_
          refine ko_iast3 mi_k30.1 (n := 8) (c := 8) (ax := (0, 0, 0, 0, 0)) (mi_k30.2 _ _ (by rfl)) (by rfl) (ksG22 _ _ _ _) (ksA22 _ _ _ _) (hJ71.I.2.1 22) rfl (oc1 hp0.1) (oc28 hp0.2) ?_
          intro a92 ea92 fa92
          have hJ92 := kG_a3 hJ71 22 rfl ea92 fa92 (kd_bd _)
          exact ft_ret mi_k30 (by rfl) (hP  _ _ _ _ hJ92 ⟨(oc20 z2), ((cT_eq (p := 1) (i := ku (ku ig1 78 ((a 8).getD (0 : Int32).toNatClampNeg 0)) 79 ((ig1 79) + m57)) (a := a92) (T := cGive x1 (cT 1 i a)) (show ig1 450 = (cGive x1 (cT 1 i a)).1 from by first | rfl | (simp only [q3, sMn, sMx, cGive, cRest, cCoin, cT]; done) | (simp only [q3, sMn, sMx, cGive, cRest, cCoin, cT]; rfl)) (show a92 8 = (cGive x1 (cT 1 i a)).2.1 from by first | rfl | (simp only [fa92 8 (by decide), fa71 8 (by decide), fa65 8 (by decide), fa61 8 (by decide), q4, sMn, sMx, cGive, cRest, cCoin, cT]; done) | (simp only [fa92 8 (by decide), fa71 8 (by decide), fa65 8 (by decide), fa61 8 (by decide), q4, sMn, sMx, cGive, cRest, cCoin, cT]; rfl)) (show a92 9 = (cGive x1 (cT 1 i a)).2.2.1 from by first | rfl | (simp only [fa92 9 (by decide), fa71 9 (by decide), fa65 9 (by decide), fa61 9 (by decide), q5, sMn, sMx, cGive, cRest, cCoin, cT]; done) | (simp only [fa92 9 (by decide), fa71 9 (by decide), fa65 9 (by decide), fa61 9 (by decide), q5, sMn, sMx, cGive, cRest, cCoin, cT]; rfl)) (show a92 2 = (cGive x1 (cT 1 i a)).2.2.2.1 from by first | rfl | (simp only [fa92 2 (by decide), fa71 2 (by decide), ea65, ea61, qm63, qm57, kg1.fa 2 rfl, sMn, sMx, cGive, cRest, cCoin, cT]; done) | (simp only [fa92 2 (by decide), fa71 2 (by decide), ea65, ea61, qm63, qm57, kg1.fa 2 rfl, sMn, sMx, cGive, cRest, cCoin, cT]; rfl)) (cY_pos (y := i 78) (d := (a 8).getD 0 0) (oc119 c51 efig1_78 koc8)) (show ((ig1 79) + m57) = (cGive x1 (cT 1 i a)).2.2.2.2.2.1 from by first | rfl | (simp only [(kg1.fi 79 rfl : ig1 79 = i 79), qm57, kg1.fa 2 rfl, sMn, sMx, cGive, cRest, cCoin, cT]; done) | (simp only [(kg1.fi 79 rfl : ig1 79 = i 79), qm57, kg1.fa 2 rfl, sMn, sMx, cGive, cRest, cCoin, cT]; rfl)) (show a92 14 = (cGive x1 (cT 1 i a)).2.2.2.2.2.2.1 from by first | rfl | (simp only [fa92 14 (by decide), ea71, fa65 14 (by decide), qm57, kg1.fa 2 rfl, fa61 14 (by decide), kg1.fa 14 rfl, sMn, sMx, cGive, cRest, cCoin, cT]; done) | (simp only [fa92 14 (by decide), ea71, fa65 14 (by decide), qm57, kg1.fa 2 rfl, fa61 14 (by decide), kg1.fa 14 rfl, sMn, sMx, cGive, cRest, cCoin, cT]; rfl)) (fun u hu => match u, hu with | 0, _ => (Eq.trans (show a92 16 = cRow 1 a 0 from by rw [cRow_lt (p := 1) (a := a) (by decide : 0 < 8)]; first | rfl | (simp only [fa92 16 (by decide), fa71 16 (by decide), fa65 16 (by decide), fa61 16 (by decide), kg1.fa 16 rfl, sMn, sMx, cCoin, cT]; done) | (simp only [fa92 16 (by decide), fa71 16 (by decide), fa65 16 (by decide), fa61 16 (by decide), kg1.fa 16 rfl, sMn, sMx, cCoin, cT]; rfl)) (cG_f (c := x1) (T := (cT 1 i a)) (u := 0) (oc96 w90) (oc97 w90))) | 1, _ => (Eq.trans (show a92 17 = cRow 1 a 1 from by rw [cRow_lt (p := 1) (a := a) (by decide : 1 < 8)]; first | rfl | (simp only [fa92 17 (by decide), fa71 17 (by decide), fa65 17 (by decide), fa61 17 (by decide), kg1.fa 17 rfl, sMn, sMx, cCoin, cT]; done) | (simp only [fa92 17 (by decide), fa71 17 (by decide), fa65 17 (by decide), fa61 17 (by decide), kg1.fa 17 rfl, sMn, sMx, cCoin, cT]; rfl)) (cG_f (c := x1) (T := (cT 1 i a)) (u := 1) (oc96 w90) (oc98 w90))) | 2, _ => (Eq.trans (show a92 18 = cRow 1 a 2 from by rw [cRow_lt (p := 1) (a := a) (by decide : 2 < 8)]; first | rfl | (simp only [fa92 18 (by decide), fa71 18 (by decide), fa65 18 (by decide), fa61 18 (by decide), kg1.fa 18 rfl, sMn, sMx, cCoin, cT]; done) | (simp only [fa92 18 (by decide), fa71 18 (by decide), fa65 18 (by decide), fa61 18 (by decide), kg1.fa 18 rfl, sMn, sMx, cCoin, cT]; rfl)) (cG_f (c := x1) (T := (cT 1 i a)) (u := 2) (oc96 w90) (oc99 w90))) | 3, _ => (Eq.trans (show a92 19 = cRow 1 a 3 from by rw [cRow_lt (p := 1) (a := a) (by decide : 3 < 8)]; first | rfl | (simp only [fa92 19 (by decide), fa71 19 (by decide), fa65 19 (by decide), fa61 19 (by decide), kg1.fa 19 rfl, sMn, sMx, cCoin, cT]; done) | (simp only [fa92 19 (by decide), fa71 19 (by decide), fa65 19 (by decide), fa61 19 (by decide), kg1.fa 19 rfl, sMn, sMx, cCoin, cT]; rfl)) (cG_f (c := x1) (T := (cT 1 i a)) (u := 3) (oc96 w90) (oc100 w90))) | 4, _ => (Eq.trans (show a92 20 = cRow 1 a 4 from by rw [cRow_lt (p := 1) (a := a) (by decide : 4 < 8)]; first | rfl | (simp only [fa92 20 (by decide), fa71 20 (by decide), fa65 20 (by decide), fa61 20 (by decide), kg1.fa 20 rfl, sMn, sMx, cCoin, cT]; done) | (simp only [fa92 20 (by decide), fa71 20 (by decide), fa65 20 (by decide), fa61 20 (by decide), kg1.fa 20 rfl, sMn, sMx, cCoin, cT]; rfl)) (cG_f (c := x1) (T := (cT 1 i a)) (u := 4) (oc96 w90) (oc101 w90))) | 5, _ => (Eq.trans (show a92 21 = cRow 1 a 5 from by rw [cRow_lt (p := 1) (a := a) (by decide : 5 < 8)]; first | rfl | (simp only [fa92 21 (by decide), fa71 21 (by decide), fa65 21 (by decide), fa61 21 (by decide), kg1.fa 21 rfl, sMn, sMx, cCoin, cT]; done) | (simp only [fa92 21 (by decide), fa71 21 (by decide), fa65 21 (by decide), fa61 21 (by decide), kg1.fa 21 rfl, sMn, sMx, cCoin, cT]; rfl)) (cG_f (c := x1) (T := (cT 1 i a)) (u := 5) (oc96 w90) (oc102 w90))) | 6, _ => (Eq.trans (show a92 22 = (cRow 1 a 6).set x1.toNatClampNeg ((cRow 1 a 6).getD x1.toNatClampNeg 0 + cCoin (cT 1 i a)) from by rw [cRow_lt (p := 1) (a := a) (by decide : 6 < 8)]; first | rfl | (simp only [ea92, fa71 22 (by decide), qm57, kg1.fa 2 rfl, fa65 22 (by decide), fa61 22 (by decide), kg1.fa 22 rfl, sMn, sMx, cCoin, cT]; done) | (simp only [ea92, fa71 22 (by decide), qm57, kg1.fa 2 rfl, fa65 22 (by decide), fa61 22 (by decide), kg1.fa 22 rfl, sMn, sMx, cCoin, cT]; rfl)) (cG_t (c := x1) (T := (cT 1 i a)) (u := 6) (oc103 w90))) | 7, _ => (Eq.trans (show a92 23 = cRow 1 a 7 from by rw [cRow_lt (p := 1) (a := a) (by decide : 7 < 8)]; first | rfl | (simp only [fa92 23 (by decide), fa71 23 (by decide), fa65 23 (by decide), fa61 23 (by decide), kg1.fa 23 rfl, sMn, sMx, cCoin, cT]; done) | (simp only [fa92 23 (by decide), fa71 23 (by decide), fa65 23 (by decide), fa61 23 (by decide), kg1.fa 23 rfl, sMn, sMx, cCoin, cT]; rfl)) (cG_f (c := x1) (T := (cT 1 i a)) (u := 7) (oc96 w90) (oc104 w90))) | _ + 8, h => absurd h (by omega)) (fun u hu => (cG_f (c := x1) (T := (cT 1 i a)) (oc96 w90) (kj_big hu (oc105 w90))).symm.trans (cRow_ge hu))).trans (show cGive x1 (cT 1 i a) = cPay (i 64) x1 (cT 1 i a) from (if_pos (oc95 c54 efig1_64 w90 z56.2)).symm))⟩)
        by_cases w93 : ((a 8).getD (0 : Int32).toNatClampNeg 0).toInt = 7
        ·
          refine ft_alx mi_k30 (pc := 128) (v := 7) (p := 15) (z := 23) (kj_eq w93 (by decide) : ((a 8).getD (0 : Int32).toNatClampNeg 0) = 7) (by decide +kernel) (by decide +kernel) ?_
          refine fo_goS mi_k30 fz30_129_2_131 [.int x1, .ref 23, .int x1, .ref 23] rfl ?_
          refine ko_iald3 mi_k30.1 (n := 8) (c := 8) (ax := (0, 0, 0, 0, 0)) (mi_k30.2 _ _ (by rfl)) (by rfl) (ksG23 _ _ _ _) (hJ71.I.2.1 23) rfl (oc1 hp0.1) (oc28 hp0.2) ?_
          have b94 : ((-2147483648 : Int) ≤ ((a71 23).getD x1.toNatClampNeg 0).toInt) ∧ (((a71 23).getD x1.toNatClampNeg 0).toInt ≤ 2147483647) := kd_bd ((a71 23).getD x1.toNatClampNeg 0)
          refine fo_goS mi_k30 fz30_132_2_135 [.int (((a71 23).getD x1.toNatClampNeg 0) + m57), .int x1, .ref 23] rfl ?_
          refine ko_iast3 mi_k30.1 (n := 8) (c := 8) (ax := (0, 0, 0, 0, 0)) (mi_k30.2 _ _ (by rfl)) (by rfl) (ksG23 _ _ _ _) (ksA23 _ _ _ _) (hJ71.I.2.1 23) rfl (oc1 hp0.1) (oc28 hp0.2) ?_
          intro a95 ea95 fa95
          have hJ95 := kG_a3 hJ71 23 rfl ea95 fa95 (kd_bd _)
          exact ft_ret mi_k30 (by rfl) (hP  _ _ _ _ hJ95 ⟨(oc20 z2), ((cT_eq (p := 1) (i := ku (ku ig1 78 ((a 8).getD (0 : Int32).toNatClampNeg 0)) 79 ((ig1 79) + m57)) (a := a95) (T := cGive x1 (cT 1 i a)) (show ig1 450 = (cGive x1 (cT 1 i a)).1 from by first | rfl | (simp only [q3, sMn, sMx, cGive, cRest, cCoin, cT]; done) | (simp only [q3, sMn, sMx, cGive, cRest, cCoin, cT]; rfl)) (show a95 8 = (cGive x1 (cT 1 i a)).2.1 from by first | rfl | (simp only [fa95 8 (by decide), fa71 8 (by decide), fa65 8 (by decide), fa61 8 (by decide), q4, sMn, sMx, cGive, cRest, cCoin, cT]; done) | (simp only [fa95 8 (by decide), fa71 8 (by decide), fa65 8 (by decide), fa61 8 (by decide), q4, sMn, sMx, cGive, cRest, cCoin, cT]; rfl)) (show a95 9 = (cGive x1 (cT 1 i a)).2.2.1 from by first | rfl | (simp only [fa95 9 (by decide), fa71 9 (by decide), fa65 9 (by decide), fa61 9 (by decide), q5, sMn, sMx, cGive, cRest, cCoin, cT]; done) | (simp only [fa95 9 (by decide), fa71 9 (by decide), fa65 9 (by decide), fa61 9 (by decide), q5, sMn, sMx, cGive, cRest, cCoin, cT]; rfl)) (show a95 2 = (cGive x1 (cT 1 i a)).2.2.2.1 from by first | rfl | (simp only [fa95 2 (by decide), fa71 2 (by decide), ea65, ea61, qm63, qm57, kg1.fa 2 rfl, sMn, sMx, cGive, cRest, cCoin, cT]; done) | (simp only [fa95 2 (by decide), fa71 2 (by decide), ea65, ea61, qm63, qm57, kg1.fa 2 rfl, sMn, sMx, cGive, cRest, cCoin, cT]; rfl)) (cY_pos (y := i 78) (d := (a 8).getD 0 0) (oc119 c51 efig1_78 koc8)) (show ((ig1 79) + m57) = (cGive x1 (cT 1 i a)).2.2.2.2.2.1 from by first | rfl | (simp only [(kg1.fi 79 rfl : ig1 79 = i 79), qm57, kg1.fa 2 rfl, sMn, sMx, cGive, cRest, cCoin, cT]; done) | (simp only [(kg1.fi 79 rfl : ig1 79 = i 79), qm57, kg1.fa 2 rfl, sMn, sMx, cGive, cRest, cCoin, cT]; rfl)) (show a95 14 = (cGive x1 (cT 1 i a)).2.2.2.2.2.2.1 from by first | rfl | (simp only [fa95 14 (by decide), ea71, fa65 14 (by decide), qm57, kg1.fa 2 rfl, fa61 14 (by decide), kg1.fa 14 rfl, sMn, sMx, cGive, cRest, cCoin, cT]; done) | (simp only [fa95 14 (by decide), ea71, fa65 14 (by decide), qm57, kg1.fa 2 rfl, fa61 14 (by decide), kg1.fa 14 rfl, sMn, sMx, cGive, cRest, cCoin, cT]; rfl)) (fun u hu => match u, hu with | 0, _ => (Eq.trans (show a95 16 = cRow 1 a 0 from by rw [cRow_lt (p := 1) (a := a) (by decide : 0 < 8)]; first | rfl | (simp only [fa95 16 (by decide), fa71 16 (by decide), fa65 16 (by decide), fa61 16 (by decide), kg1.fa 16 rfl, sMn, sMx, cCoin, cT]; done) | (simp only [fa95 16 (by decide), fa71 16 (by decide), fa65 16 (by decide), fa61 16 (by decide), kg1.fa 16 rfl, sMn, sMx, cCoin, cT]; rfl)) (cG_f (c := x1) (T := (cT 1 i a)) (u := 0) (oc107 w93) (oc108 w93))) | 1, _ => (Eq.trans (show a95 17 = cRow 1 a 1 from by rw [cRow_lt (p := 1) (a := a) (by decide : 1 < 8)]; first | rfl | (simp only [fa95 17 (by decide), fa71 17 (by decide), fa65 17 (by decide), fa61 17 (by decide), kg1.fa 17 rfl, sMn, sMx, cCoin, cT]; done) | (simp only [fa95 17 (by decide), fa71 17 (by decide), fa65 17 (by decide), fa61 17 (by decide), kg1.fa 17 rfl, sMn, sMx, cCoin, cT]; rfl)) (cG_f (c := x1) (T := (cT 1 i a)) (u := 1) (oc107 w93) (oc109 w93))) | 2, _ => (Eq.trans (show a95 18 = cRow 1 a 2 from by rw [cRow_lt (p := 1) (a := a) (by decide : 2 < 8)]; first | rfl | (simp only [fa95 18 (by decide), fa71 18 (by decide), fa65 18 (by decide), fa61 18 (by decide), kg1.fa 18 rfl, sMn, sMx, cCoin, cT]; done) | (simp only [fa95 18 (by decide), fa71 18 (by decide), fa65 18 (by decide), fa61 18 (by decide), kg1.fa 18 rfl, sMn, sMx, cCoin, cT]; rfl)) (cG_f (c := x1) (T := (cT 1 i a)) (u := 2) (oc107 w93) (oc110 w93))) | 3, _ => (Eq.trans (show a95 19 = cRow 1 a 3 from by rw [cRow_lt (p := 1) (a := a) (by decide : 3 < 8)]; first | rfl | (simp only [fa95 19 (by decide), fa71 19 (by decide), fa65 19 (by decide), fa61 19 (by decide), kg1.fa 19 rfl, sMn, sMx, cCoin, cT]; done) | (simp only [fa95 19 (by decide), fa71 19 (by decide), fa65 19 (by decide), fa61 19 (by decide), kg1.fa 19 rfl, sMn, sMx, cCoin, cT]; rfl)) (cG_f (c := x1) (T := (cT 1 i a)) (u := 3) (oc107 w93) (oc111 w93))) | 4, _ => (Eq.trans (show a95 20 = cRow 1 a 4 from by rw [cRow_lt (p := 1) (a := a) (by decide : 4 < 8)]; first | rfl | (simp only [fa95 20 (by decide), fa71 20 (by decide), fa65 20 (by decide), fa61 20 (by decide), kg1.fa 20 rfl, sMn, sMx, cCoin, cT]; done) | (simp only [fa95 20 (by decide), fa71 20 (by decide), fa65 20 (by decide), fa61 20 (by decide), kg1.fa 20 rfl, sMn, sMx, cCoin, cT]; rfl)) (cG_f (c := x1) (T := (cT 1 i a)) (u := 4) (oc107 w93) (oc112 w93))) | 5, _ => (Eq.trans (show a95 21 = cRow 1 a 5 from by rw [cRow_lt (p := 1) (a := a) (by decide : 5 < 8)]; first | rfl | (simp only [fa95 21 (by decide), fa71 21 (by decide), fa65 21 (by decide), fa61 21 (by decide), kg1.fa 21 rfl, sMn, sMx, cCoin, cT]; done) | (simp only [fa95 21 (by decide), fa71 21 (by decide), fa65 21 (by decide), fa61 21 (by decide), kg1.fa 21 rfl, sMn, sMx, cCoin, cT]; rfl)) (cG_f (c := x1) (T := (cT 1 i a)) (u := 5) (oc107 w93) (oc113 w93))) | 6, _ => (Eq.trans (show a95 22 = cRow 1 a 6 from by rw [cRow_lt (p := 1) (a := a) (by decide : 6 < 8)]; first | rfl | (simp only [fa95 22 (by decide), fa71 22 (by decide), fa65 22 (by decide), fa61 22 (by decide), kg1.fa 22 rfl, sMn, sMx, cCoin, cT]; done) | (simp only [fa95 22 (by decide), fa71 22 (by decide), fa65 22 (by decide), fa61 22 (by decide), kg1.fa 22 rfl, sMn, sMx, cCoin, cT]; rfl)) (cG_f (c := x1) (T := (cT 1 i a)) (u := 6) (oc107 w93) (oc114 w93))) | 7, _ => (Eq.trans (show a95 23 = (cRow 1 a 7).set x1.toNatClampNeg ((cRow 1 a 7).getD x1.toNatClampNeg 0 + cCoin (cT 1 i a)) from by rw [cRow_lt (p := 1) (a := a) (by decide : 7 < 8)]; first | rfl | (simp only [ea95, fa71 23 (by decide), qm57, kg1.fa 2 rfl, fa65 23 (by decide), fa61 23 (by decide), kg1.fa 23 rfl, sMn, sMx, cCoin, cT]; done) | (simp only [ea95, fa71 23 (by decide), qm57, kg1.fa 2 rfl, fa65 23 (by decide), fa61 23 (by decide), kg1.fa 23 rfl, sMn, sMx, cCoin, cT]; rfl)) (cG_t (c := x1) (T := (cT 1 i a)) (u := 7) (oc115 w93))) | _ + 8, h => absurd h (by omega)) (fun u hu => (cG_f (c := x1) (T := (cT 1 i a)) (oc107 w93) (kj_big hu (oc116 w93))).symm.trans (cRow_ge hu))).trans (show cGive x1 (cT 1 i a) = cPay (i 64) x1 (cT 1 i a) from (if_pos (oc106 c54 efig1_64 hp0.2 w93 z56.2)).symm))⟩)
        exact (oc117 fig1_64.2 w72 w75 w78 w81 w84 w87 w90 w93 z56.1 z56.2).elim
      ·
        subst eg55
        have efig1_64 : (ig1 64).toInt = (i 64).toInt := kg1.ti 64 rfl
        have z96 : ¬ (((0 : Int) ≤ ((a 8).getD (0 : Int32).toNatClampNeg 0).toInt) ∧ (((a 8).getD (0 : Int32).toNatClampNeg 0).toInt < (ig1 64).toInt)) := hg55
        first | refine fo_goS mi_k30 fz30_51_1_54 [] (by rfl) ?_ | refine ft_goS mi_k30 1 54 [] (by rfl) ?_ | refine ko_steps mi_in30 1 _ (54, [(3, .int ((a 9).getD (0 : Int32).toNatClampNeg 0)), (2, .int ((a 8).getD (0 : Int32).toNatClampNeg 0)), (0, .ref 1), (1, .int x1)], [], (0, 0), ks (ku ig1 78 ((a 8).getD (0 : Int32).toNatClampNeg 0)) ag1 qg1 rg1) (by rfl) ?_
        exact ft_ret mi_k30 (by rfl) (hP  _ _ _ _ hJ52 ⟨(oc20 z2), ((cT_eq (p := 1) (i := ku ig1 78 ((a 8).getD (0 : Int32).toNatClampNeg 0)) (a := ag1) (T := cRest (cT 1 i a)) (show ig1 450 = (cRest (cT 1 i a)).1 from by first | rfl | (simp only [q3, sMn, sMx, cGive, cRest, cCoin, cT]; done) | (simp only [q3, sMn, sMx, cGive, cRest, cCoin, cT]; rfl)) (show ag1 8 = (cRest (cT 1 i a)).2.1 from by first | rfl | (simp only [q4, sMn, sMx, cGive, cRest, cCoin, cT]; done) | (simp only [q4, sMn, sMx, cGive, cRest, cCoin, cT]; rfl)) (show ag1 9 = (cRest (cT 1 i a)).2.2.1 from by first | rfl | (simp only [q5, sMn, sMx, cGive, cRest, cCoin, cT]; done) | (simp only [q5, sMn, sMx, cGive, cRest, cCoin, cT]; rfl)) (show ag1 2 = (cRest (cT 1 i a)).2.2.2.1 from by first | rfl | (simp only [kg1.fa 2 rfl, sMn, sMx, cGive, cRest, cCoin, cT]; done) | (simp only [kg1.fa 2 rfl, sMn, sMx, cGive, cRest, cCoin, cT]; rfl)) (cY_pos (y := i 78) (d := (a 8).getD 0 0) (oc119 c51 efig1_78 koc8)) (show ig1 79 = (cRest (cT 1 i a)).2.2.2.2.2.1 from by first | rfl | (simp only [(kg1.fi 79 rfl : ig1 79 = i 79), sMn, sMx, cGive, cRest, cCoin, cT]; done) | (simp only [(kg1.fi 79 rfl : ig1 79 = i 79), sMn, sMx, cGive, cRest, cCoin, cT]; rfl)) (show ag1 14 = (cRest (cT 1 i a)).2.2.2.2.2.2.1 from by first | rfl | (simp only [kg1.fa 14 rfl, sMn, sMx, cGive, cRest, cCoin, cT]; done) | (simp only [kg1.fa 14 rfl, sMn, sMx, cGive, cRest, cCoin, cT]; rfl)) (fun u hu => match u, hu with | 0, _ => (show ag1 16 = cRow 1 a 0 from by rw [cRow_lt (p := 1) (a := a) (by decide : 0 < 8)]; first | rfl | (simp only [kg1.fa 16 rfl, sMn, sMx, cCoin, cT]; done) | (simp only [kg1.fa 16 rfl, sMn, sMx, cCoin, cT]; rfl)) | 1, _ => (show ag1 17 = cRow 1 a 1 from by rw [cRow_lt (p := 1) (a := a) (by decide : 1 < 8)]; first | rfl | (simp only [kg1.fa 17 rfl, sMn, sMx, cCoin, cT]; done) | (simp only [kg1.fa 17 rfl, sMn, sMx, cCoin, cT]; rfl)) | 2, _ => (show ag1 18 = cRow 1 a 2 from by rw [cRow_lt (p := 1) (a := a) (by decide : 2 < 8)]; first | rfl | (simp only [kg1.fa 18 rfl, sMn, sMx, cCoin, cT]; done) | (simp only [kg1.fa 18 rfl, sMn, sMx, cCoin, cT]; rfl)) | 3, _ => (show ag1 19 = cRow 1 a 3 from by rw [cRow_lt (p := 1) (a := a) (by decide : 3 < 8)]; first | rfl | (simp only [kg1.fa 19 rfl, sMn, sMx, cCoin, cT]; done) | (simp only [kg1.fa 19 rfl, sMn, sMx, cCoin, cT]; rfl)) | 4, _ => (show ag1 20 = cRow 1 a 4 from by rw [cRow_lt (p := 1) (a := a) (by decide : 4 < 8)]; first | rfl | (simp only [kg1.fa 20 rfl, sMn, sMx, cCoin, cT]; done) | (simp only [kg1.fa 20 rfl, sMn, sMx, cCoin, cT]; rfl)) | 5, _ => (show ag1 21 = cRow 1 a 5 from by rw [cRow_lt (p := 1) (a := a) (by decide : 5 < 8)]; first | rfl | (simp only [kg1.fa 21 rfl, sMn, sMx, cCoin, cT]; done) | (simp only [kg1.fa 21 rfl, sMn, sMx, cCoin, cT]; rfl)) | 6, _ => (show ag1 22 = cRow 1 a 6 from by rw [cRow_lt (p := 1) (a := a) (by decide : 6 < 8)]; first | rfl | (simp only [kg1.fa 22 rfl, sMn, sMx, cCoin, cT]; done) | (simp only [kg1.fa 22 rfl, sMn, sMx, cCoin, cT]; rfl)) | 7, _ => (show ag1 23 = cRow 1 a 7 from by rw [cRow_lt (p := 1) (a := a) (by decide : 7 < 8)]; first | rfl | (simp only [kg1.fa 23 rfl, sMn, sMx, cCoin, cT]; done) | (simp only [kg1.fa 23 rfl, sMn, sMx, cCoin, cT]; rfl)) | _ + 8, h => absurd h (by omega)) (fun u hu => cRow_ge hu)).trans (show cRest (cT 1 i a) = cPay (i 64) x1 (cT 1 i a) from (if_neg (oc118 efig1_64 z96)).symm))⟩)
end
section
/-! THE LAW AT WORK, PURELY: the class's steps with a stack -/
noncomputable def lPush (s : List Int32 × Int32) (v : Int32) : List Int32 × Int32 := if s.2.toInt ≤ 120 then (s.1.set s.2.toNatClampNeg v, s.2 + 1) else s
noncomputable def lPop (s : List Int32 × Int32) : Int32 × (List Int32 × Int32) := if 1 ≤ s.2.toInt then (s.1.getD (s.2 - 1).toNatClampNeg 0, (s.1, s.2 - 1)) else (0, s)
noncomputable def cJoin (k x y : Int32) : Int32 :=
  if k.toInt = 124 then (if x.toInt ≠ 0 ∨ y.toInt ≠ 0 then 1 else 0)
  else if k.toInt = 38 then (if x.toInt ≠ 0 ∧ y.toInt ≠ 0 then 1 else 0)
  else if k.toInt = 60 then (if x.toInt < y.toInt then 1 else 0)
  else if k.toInt = 61 then (if x.toInt = y.toInt then 1 else 0)
  else if k.toInt = 62 then (if y.toInt < x.toInt then 1 else 0)
  else if k.toInt = 43 then x + y
  else if k.toInt = 45 then x - y
  else if k.toInt = 42 then x * y
  else if k.toInt = 47 then (if y.toInt = 0 then 0 else x / y)
  else if k.toInt = 37 then (if y.toInt = 0 then 0 else x - x / y * y)
  else 0
/-- what n steps at most answer -/
noncomputable def lRun (st wi nm : List Int32) (len : Int32) : Nat → Int32 → (List Int32 × Int32) → Int32
  | 0, _, _ => 0
  | n + 1, p, s =>
    if 0 ≤ p.toInt ∧ p.toInt < len.toInt then
      (if (st.getD p.toNatClampNeg 0).toInt = 0 then lRun st wi nm len n (p + 1) (lPush s (wi.getD p.toNatClampNeg 0))
      else if (st.getD p.toNatClampNeg 0).toInt = 1 then lRun st wi nm len n (p + 1) (lPush s (if 0 ≤ (wi.getD p.toNatClampNeg 0).toInt ∧ (wi.getD p.toNatClampNeg 0).toInt < 6 then nm.getD (wi.getD p.toNatClampNeg 0).toNatClampNeg 0 else 0))
      else if (st.getD p.toNatClampNeg 0).toInt = 2 then (lPop s).1
      else if (st.getD p.toNatClampNeg 0).toInt = 3 then lRun st wi nm len n (if (lPop s).1.toInt = 0 then wi.getD p.toNatClampNeg 0 else p + 1) (lPop s).2
      else if (st.getD p.toNatClampNeg 0).toInt = 33 then lRun st wi nm len n (p + 1) (lPush (lPop s).2 (if (lPop s).1.toInt = 0 then 1 else 0))
      else if (st.getD p.toNatClampNeg 0).toInt = 126 then lRun st wi nm len n (p + 1) (lPush (lPop s).2 (-(lPop s).1))
      else lRun st wi nm len n (p + 1) (lPush (lPop (lPop s).2).2 (cJoin (st.getD p.toNatClampNeg 0) (lPop (lPop s).2).1 (lPop s).1)))
    else 0
section LR
variable {st wi nm : List Int32} {len : Int32} {n : Nat} {p : Int32} {s s1 s2 s3 : List Int32 × Int32} {R v w : Int32}
theorem lRun_out (h : lRun st wi nm len n p s = R) (hp : ¬ (0 ≤ p.toInt ∧ p.toInt < len.toInt)) : R = 0 := by
  cases n with
  | zero => exact h.symm
  | succ n =>
    unfold lRun at h
    rw [if_neg hp] at h
    exact h.symm
theorem lRun_end (h : lRun st wi nm len n p s = R) (hn : n = 0) : R = 0 := by
  subst hn
  exact h.symm
theorem lRun_num {m : Nat} (h : lRun st wi nm len m p s = R) (hm : m = n + 1) (hp : 0 ≤ p.toInt ∧ p.toInt < len.toInt) (hk : (st.getD p.toNatClampNeg 0).toInt = 0) (hw : w = wi.getD p.toNatClampNeg 0) (o : s1 = lPush s w) : lRun st wi nm len n (p + 1) s1 = R := by
  subst hm
  unfold lRun at h
  rw [if_pos hp, if_pos hk] at h
  rw [o, hw]
  exact h
theorem lRun_name {m : Nat} (h : lRun st wi nm len m p s = R) (hm : m = n + 1) (hp : 0 ≤ p.toInt ∧ p.toInt < len.toInt) (hk : (st.getD p.toNatClampNeg 0).toInt = 1) (hw : w = if 0 ≤ (wi.getD p.toNatClampNeg 0).toInt ∧ (wi.getD p.toNatClampNeg 0).toInt < 6 then nm.getD (wi.getD p.toNatClampNeg 0).toNatClampNeg 0 else 0) (o : s1 = lPush s w) : lRun st wi nm len n (p + 1) s1 = R := by
  subst hm
  unfold lRun at h
  rw [if_pos hp, if_neg (by omega), if_pos hk] at h
  rw [o, hw]
  exact h
theorem lRun_ans {m : Nat} (h : lRun st wi nm len m p s = R) (hm : m = n + 1) (hp : 0 ≤ p.toInt ∧ p.toInt < len.toInt) (hk : (st.getD p.toNatClampNeg 0).toInt = 2) (o : (v, s1) = lPop s) : v = R := by
  subst hm
  unfold lRun at h
  rw [if_pos hp, if_neg (by omega), if_neg (by omega), if_pos hk, ← o] at h
  exact h
theorem lRun_skip {m : Nat} {p1 : Int32} (h : lRun st wi nm len m p s = R) (hm : m = n + 1) (hp : 0 ≤ p.toInt ∧ p.toInt < len.toInt) (hk : (st.getD p.toNatClampNeg 0).toInt = 3) (o : (v, s1) = lPop s) (h1 : p1 = if v.toInt = 0 then wi.getD p.toNatClampNeg 0 else p + 1) : lRun st wi nm len n p1 s1 = R := by
  subst hm
  unfold lRun at h
  rw [if_pos hp, if_neg (by omega), if_neg (by omega), if_neg (by omega), if_pos hk, ← o] at h
  rw [h1]
  exact h
theorem lRun_not {m : Nat} (h : lRun st wi nm len m p s = R) (hm : m = n + 1) (hp : 0 ≤ p.toInt ∧ p.toInt < len.toInt) (hk : (st.getD p.toNatClampNeg 0).toInt = 33) (o : (v, s1) = lPop s) (hw : w = if v.toInt = 0 then 1 else 0) (o2 : s2 = lPush s1 w) : lRun st wi nm len n (p + 1) s2 = R := by
  subst hm
  unfold lRun at h
  rw [if_pos hp, if_neg (by omega), if_neg (by omega), if_neg (by omega), if_neg (by omega), if_pos hk, ← o] at h
  rw [o2, hw]
  exact h
theorem lRun_neg {m : Nat} (h : lRun st wi nm len m p s = R) (hm : m = n + 1) (hp : 0 ≤ p.toInt ∧ p.toInt < len.toInt) (hk : (st.getD p.toNatClampNeg 0).toInt = 126) (o : (v, s1) = lPop s) (hw : w = -v) (o2 : s2 = lPush s1 w) : lRun st wi nm len n (p + 1) s2 = R := by
  subst hm
  unfold lRun at h
  rw [if_pos hp, if_neg (by omega), if_neg (by omega), if_neg (by omega), if_neg (by omega), if_neg (by omega), if_pos hk, ← o] at h
  rw [o2, hw]
  exact h
theorem lRun_bin {m : Nat} {y : Int32} (h : lRun st wi nm len m p s = R) (hm : m = n + 1) (hp : 0 ≤ p.toInt ∧ p.toInt < len.toInt) (h0 : (st.getD p.toNatClampNeg 0).toInt ≠ 0) (h1 : (st.getD p.toNatClampNeg 0).toInt ≠ 1) (h2 : (st.getD p.toNatClampNeg 0).toInt ≠ 2) (h3 : (st.getD p.toNatClampNeg 0).toInt ≠ 3) (h4 : (st.getD p.toNatClampNeg 0).toInt ≠ 33) (h5 : (st.getD p.toNatClampNeg 0).toInt ≠ 126) (o : (v, s1) = lPop s) (o2 : (y, s2) = lPop s1) (hw : w = cJoin (st.getD p.toNatClampNeg 0) y v) (o3 : s3 = lPush s2 w) : lRun st wi nm len n (p + 1) s3 = R := by
  subst hm
  unfold lRun at h
  rw [if_pos hp, if_neg h0, if_neg h1, if_neg h2, if_neg h3, if_neg h4, if_neg h5, ← o] at h
  dsimp only at h
  rw [← o2] at h
  rw [o3, hw]
  exact h
end LR
theorem kL_cast {l l1 : List Int32} {j : Nat} {c : Int} (e : l1 = l) (h : (l1.getD j 0).toInt = c) : (l.getD j 0).toInt = c := by subst e; exact h
theorem kL_castn {l l1 : List Int32} {j : Nat} {c : Int} (e : l1 = l) (h : (l1.getD j 0).toInt ≠ c) : (l.getD j 0).toInt ≠ c := by subst e; exact h
theorem kj_left {x x1 : Int} (h : x < 121) (e : x1 = x + 1) : (121 - x).toNat = (121 - x1).toNat + 1 := by omega
theorem kj_left2 {x : Int} (h : x < 121) : (121 - x).toNat = (120 - x).toNat + 1 := by omega
theorem kj_none {x : Int} (h : 121 ≤ x) : (121 - x).toNat = 0 := by omega
noncomputable def cBuyV (told : Int32) (st wi stk : List Int32) (len w pu h c o d : Int32) : Int32 := sMx 0 (sMn 99 (if told.toInt = 0 then 5 * w + h - 2 * o else lRun st wi [w, pu, h, c, o, d] len 121 0 (stk, 0)))
theorem kNames {l : List Int32} {a b c d e f : Int32} (h : l.length = 6) : ((((((l.set (0 : Int32).toNatClampNeg a).set (1 : Int32).toNatClampNeg b).set (2 : Int32).toNatClampNeg c).set (3 : Int32).toNatClampNeg d).set (4 : Int32).toNatClampNeg e).set (5 : Int32).toNatClampNeg f) = [a, b, c, d, e, f] := by
  match l, h with
  | [_, _, _, _, _, _], _ => rfl
end
section
theorem kod0 : (0 : Int32).toInt = 0 := by decide
theorem kod121 : (121 : Int32).toInt = 121 := by decide
theorem kod1 : (1 : Int32).toInt = 1 := by decide
theorem kod6 : (6 : Int32).toInt = 6 := by decide
theorem kod2 : (2 : Int32).toInt = 2 := by decide
theorem kod3 : (3 : Int32).toInt = 3 := by decide
theorem kod5 : (5 : Int32).toInt = 5 := by decide
theorem kod4 : (4 : Int32).toInt = 4 := by decide
theorem od0 {a0 : Int} (h0 : a0 = 0) : (0 : Int) ≤ a0 := oz46 h0
theorem od1 {a0 : Int} (h0 : a0 = 0) : a0 ≤ 121 := oz1033 h0
theorem od2 {a0 a1 : Int} (h0 : a0 ≤ a1) (h1 : a0 = 121) : 121 ≤ a1 := by omega
theorem od3 {a0 a1 a2 : Int} (h0 : a0 < a1) (h1 : a1 = 0) : ¬ (0 ≤ a0 ∧ a0 < a2) := by omega
theorem od4 {a0 a1 a2 : Int} (h0 : a0 ≤ a1) (h1 : a0 = a2) : ¬ (0 ≤ a1 ∧ a1 < a2) := by omega
theorem od5 {a0 a1 : Int} (h0 : a0 ≤ a1) (h1 : a0 = 0) : (0 : Int) ≤ a1 := oz389 h0 h1
theorem od6 {a0 a1 : Int} (h0 : a0 < a1) (h1 : a1 ≤ 121) : a0 < 121 := oz1034 h0 h1
theorem od7 {a0 a1 a2 : Int} (h0 : a0 ≤ a1) (h1 : a0 = 0) (h2 : a2 = 1) : (-2147483648 : Int) ≤ a1 + a2 := oz950 h0 h1 h2
theorem od8 {a0 a1 a2 : Int} (h0 : a0 < a1) (h1 : a1 ≤ 121) (h2 : a2 = 1) : a0 + a2 ≤ 2147483647 := oz1035 h0 h1 h2
theorem od9 {a0 a1 : Int} (h0 : a0 ≤ a1) (h1 : a0 = 121) : ((a1 ≤ 120) ∧ (a1 = (a1 + 1))) ∨ (((121 : Int) ≤ a1) ∧ (a1 = a1)) := by omega
theorem od10 {a0 a1 : Int} (h0 : a0 ≤ a1) (h1 : a0 = 121) : ¬ (a1 ≤ 120) := by omega
theorem od11 {a0 : Int} (h0 : (0 : Int) ≤ a0) : (0 : Int) ≤ a0 := oz3 h0
theorem od12 {a0 a1 : Int} (h0 : a0 < a1) (h1 : a1 = 121) : a0 < 121 := oz912 h0 h1
theorem od13 {a0 a1 : Int} (h0 : (0 : Int) ≤ a0) (h1 : a1 = 1) : (-2147483648 : Int) ≤ a0 + a1 := oz12 h0 h1
theorem od14 {a0 a1 : Int} (h0 : a0 ≤ 121) (h1 : a1 = 1) : a0 + a1 ≤ 2147483647 := oz913 h0 h1
theorem od15 {a0 a1 a2 : Int} (h0 : (0 : Int) ≤ a0) (h1 : a1 = a0 + a2) (h2 : a2 = 1) : (0 : Int) ≤ a1 := oz14 h0 h1 h2
theorem od16 {a0 a1 a2 a3 : Int} (h0 : a0 < a1) (h1 : a2 = a0 + a3) (h2 : a1 = 121) (h3 : a3 = 1) : a2 ≤ 121 := oz914 h0 h1 h2 h3
theorem od17 {a0 a1 a2 a3 : Int} (h0 : a0 < a1) (h1 : a2 = a0 + a3) (h2 : a1 = 121) (h3 : a3 = 1) : ((a0 ≤ 120) ∧ (a2 = (a0 + 1))) ∨ (((121 : Int) ≤ a0) ∧ (a2 = a0)) := by omega
theorem od18 {a0 a1 : Int} (h0 : a0 < a1) (h1 : a1 = 121) : a0 ≤ 120 := by omega
theorem od19 {a0 a1 a2 : Int} (h0 : a0 < a1) (h1 : a1 = 121) (h2 : a2 = 1) : a0 + a2 ≤ 2147483647 := oz1036 h0 h1 h2
theorem od20 {a0 a1 a2 : Int} (h0 : a0 < a1) (h1 : a1 = a2) : a0 < a2 := by omega
theorem od21 {a0 a1 a2 : Int} (h0 : a0 = a1 + a2) (h1 : a2 = 1) : a0 = a1 + 1 := oz169 h0 h1
theorem od22 {a0 : Int} (h0 : a0 = 0) : a0 = 0 := oz236 h0
theorem od23 {a0 a1 a2 : Int} (h0 : a0 = a1 + a2) (h1 : a2 = 1) : (121 - a0) < (121 - a1) := oz1037 h0 h1
theorem od24 {a0 a1 : Int} (h0 : a0 < a1) (h1 : a1 = 121) : (1 : Int) ≤ (121 - a0) := oz1038 h0 h1
theorem od25 {a0 : Int} (h0 : a0 = 1) : a0 = 1 := oz1381 h0
theorem od26 {a0 a1 : Int} (h0 : a0 < a1) (h1 : a1 = 6) : a0 < 6 := oz1039 h0 h1
theorem od27 {a0 a1 a2 : Int} (h0 : a0 < a1) (h1 : a0 = 0) (h2 : a2 = 1) : (-2147483648 : Int) ≤ a1 - a2 := oz1040 h0 h1 h2
theorem od28 {a0 a1 : Int} (h0 : a0 ≤ 121) (h1 : a1 = 1) : a0 - a1 ≤ 2147483647 := oz911 h0 h1
theorem od29 {a0 a1 a2 a3 : Int} (h0 : a0 < a1) (h1 : a2 = a1 - a3) (h2 : a0 = 0) (h3 : a3 = 1) : (0 : Int) ≤ a2 := oz1041 h0 h1 h2 h3
theorem od30 {a0 a1 a2 : Int} (h0 : a0 ≤ 121) (h1 : a1 = a0 - a2) (h2 : a2 = 1) : a1 ≤ 121 := oz1042 h0 h1 h2
theorem od31 {a0 a1 a2 : Int} (h0 : a0 ≤ 121) (h1 : a1 = a0 - a2) (h2 : a2 = 1) : a1 < 121 := oz1043 h0 h1 h2
theorem od32 {a0 a1 a2 a3 : Int} (h0 : a0 < a1) (h1 : a2 = a1 - a3) (h2 : a0 = 0) (h3 : a3 = 1) : (((1 : Int) ≤ a1) ∧ (a2 = (a1 - 1))) ∨ ((a1 ≤ 0) ∧ (a2 = a1)) := by omega
theorem od33 {a0 a1 : Int} (h0 : a0 < a1) (h1 : a0 = 0) : 1 ≤ a1 := by omega
theorem od34 {a0 a1 : Int} (h0 : a0 ≤ a1) (h1 : a1 = 0) : (((1 : Int) ≤ a0) ∧ (a0 = (a0 - 1))) ∨ ((a0 ≤ 0) ∧ (a0 = a0)) := by omega
theorem od35 {a0 a1 : Int} (h0 : a0 ≤ a1) (h1 : a1 = 0) : ¬ (1 ≤ a0) := by omega
theorem od36 {a0 : Int} (h0 : a0 = 2) : a0 = 2 := oz1411 h0
theorem od37 {a0 : Int} (h0 : a0 = 3) : a0 = 3 := oz1421 h0
theorem od38 {a0 : Int} (h0 : a0 = 33) : a0 = 33 := by omega
theorem od39 {a0 : Int} (h0 : a0 = 126) : a0 = 126 := by omega
theorem od40 {a0 a1 : Int} (h0 : a0 ≠ a1) (h1 : a1 = 0) : a0 ≠ 0 := oz295 h0 h1
theorem od41 {a0 : Int} (h0 : ¬ (a0 = 0)) : a0 ≠ 0 := oz1718 h0
theorem od42 {a0 : Int} (h0 : ¬ (a0 = 0)) (h1 : ¬ (a0 = 1)) : a0 ≠ 1 := oz1719 h0 h1
theorem od43 {a0 : Int} (h0 : ¬ (a0 = 0)) (h1 : ¬ (a0 = 1)) (h2 : ¬ (a0 = 2)) : a0 ≠ 2 := oz1720 h0 h1 h2
theorem od44 {a0 : Int} (h0 : ¬ (a0 = 0)) (h1 : ¬ (a0 = 1)) (h2 : ¬ (a0 = 2)) (h3 : ¬ (a0 = 3)) : a0 ≠ 3 := by omega
theorem od45 {a0 : Int} (h0 : ¬ (a0 = 33)) : a0 ≠ 33 := by omega
theorem od46 {a0 : Int} (h0 : ¬ (a0 = 126)) : a0 ≠ 126 := by omega
theorem od47 {a0 : Int} (h0 : a0 ≤ 7) : a0 < 8 := oz1032 h0
theorem od48 {a0 a1 : Int} (h0 : a0 = a1) (h1 : (0 : Int) ≤ a0) (h2 : a1 = 0) : a0 = 0 := by omega
theorem od49 {a0 : Int} (h0 : a0 = 0) : a0 < 6 := oz255 h0
theorem od50 {a0 : Int} (h0 : a0 = 1) : (0 : Int) ≤ a0 := oz246 h0
theorem od51 {a0 : Int} (h0 : a0 = 1) : a0 < 6 := oz247 h0
theorem od52 {a0 : Int} (h0 : a0 = 2) : (0 : Int) ≤ a0 := oz256 h0
theorem od53 {a0 : Int} (h0 : a0 = 2) : a0 < 6 := oz257 h0
theorem od54 {a0 : Int} (h0 : a0 = 3) : (0 : Int) ≤ a0 := oz260 h0
theorem od55 {a0 : Int} (h0 : a0 = 3) : a0 < 6 := oz261 h0
theorem od56 {a0 : Int} (h0 : a0 = 4) : (0 : Int) ≤ a0 := oz262 h0
theorem od57 {a0 : Int} (h0 : a0 = 4) : a0 < 6 := oz263 h0
theorem od58 {a0 : Int} (h0 : a0 = 5) : (0 : Int) ≤ a0 := oz264 h0
theorem od59 {a0 : Int} (h0 : a0 = 5) : a0 < 6 := oz265 h0
theorem od60 {a0 a1 : Int} (h0 : a0 ≠ a1) (h1 : (0 : Int) ≤ a0) (h2 : a1 = 0) : ¬ (a0 = 0) := by omega
noncomputable def yw19_10 : kW := ([645], [13], [], [])
set_option maxRecDepth 100000 in
theorem ke19_10 {i : Nat → Int32} {a : Nat → List Int32} {q : Nat → List Int64} {r : Nat → Nat} (hI : kI i a q) (hr : kr r) (x1 : Int32) : km 1 19 [.ref 10, .int x1] (ks i a q r) (kVN yw19_10 i a q r (fun i1 a1 q1 r1 => ((((i 645).toInt ≤ 120) ∧ ((i1 645).toInt = ((i 645).toInt + 1))) ∨ (((121 : Int) ≤ (i 645).toInt) ∧ ((i1 645).toInt = (i 645).toInt))) ∧ (a1 13, i1 645) = lPush (a 13, i 645) x1)) := by
  have hG := kG_self yw19_10 hI hr
  refine km_ofN (q := (mi_h19, mi_c19)) rfl (by decide) (Nat.le_of_ble_eq_true rfl) ?_
  intro P hP
  have fi_645 : ((0 : Int) ≤ (i 645).toInt) ∧ ((i 645).toInt ≤ 121) := hG.I.1 645
  refine fo_goL mi_k19 fz19_0_3_6 [(0, .ref 10), (1, .int x1)] [.int 121, .int (i 645)] rfl ?_
  refine ft_ifS mi_k19 (decide (121 ≤ (i 645))) 29 9 [] (by rfl) (fun c => ?_) (fun c => ?_)
  ·
    have c1 : (121 : Int32).toInt ≤ (i 645).toInt := kd_le c; clear c
    exact ft_ret mi_k19 (by rfl) (hP  _ _ _ _ hG ⟨(od9 c1 kod121), ((show (a 13, i 645) = (a 13, i 645) from rfl).trans (if_neg (od10 c1 kod121)).symm)⟩)
  ·
    have c2 : (i 645).toInt < (121 : Int32).toInt := kd_leF c; clear c
    refine fo_goS mi_k19 fz19_9_5_18 [.int x1, .int (i 645), .ref 13] rfl ?_
    refine ko_iast3 mi_k19.1 (n := 121) (c := 121) (ax := (0, 0, 0, 0, 0)) (mi_k19.2 _ _ (by rfl)) (by rfl) (ksG13 _ _ _ _) (ksA13 _ _ _ _) (hG.I.2.1 13) rfl (od11 fi_645.1) (od12 c2 kod121) ?_
    intro a3 ea3 fa3
    have hJ3 := kG_a3 hG 13 rfl ea3 fa3 (kd_bd _)
    have s4 : ((i 645) + 1).toInt = (i 645).toInt + (1 : Int32).toInt := kd_add (od13 fi_645.1 kod1) (od14 fi_645.2 kod1)
    have hJ5 := kG_i hJ3 645 rfl (v := ((i 645) + 1)) ⟨(od15 fi_645.1 s4 kod1), (od16 c2 s4 kod121 kod1)⟩
    first | refine fo_goI mi_k19 fz19_19_6_29 [] (ku i 645 ((i 645) + 1)) (by rfl) ?_ | refine ft_go mi_k19 6 29 [(0, .ref 10), (1, .int x1)] [] (ku i 645 ((i 645) + 1)) a3 q r (by rfl) ?_
    exact ft_ret mi_k19 (by rfl) (hP  _ _ _ _ hJ5 ⟨(od17 c2 s4 kod121 kod1), ((show (a3 13, ((i 645) + 1)) = ((a 13).set (i 645).toNatClampNeg x1, i 645 + 1) from by rw [ea3]).trans (if_pos (od18 c2 kod121)).symm)⟩)
noncomputable def yw20_10 : kW := ([645], [], [], [])
set_option maxRecDepth 100000 in
theorem ke20_10 {i : Nat → Int32} {a : Nat → List Int32} {q : Nat → List Int64} {r : Nat → Nat} (hI : kI i a q) (hr : kr r)  : km 1 20 [.ref 10] (ks i a q r) (kVI yw20_10 i a q r (fun v i1 a1 q1 r1 => ((((1 : Int) ≤ (i 645).toInt) ∧ ((i1 645).toInt = ((i 645).toInt - 1))) ∨ (((i 645).toInt ≤ 0) ∧ ((i1 645).toInt = (i 645).toInt))) ∧ (v, (a1 13, i1 645)) = lPop (a 13, i 645))) := by
  have hG := kG_self yw20_10 hI hr
  refine km_ofI (q := (mi_h20, mi_c20)) rfl (by decide) (Nat.le_of_ble_eq_true rfl) ?_
  intro P hP
  have fi_645 : ((0 : Int) ≤ (i 645).toInt) ∧ ((i 645).toInt ≤ 121) := hG.I.1 645
  refine fo_goL mi_k20 fz20_0_2_4 [(0, .ref 10)] [.int (i 645)] rfl ?_
  refine ft_ifS mi_k20 (decide (0 < (i 645))) 9 7 [] (by rfl) (fun c => ?_) (fun c => ?_)
  ·
    have c1 : (0 : Int32).toInt < (i 645).toInt := kd_lt c; clear c
    have s2 : ((i 645) - 1).toInt = (i 645).toInt - (1 : Int32).toInt := kd_sub (od27 c1 kod0 kod1) (od28 fi_645.2 kod1)
    have hJ3 := kG_i hG 645 rfl (v := ((i 645) - 1)) ⟨(od29 c1 s2 kod0 kod1), (od30 fi_645.2 s2 kod1)⟩
    first | refine fo_goI mi_k20 fz20_9_10_27 [.int ((i 645) - 1), .ref 13] (ku i 645 ((i 645) - 1)) (by rfl) ?_ | refine ft_go mi_k20 10 27 [(0, .ref 10)] [.int ((i 645) - 1), .ref 13] (ku i 645 ((i 645) - 1)) a q r (by rfl) ?_
    refine ko_iald3 mi_k20.1 (n := 121) (c := 121) (ax := (0, 0, 0, 0, 0)) (mi_k20.2 _ _ (by rfl)) (by rfl) (ksG13 _ _ _ _) (hJ3.I.2.1 13) rfl (od29 c1 s2 kod0 kod1) (od31 fi_645.2 s2 kod1) ?_
    exact ft_ret mi_k20 (by rfl) (hP ((a 13).getD ((i 645) - 1).toNatClampNeg 0) _ _ _ _ hJ3 ⟨(od32 c1 s2 kod0 kod1), ((show (((a 13).getD ((i 645) - 1).toNatClampNeg 0), (a 13, ((i 645) - 1))) = ((a 13).getD (i 645 - 1).toNatClampNeg 0, (a 13, i 645 - 1)) from rfl).trans (if_pos (od33 c1 kod0)).symm)⟩)
  ·
    have c4 : (i 645).toInt ≤ (0 : Int32).toInt := kd_ltF c; clear c
    refine fo_goS mi_k20 fz20_7_1_8 [.int 0] rfl ?_
    exact ft_ret mi_k20 (by rfl) (hP 0 _ _ _ _ hG ⟨(od34 c4 kod0), ((show ((0 : Int32), (a 13, i 645)) = (0, (a 13, i 645)) from rfl).trans (if_neg (od35 c4 kod0)).symm)⟩)
set_option maxRecDepth 100000 in
theorem ke22 {i : Nat → Int32} {a : Nat → List Int32} {q : Nat → List Int64} {r : Nat → Nat} (hI : kI i a q) (hr : kr r) (x1 : Int32) (x2 : Int32) (x3 : Int32) : km 1 22 [.int x1, .int x2, .int x3] (ks i a q r) (kPI (ks i a q r) (fun v => (True) ∧ v = cJoin x1 x2 x3)) := by
  have hG := kG_self kW0 hI hr
  refine km_ofPI (q := (mi_h22, mi_c22)) rfl (by decide) (Nat.le_of_ble_eq_true rfl) ?_
  intro P hP
  refine ft_goL mi_k22 1 1 [(0, .int x1), (1, .int x2), (2, .int x3)] [.int x1] (by rfl) ?_
  by_cases w1 : x1.toInt = 37
  ·
    refine ft_swx mi_k22 (pc := 1) (v := 37) (t := 177) (kj_eq w1 (by decide) : x1 = 37) (by decide +kernel) ?_
    refine ft_goS mi_k22 1 178 [.int x3] (by rfl) ?_
    refine ft_ifS mi_k22 (x3 != 0) 185 181 [] (by rfl) (fun c => ?_) (fun c => ?_)
    ·
      have c2 : x3.toInt ≠ (0 : Int32).toInt := kd_ne c; clear c
      refine ft_goS mi_k22 2 187 [.int x3, .int x2] (by rfl) ?_
      refine ko_irem mi_k22.1 (ax := (0, 0, 0, 0, 0)) (mi_k22.2 _ _ (by rfl)) (od40 c2 kod0) ?_
      exact ft_ret mi_k22 (by rfl) (hP (x2 - x2 / x3 * x3) ⟨trivial, (show (x2 - x2 / x3 * x3) = cJoin x1 x2 x3 from (by have k0_ : (0 : Int32).toInt = 0 := (by decide); have k6_ : (6 : Int32).toInt = 6 := (by decide); first | (unfold cJoin; rw [if_neg (show ¬ (x1.toInt = 124) by omega), if_neg (show ¬ (x1.toInt = 38) by omega), if_neg (show ¬ (x1.toInt = 60) by omega), if_neg (show ¬ (x1.toInt = 61) by omega), if_neg (show ¬ (x1.toInt = 62) by omega), if_neg (show ¬ (x1.toInt = 43) by omega), if_neg (show ¬ (x1.toInt = 45) by omega), if_neg (show ¬ (x1.toInt = 42) by omega), if_neg (show ¬ (x1.toInt = 47) by omega), if_pos w1]; all_goals first | (split <;> first | rfl | (exfalso; omega)) | rfl) | (unfold cJoin; (repeat' split) <;> first | rfl | (exfalso; omega))))⟩)
    ·
      have c3 : x3.toInt = (0 : Int32).toInt := kd_neF c; clear c
      first | refine ft_goS mi_k22 2 188 [.int 0] (by rfl) ?_
      exact ft_ret mi_k22 (by rfl) (hP 0 ⟨trivial, (show (0 : Int32) = cJoin x1 x2 x3 from (by have k0_ : (0 : Int32).toInt = 0 := (by decide); have k6_ : (6 : Int32).toInt = 6 := (by decide); first | (unfold cJoin; rw [if_neg (show ¬ (x1.toInt = 124) by omega), if_neg (show ¬ (x1.toInt = 38) by omega), if_neg (show ¬ (x1.toInt = 60) by omega), if_neg (show ¬ (x1.toInt = 61) by omega), if_neg (show ¬ (x1.toInt = 62) by omega), if_neg (show ¬ (x1.toInt = 43) by omega), if_neg (show ¬ (x1.toInt = 45) by omega), if_neg (show ¬ (x1.toInt = 42) by omega), if_neg (show ¬ (x1.toInt = 47) by omega), if_pos w1]; all_goals first | (split <;> first | rfl | (exfalso; omega)) | rfl) | (unfold cJoin; (repeat' split) <;> first | rfl | (exfalso; omega))))⟩)
  by_cases w4 : x1.toInt = 38
  ·
    refine ft_swx mi_k22 (pc := 1) (v := 38) (t := 106) (kj_eq w4 (by decide) : x1 = 38) (by decide +kernel) ?_
    refine ft_goS mi_k22 1 107 [.int x2] (by rfl) ?_
    refine ft_ifS mi_k22 (x2 == 0) 118 110 [] (by rfl) (fun c => ?_) (fun c => ?_)
    ·
      have c5 : x2.toInt = (0 : Int32).toInt := kd_eq c; clear c
      first | refine ft_goS mi_k22 1 119 [.int 0] (by rfl) ?_
      exact ft_ret mi_k22 (by rfl) (hP 0 ⟨trivial, (show (0 : Int32) = cJoin x1 x2 x3 from (by have k0_ : (0 : Int32).toInt = 0 := (by decide); have k6_ : (6 : Int32).toInt = 6 := (by decide); first | (unfold cJoin; rw [if_neg (show ¬ (x1.toInt = 124) by omega), if_pos w4]; all_goals first | (split <;> first | rfl | (exfalso; omega)) | rfl) | (unfold cJoin; (repeat' split) <;> first | rfl | (exfalso; omega))))⟩)
    ·
      have c6 : x2.toInt ≠ (0 : Int32).toInt := kd_eqF c; clear c
      refine ft_goS mi_k22 1 111 [.int x3] (by rfl) ?_
      refine ft_ifS mi_k22 (x3 == 0) 118 114 [] (by rfl) (fun c => ?_) (fun c => ?_)
      ·
        have c7 : x3.toInt = (0 : Int32).toInt := kd_eq c; clear c
        first | refine ft_goS mi_k22 1 119 [.int 0] (by rfl) ?_
        exact ft_ret mi_k22 (by rfl) (hP 0 ⟨trivial, (show (0 : Int32) = cJoin x1 x2 x3 from (by have k0_ : (0 : Int32).toInt = 0 := (by decide); have k6_ : (6 : Int32).toInt = 6 := (by decide); first | (unfold cJoin; rw [if_neg (show ¬ (x1.toInt = 124) by omega), if_pos w4]; all_goals first | (split <;> first | rfl | (exfalso; omega)) | rfl) | (unfold cJoin; (repeat' split) <;> first | rfl | (exfalso; omega))))⟩)
      ·
        have c8 : x3.toInt ≠ (0 : Int32).toInt := kd_eqF c; clear c
        first | refine ft_goS mi_k22 2 119 [.int 1] (by rfl) ?_
        exact ft_ret mi_k22 (by rfl) (hP 1 ⟨trivial, (show (1 : Int32) = cJoin x1 x2 x3 from (by have k0_ : (0 : Int32).toInt = 0 := (by decide); have k6_ : (6 : Int32).toInt = 6 := (by decide); first | (unfold cJoin; rw [if_neg (show ¬ (x1.toInt = 124) by omega), if_pos w4]; all_goals first | (split <;> first | rfl | (exfalso; omega)) | rfl) | (unfold cJoin; (repeat' split) <;> first | rfl | (exfalso; omega))))⟩)
  by_cases w9 : x1.toInt = 42
  ·
    refine ft_swx mi_k22 (pc := 1) (v := 42) (t := 161) (kj_eq w9 (by decide) : x1 = 42) (by decide +kernel) ?_
    refine fo_goS mi_k22 fz22_161_3_164 [.int (x2 * x3)] rfl ?_
    exact ft_ret mi_k22 (by rfl) (hP (x2 * x3) ⟨trivial, (show (x2 * x3) = cJoin x1 x2 x3 from (by have k0_ : (0 : Int32).toInt = 0 := (by decide); have k6_ : (6 : Int32).toInt = 6 := (by decide); first | (unfold cJoin; rw [if_neg (show ¬ (x1.toInt = 124) by omega), if_neg w4, if_neg (show ¬ (x1.toInt = 60) by omega), if_neg (show ¬ (x1.toInt = 61) by omega), if_neg (show ¬ (x1.toInt = 62) by omega), if_neg (show ¬ (x1.toInt = 43) by omega), if_neg (show ¬ (x1.toInt = 45) by omega), if_pos w9]; all_goals first | (split <;> first | rfl | (exfalso; omega)) | rfl) | (unfold cJoin; (repeat' split) <;> first | rfl | (exfalso; omega))))⟩)
  by_cases w10 : x1.toInt = 43
  ·
    refine ko_eq (x1 := (1, [(0, .int x1), (1, .int x2), (2, .int x3)], [.int 43], (0, 0), ks i a q r)) (by rw [(kj_eq w10 (by decide) : x1 = 43)]) ?_
    have b11 : ((-2147483648 : Int) ≤ x2.toInt) ∧ (x2.toInt ≤ 2147483647) := kd_bd x2
    have b12 : ((-2147483648 : Int) ≤ x3.toInt) ∧ (x3.toInt ≤ 2147483647) := kd_bd x3
    refine ft_goS mi_k22 4 156 [.int (x2 + x3)] (by rfl) ?_
    exact ft_ret mi_k22 (by rfl) (hP (x2 + x3) ⟨trivial, (show (x2 + x3) = cJoin x1 x2 x3 from (by have k0_ : (0 : Int32).toInt = 0 := (by decide); have k6_ : (6 : Int32).toInt = 6 := (by decide); first | (unfold cJoin; rw [if_neg (show ¬ (x1.toInt = 124) by omega), if_neg w4, if_neg (show ¬ (x1.toInt = 60) by omega), if_neg (show ¬ (x1.toInt = 61) by omega), if_neg (show ¬ (x1.toInt = 62) by omega), if_pos w10]; all_goals first | (split <;> first | rfl | (exfalso; omega)) | rfl) | (unfold cJoin; (repeat' split) <;> first | rfl | (exfalso; omega))))⟩)
  by_cases w13 : x1.toInt = 45
  ·
    refine ko_eq (x1 := (1, [(0, .int x1), (1, .int x2), (2, .int x3)], [.int 45], (0, 0), ks i a q r)) (by rw [(kj_eq w13 (by decide) : x1 = 45)]) ?_
    have b14 : ((-2147483648 : Int) ≤ x2.toInt) ∧ (x2.toInt ≤ 2147483647) := kd_bd x2
    have b15 : ((-2147483648 : Int) ≤ x3.toInt) ∧ (x3.toInt ≤ 2147483647) := kd_bd x3
    refine ft_goS mi_k22 4 160 [.int (x2 - x3)] (by rfl) ?_
    exact ft_ret mi_k22 (by rfl) (hP (x2 - x3) ⟨trivial, (show (x2 - x3) = cJoin x1 x2 x3 from (by have k0_ : (0 : Int32).toInt = 0 := (by decide); have k6_ : (6 : Int32).toInt = 6 := (by decide); first | (unfold cJoin; rw [if_neg (show ¬ (x1.toInt = 124) by omega), if_neg w4, if_neg (show ¬ (x1.toInt = 60) by omega), if_neg (show ¬ (x1.toInt = 61) by omega), if_neg (show ¬ (x1.toInt = 62) by omega), if_neg w10, if_pos w13]; all_goals first | (split <;> first | rfl | (exfalso; omega)) | rfl) | (unfold cJoin; (repeat' split) <;> first | rfl | (exfalso; omega))))⟩)
  by_cases w16 : x1.toInt = 47
  ·
    refine ft_swx mi_k22 (pc := 1) (v := 47) (t := 165) (kj_eq w16 (by decide) : x1 = 47) (by decide +kernel) ?_
    refine ft_goS mi_k22 1 166 [.int x3] (by rfl) ?_
    refine ft_ifS mi_k22 (x3 != 0) 173 169 [] (by rfl) (fun c => ?_) (fun c => ?_)
    ·
      have c17 : x3.toInt ≠ (0 : Int32).toInt := kd_ne c; clear c
      refine ft_goS mi_k22 2 175 [.int x3, .int x2] (by rfl) ?_
      refine ko_idiv mi_k22.1 (ax := (0, 0, 0, 0, 0)) (mi_k22.2 _ _ (by rfl)) (od40 c17 kod0) ?_
      exact ft_ret mi_k22 (by rfl) (hP (x2 / x3) ⟨trivial, (show (x2 / x3) = cJoin x1 x2 x3 from (by have k0_ : (0 : Int32).toInt = 0 := (by decide); have k6_ : (6 : Int32).toInt = 6 := (by decide); first | (unfold cJoin; rw [if_neg (show ¬ (x1.toInt = 124) by omega), if_neg w4, if_neg (show ¬ (x1.toInt = 60) by omega), if_neg (show ¬ (x1.toInt = 61) by omega), if_neg (show ¬ (x1.toInt = 62) by omega), if_neg w10, if_neg w13, if_neg w9, if_pos w16]; all_goals first | (split <;> first | rfl | (exfalso; omega)) | rfl) | (unfold cJoin; (repeat' split) <;> first | rfl | (exfalso; omega))))⟩)
    ·
      have c18 : x3.toInt = (0 : Int32).toInt := kd_neF c; clear c
      first | refine ft_goS mi_k22 2 176 [.int 0] (by rfl) ?_
      exact ft_ret mi_k22 (by rfl) (hP 0 ⟨trivial, (show (0 : Int32) = cJoin x1 x2 x3 from (by have k0_ : (0 : Int32).toInt = 0 := (by decide); have k6_ : (6 : Int32).toInt = 6 := (by decide); first | (unfold cJoin; rw [if_neg (show ¬ (x1.toInt = 124) by omega), if_neg w4, if_neg (show ¬ (x1.toInt = 60) by omega), if_neg (show ¬ (x1.toInt = 61) by omega), if_neg (show ¬ (x1.toInt = 62) by omega), if_neg w10, if_neg w13, if_neg w9, if_pos w16]; all_goals first | (split <;> first | rfl | (exfalso; omega)) | rfl) | (unfold cJoin; (repeat' split) <;> first | rfl | (exfalso; omega))))⟩)
  by_cases w19 : x1.toInt = 60
  ·
    refine ft_swx mi_k22 (pc := 1) (v := 60) (t := 120) (kj_eq w19 (by decide) : x1 = 60) (by decide +kernel) ?_
    refine ft_goS mi_k22 2 122 [.int x3, .int x2] (by rfl) ?_
    refine ft_ifS mi_k22 (decide (x3 ≤ x2)) 129 125 [] (by rfl) (fun c => ?_) (fun c => ?_)
    ·
      have c20 : x3.toInt ≤ x2.toInt := kd_le c; clear c
      first | refine ft_goS mi_k22 1 130 [.int 0] (by rfl) ?_
      exact ft_ret mi_k22 (by rfl) (hP 0 ⟨trivial, (show (0 : Int32) = cJoin x1 x2 x3 from (by have k0_ : (0 : Int32).toInt = 0 := (by decide); have k6_ : (6 : Int32).toInt = 6 := (by decide); first | (unfold cJoin; rw [if_neg (show ¬ (x1.toInt = 124) by omega), if_neg w4, if_pos w19]; all_goals first | (split <;> first | rfl | (exfalso; omega)) | rfl) | (unfold cJoin; (repeat' split) <;> first | rfl | (exfalso; omega))))⟩)
    ·
      have c21 : x2.toInt < x3.toInt := kd_leF c; clear c
      first | refine ft_goS mi_k22 2 130 [.int 1] (by rfl) ?_
      exact ft_ret mi_k22 (by rfl) (hP 1 ⟨trivial, (show (1 : Int32) = cJoin x1 x2 x3 from (by have k0_ : (0 : Int32).toInt = 0 := (by decide); have k6_ : (6 : Int32).toInt = 6 := (by decide); first | (unfold cJoin; rw [if_neg (show ¬ (x1.toInt = 124) by omega), if_neg w4, if_pos w19]; all_goals first | (split <;> first | rfl | (exfalso; omega)) | rfl) | (unfold cJoin; (repeat' split) <;> first | rfl | (exfalso; omega))))⟩)
  by_cases w22 : x1.toInt = 61
  ·
    refine ft_swx mi_k22 (pc := 1) (v := 61) (t := 131) (kj_eq w22 (by decide) : x1 = 61) (by decide +kernel) ?_
    refine ft_goS mi_k22 2 133 [.int x3, .int x2] (by rfl) ?_
    refine ft_ifS mi_k22 (x2 != x3) 140 136 [] (by rfl) (fun c => ?_) (fun c => ?_)
    ·
      have c23 : x2.toInt ≠ x3.toInt := kd_ne c; clear c
      first | refine ft_goS mi_k22 1 141 [.int 0] (by rfl) ?_
      exact ft_ret mi_k22 (by rfl) (hP 0 ⟨trivial, (show (0 : Int32) = cJoin x1 x2 x3 from (by have k0_ : (0 : Int32).toInt = 0 := (by decide); have k6_ : (6 : Int32).toInt = 6 := (by decide); first | (unfold cJoin; rw [if_neg (show ¬ (x1.toInt = 124) by omega), if_neg w4, if_neg w19, if_pos w22]; all_goals first | (split <;> first | rfl | (exfalso; omega)) | rfl) | (unfold cJoin; (repeat' split) <;> first | rfl | (exfalso; omega))))⟩)
    ·
      have c24 : x2.toInt = x3.toInt := kd_neF c; clear c
      first | refine ft_goS mi_k22 2 141 [.int 1] (by rfl) ?_
      exact ft_ret mi_k22 (by rfl) (hP 1 ⟨trivial, (show (1 : Int32) = cJoin x1 x2 x3 from (by have k0_ : (0 : Int32).toInt = 0 := (by decide); have k6_ : (6 : Int32).toInt = 6 := (by decide); first | (unfold cJoin; rw [if_neg (show ¬ (x1.toInt = 124) by omega), if_neg w4, if_neg w19, if_pos w22]; all_goals first | (split <;> first | rfl | (exfalso; omega)) | rfl) | (unfold cJoin; (repeat' split) <;> first | rfl | (exfalso; omega))))⟩)
  by_cases w25 : x1.toInt = 62
  ·
    refine ft_swx mi_k22 (pc := 1) (v := 62) (t := 142) (kj_eq w25 (by decide) : x1 = 62) (by decide +kernel) ?_
    refine ft_goS mi_k22 2 144 [.int x3, .int x2] (by rfl) ?_
    refine ft_ifS mi_k22 (decide (x2 ≤ x3)) 151 147 [] (by rfl) (fun c => ?_) (fun c => ?_)
    ·
      have c26 : x2.toInt ≤ x3.toInt := kd_le c; clear c
      first | refine ft_goS mi_k22 1 152 [.int 0] (by rfl) ?_
      exact ft_ret mi_k22 (by rfl) (hP 0 ⟨trivial, (show (0 : Int32) = cJoin x1 x2 x3 from (by have k0_ : (0 : Int32).toInt = 0 := (by decide); have k6_ : (6 : Int32).toInt = 6 := (by decide); first | (unfold cJoin; rw [if_neg (show ¬ (x1.toInt = 124) by omega), if_neg w4, if_neg w19, if_neg w22, if_pos w25]; all_goals first | (split <;> first | rfl | (exfalso; omega)) | rfl) | (unfold cJoin; (repeat' split) <;> first | rfl | (exfalso; omega))))⟩)
    ·
      have c27 : x3.toInt < x2.toInt := kd_leF c; clear c
      first | refine ft_goS mi_k22 2 152 [.int 1] (by rfl) ?_
      exact ft_ret mi_k22 (by rfl) (hP 1 ⟨trivial, (show (1 : Int32) = cJoin x1 x2 x3 from (by have k0_ : (0 : Int32).toInt = 0 := (by decide); have k6_ : (6 : Int32).toInt = 6 := (by decide); first | (unfold cJoin; rw [if_neg (show ¬ (x1.toInt = 124) by omega), if_neg w4, if_neg w19, if_neg w22, if_pos w25]; all_goals first | (split <;> first | rfl | (exfalso; omega)) | rfl) | (unfold cJoin; (repeat' split) <;> first | rfl | (exfalso; omega))))⟩)
  by_cases w28 : x1.toInt = 124
  ·
    refine ft_swx mi_k22 (pc := 1) (v := 124) (t := 92) (kj_eq w28 (by decide) : x1 = 124) (by decide +kernel) ?_
    refine ft_goS mi_k22 1 93 [.int x2] (by rfl) ?_
    refine ft_ifS mi_k22 (x2 != 0) 100 96 [] (by rfl) (fun c => ?_) (fun c => ?_)
    ·
      have c29 : x2.toInt ≠ (0 : Int32).toInt := kd_ne c; clear c
      first | refine fo_goS mi_k22 fz22_100_2_105 [.int 1] (by rfl) ?_ | refine fo_goS mi_k22 fz22_97_2_105 [.int 1] (by rfl) ?_
      exact ft_ret mi_k22 (by rfl) (hP 1 ⟨trivial, (show (1 : Int32) = cJoin x1 x2 x3 from (by have k0_ : (0 : Int32).toInt = 0 := (by decide); have k6_ : (6 : Int32).toInt = 6 := (by decide); first | (unfold cJoin; rw [if_pos w28]; all_goals first | (split <;> first | rfl | (exfalso; omega)) | rfl) | (unfold cJoin; (repeat' split) <;> first | rfl | (exfalso; omega))))⟩)
    ·
      have c30 : x2.toInt = (0 : Int32).toInt := kd_neF c; clear c
      refine ft_goS mi_k22 1 97 [.int x3] (by rfl) ?_
      refine ft_ifS mi_k22 (x3 == 0) 104 100 [] (by rfl) (fun c => ?_) (fun c => ?_)
      ·
        have c31 : x3.toInt = (0 : Int32).toInt := kd_eq c; clear c
        first | refine ft_goS mi_k22 1 105 [.int 0] (by rfl) ?_
        exact ft_ret mi_k22 (by rfl) (hP 0 ⟨trivial, (show (0 : Int32) = cJoin x1 x2 x3 from (by have k0_ : (0 : Int32).toInt = 0 := (by decide); have k6_ : (6 : Int32).toInt = 6 := (by decide); first | (unfold cJoin; rw [if_pos w28]; all_goals first | (split <;> first | rfl | (exfalso; omega)) | rfl) | (unfold cJoin; (repeat' split) <;> first | rfl | (exfalso; omega))))⟩)
      ·
        have c32 : x3.toInt ≠ (0 : Int32).toInt := kd_eqF c; clear c
        first | refine fo_goS mi_k22 fz22_100_2_105 [.int 1] (by rfl) ?_ | refine fo_goS mi_k22 fz22_97_2_105 [.int 1] (by rfl) ?_
        exact ft_ret mi_k22 (by rfl) (hP 1 ⟨trivial, (show (1 : Int32) = cJoin x1 x2 x3 from (by have k0_ : (0 : Int32).toInt = 0 := (by decide); have k6_ : (6 : Int32).toInt = 6 := (by decide); first | (unfold cJoin; rw [if_pos w28]; all_goals first | (split <;> first | rfl | (exfalso; omega)) | rfl) | (unfold cJoin; (repeat' split) <;> first | rfl | (exfalso; omega))))⟩)
  refine ko_lsw (ls := [(0, .int x1), (1, .int x2), (2, .int x3)]) (r := []) (h := ks i a q r) mi_in22 (v := x1) (i := (.lookupswitch 188 #[(37, 176), (38, 105), (42, 160), (43, 152), (45, 156), (47, 164), (60, 119), (61, 130), (62, 141), (124, 91)], 91, 0, 0, 0, 0, 0)) (by rfl) rfl (by simp only [Op.lookupswitch.offset, if_neg (Ne.symm w1), if_neg (Ne.symm w4), if_neg (Ne.symm w9), if_neg (Ne.symm w10), if_neg (Ne.symm w13), if_neg (Ne.symm w16), if_neg (Ne.symm w19), if_neg (Ne.symm w22), if_neg (Ne.symm w25), if_neg (Ne.symm w28)] <;> rfl) 189 (by rfl) ?_
  refine ft_goS mi_k22 1 190 [.int 0] (by rfl) ?_
  exact ft_ret mi_k22 (by rfl) (hP 0 ⟨trivial, (show (0 : Int32) = cJoin x1 x2 x3 from (by have k0_ : (0 : Int32).toInt = 0 := (by decide); have k6_ : (6 : Int32).toInt = 6 := (by decide); first | (unfold cJoin; rw [if_neg w28, if_neg w4, if_neg w19, if_neg w22, if_neg w25, if_neg w10, if_neg w13, if_neg w9, if_neg w16, if_neg w1]; all_goals first | (split <;> first | rfl | (exfalso; omega)) | rfl) | (unfold cJoin; (repeat' split) <;> first | rfl | (exfalso; omega))))⟩)
noncomputable def yw21_10_24 : kW := ([645], [13], [], [])
noncomputable def yw21_10_24_L9 : kW := ([645], [13], [], [])
set_option maxRecDepth 100000 in
theorem ke21_10_24 {i : Nat → Int32} {a : Nat → List Int32} {q : Nat → List Int64} {r : Nat → Nat} (hI : kI i a q) (hr : kr r)  : km 3 21 [.ref 10, .ref 24] (ks i a q r) (kVI yw21_10_24 i a q r (fun v i1 a1 q1 r1 => (True) ∧ v = lRun (a 11) (a 12) (a 24) (i 643) 121 0 (a 13, 0))) := by
  have hG := kG_self yw21_10_24 hI hr
  refine km_ofI (q := (mi_h21, mi_c21)) rfl (by decide) (Nat.le_of_ble_eq_true rfl) ?_
  intro P hP
  have hJ1 := kG_i hG 645 rfl (v := 0) ⟨(od0 kod0), (od1 kod0)⟩
  first | refine fo_go mi_k21 fz21_0_7_9 [(3, .int 0), (2, .int 0), (0, .ref 10), (1, .ref 24)] [] (ku i 645 0) a q r (by rfl) ?_ | refine ft_goL mi_k21 7 9 [(3, .int 0), (2, .int 0), (0, .ref 10), (1, .ref 24)] [] (by rfl) ?_ | refine ft_go mi_k21 7 9 [(3, .int 0), (2, .int 0), (0, .ref 10), (1, .ref 24)] [] (ku i 645 0) a q r (by rfl) ?_ | refine ko_steps mi_in21 7 _ (9, [(3, .int 0), (2, .int 0), (0, .ref 10), (1, .ref 24)], [], (0, 0), ks (ku i 645 0) a q r) (by rfl) ?_
  have lp2 : ∀ (nz : Nat) (i2 : Nat → Int32) (a2 : Nat → List Int32) (q2 : Nat → List Int64) (r2 : Nat → Nat) (l3_2 : Int32) (l2_2 : Int32), kG yw21_10_24_L9 (ku i 645 0) a q r i2 a2 q2 r2 → (0 : Int) ≤ l3_2.toInt → lRun (a 11) (a 12) (a 24) (i 643) (121 - l3_2.toInt).toNat l2_2 (a2 13, i2 645) = lRun (a 11) (a 12) (a 24) (i 643) 121 0 (a 13, 0) → ((121 - l3_2.toInt)).toNat < nz → ko 3 (mi_h21, mi_c21) P (9, [(3, .int l3_2), (2, .int l2_2), (0, .ref 10), (1, .ref 24)], [], (0, 0), ks i2 a2 q2 r2) := by
    intro nz
    induction nz with
    | zero =>
      intro _ _ _ _ _ _ _ _ _ hm
      exact absurd hm (Nat.not_lt_zero _)
    | succ nz ih2 =>
      intro i2 a2 q2 r2 l3_2 l2_2 hL2 p2_0 O2_0 hm2
      refine fo_goL mi_k21 fz21_9_2_12 [(3, .int l3_2), (2, .int l2_2), (0, .ref 10), (1, .ref 24)] [.int 121, .int l3_2] rfl ?_
      refine ft_ifS mi_k21 (decide (121 ≤ l3_2)) 220 15 [] (by rfl) (fun c => ?_) (fun c => ?_)
      ·
        have c3 : (121 : Int32).toInt ≤ l3_2.toInt := kd_le c; clear c
        have hG4 := kG_call hJ1 hL2 (by decide +kernel)
        refine fo_goS mi_k21 fz21_220_1_221 [.int 0] rfl ?_
        exact ft_ret mi_k21 (by rfl) (hP 0 _ _ _ _ hG4 ⟨trivial, (show (0 : Int32) = lRun (a 11) (a 12) (a 24) (i 643) 121 0 (a 13, 0) from (lRun_end O2_0 (kj_none (od2 c3 kod121))).symm)⟩)
      ·
        have c5 : l3_2.toInt < (121 : Int32).toInt := kd_leF c; clear c
        refine fo_goS mi_k21 fz21_15_1_16 [.int l2_2] rfl ?_
        refine ft_ifS mi_k21 (decide (l2_2 < 0)) 220 19 [] (by rfl) (fun c => ?_) (fun c => ?_)
        ·
          have c6 : l2_2.toInt < (0 : Int32).toInt := kd_lt c; clear c
          have hG7 := kG_call hJ1 hL2 (by decide +kernel)
          refine fo_goS mi_k21 fz21_220_1_221 [.int 0] rfl ?_
          exact ft_ret mi_k21 (by rfl) (hP 0 _ _ _ _ hG7 ⟨trivial, (show (0 : Int32) = lRun (a 11) (a 12) (a 24) (i 643) 121 0 (a 13, 0) from (lRun_out O2_0 (od3 c6 kod0)).symm)⟩)
        ·
          have c8 : (0 : Int32).toInt ≤ l2_2.toInt := kd_ltF c; clear c
          have fi2_643 : ((0 : Int) ≤ (i2 643).toInt) ∧ ((i2 643).toInt ≤ 121) := hL2.I.1 643
          have fi_643 : ((0 : Int) ≤ (i 643).toInt) ∧ ((i 643).toInt ≤ 121) := hJ1.I.1 643
          have efi2_643 : (i2 643).toInt = (i 643).toInt := hL2.ti 643 rfl
          refine fo_goS mi_k21 fz21_19_3_24 [.int (i2 643), .int l2_2] rfl ?_
          refine ft_ifS mi_k21 (decide ((i2 643) ≤ l2_2)) 220 27 [] (by rfl) (fun c => ?_) (fun c => ?_)
          ·
            have c9 : (i2 643).toInt ≤ l2_2.toInt := kd_le c; clear c
            have hG10 := kG_call hJ1 hL2 (by decide +kernel)
            refine fo_goS mi_k21 fz21_220_1_221 [.int 0] rfl ?_
            exact ft_ret mi_k21 (by rfl) (hP 0 _ _ _ _ hG10 ⟨trivial, (show (0 : Int32) = lRun (a 11) (a 12) (a 24) (i 643) 121 0 (a 13, 0) from (lRun_out O2_0 (od4 c9 efi2_643)).symm)⟩)
          ·
            have c11 : l2_2.toInt < (i2 643).toInt := kd_leF c; clear c
            refine fo_goS mi_k21 fz21_27_3_32 [.int l2_2, .ref 11] rfl ?_
            refine ko_iald3 mi_k21.1 (n := 121) (c := 121) (ax := (0, 0, 0, 0, 0)) (mi_k21.2 _ _ (by rfl)) (by rfl) (ksG11 _ _ _ _) (hL2.I.2.1 11) rfl (od5 c8 kod0) (od6 c11 fi2_643.2) ?_
            refine fo_goL mi_k21 fz21_33_4_40 [(4, .int ((a2 11).getD l2_2.toNatClampNeg 0)), (3, .int l3_2), (2, .int l2_2), (0, .ref 10), (1, .ref 24)] [.int l2_2, .ref 12] rfl ?_
            refine ko_iald3 mi_k21.1 (n := 121) (c := 121) (ax := (0, 0, 0, 0, 0)) (mi_k21.2 _ _ (by rfl)) (by rfl) (ksG12 _ _ _ _) (hL2.I.2.1 12) rfl (od5 c8 kod0) (od6 c11 fi2_643.2) ?_
            have s12 : (l2_2 + 1).toInt = l2_2.toInt + (1 : Int32).toInt := kd_add (od7 c8 kod0 kod1) (od8 c11 fi2_643.2 kod1)
            refine fo_goL mi_k21 fz21_41_3_48 [(2, .int (l2_2 + 1)), (5, .int ((a2 12).getD l2_2.toNatClampNeg 0)), (4, .int ((a2 11).getD l2_2.toNatClampNeg 0)), (3, .int l3_2), (0, .ref 10), (1, .ref 24)] [.int ((a2 11).getD l2_2.toNatClampNeg 0)] rfl ?_
            by_cases w13 : ((a2 11).getD l2_2.toNatClampNeg 0).toInt = 0
            ·
              refine ft_swx mi_k21 (pc := 48) (v := 0) (t := 108) (kj_eq w13 (by decide) : ((a2 11).getD l2_2.toNatClampNeg 0) = 0) (by decide +kernel) ?_
              refine fo_goS mi_k21 fz21_108_2_111 [.int ((a2 12).getD l2_2.toNatClampNeg 0), .ref 10] rfl ?_
              refine ko_callN mi_k21.1 (pc := 111) (ls := [(2, .int (l2_2 + 1)), (5, .int ((a2 12).getD l2_2.toNatClampNeg 0)), (4, .int ((a2 11).getD l2_2.toNatClampNeg 0)), (3, .int l3_2), (0, .ref 10), (1, .ref 24)]) (st := [.int ((a2 12).getD l2_2.toNatClampNeg 0), .ref 10]) (h := ks i2 a2 q2 r2) (i := (.invokevirtual 32, 3, 19, 0, 9, 0, 225)) (mi_k21.2 _ _ (by rfl)) (ft_invS mi_pq19 (by rfl)) (cy := mi_c19) mi_pq19 rfl (ke19_10 hL2.I hL2.R ((a2 12).getD l2_2.toNatClampNeg 0)) (by decide) ?_
              intro ig14 ag14 qg14 rg14 kg14 hg14
              have hGg14 := kG_call hL2 kg14 (by decide +kernel)
              obtain ⟨hg14, og14⟩ := hg14
              have s16 : (l3_2 + 1).toInt = l3_2.toInt + (1 : Int32).toInt := kd_add (od13 p2_0 kod1) (od19 c5 kod121 kod1)
              first | refine fo_goL mi_k21 fz21_6_3_9 [(3, .int (l3_2 + 1)), (2, .int (l2_2 + 1)), (5, .int ((a2 12).getD l2_2.toNatClampNeg 0)), (4, .int ((a2 11).getD l2_2.toNatClampNeg 0)), (0, .ref 10), (1, .ref 24)] [] (by rfl) ?_ | refine fo_goL mi_k21 fz21_114_3_9 [(3, .int (l3_2 + 1)), (2, .int (l2_2 + 1)), (5, .int ((a2 12).getD l2_2.toNatClampNeg 0)), (4, .int ((a2 11).getD l2_2.toNatClampNeg 0)), (0, .ref 10), (1, .ref 24)] [] (by rfl) ?_ | refine fo_goL mi_k21 fz21_141_3_9 [(3, .int (l3_2 + 1)), (2, .int (l2_2 + 1)), (5, .int ((a2 12).getD l2_2.toNatClampNeg 0)), (4, .int ((a2 11).getD l2_2.toNatClampNeg 0)), (0, .ref 10), (1, .ref 24)] [] (by rfl) ?_ | refine fo_goL mi_k21 fz21_153_3_9 [(3, .int (l3_2 + 1)), (2, .int (l2_2 + 1)), (5, .int ((a2 12).getD l2_2.toNatClampNeg 0)), (4, .int ((a2 11).getD l2_2.toNatClampNeg 0)), (0, .ref 10), (1, .ref 24)] [] (by rfl) ?_ | refine fo_goL mi_k21 fz21_159_3_9 [(3, .int (l3_2 + 1)), (2, .int (l2_2 + 1)), (5, .int ((a2 12).getD l2_2.toNatClampNeg 0)), (4, .int ((a2 11).getD l2_2.toNatClampNeg 0)), (0, .ref 10), (1, .ref 24)] [] (by rfl) ?_ | refine fo_goL mi_k21 fz21_178_3_9 [(3, .int (l3_2 + 1)), (2, .int (l2_2 + 1)), (5, .int ((a2 12).getD l2_2.toNatClampNeg 0)), (4, .int ((a2 11).getD l2_2.toNatClampNeg 0)), (0, .ref 10), (1, .ref 24)] [] (by rfl) ?_ | refine fo_goL mi_k21 fz21_190_3_9 [(3, .int (l3_2 + 1)), (2, .int (l2_2 + 1)), (5, .int ((a2 12).getD l2_2.toNatClampNeg 0)), (4, .int ((a2 11).getD l2_2.toNatClampNeg 0)), (0, .ref 10), (1, .ref 24)] [] (by rfl) ?_ | refine ft_goL mi_k21 3 9 [(3, .int (l3_2 + 1)), (2, .int (l2_2 + 1)), (5, .int ((a2 12).getD l2_2.toNatClampNeg 0)), (4, .int ((a2 11).getD l2_2.toNatClampNeg 0)), (0, .ref 10), (1, .ref 24)] [] (by rfl) ?_ | refine ko_steps mi_in21 3 _ (9, [(3, .int (l3_2 + 1)), (2, .int (l2_2 + 1)), (5, .int ((a2 12).getD l2_2.toNatClampNeg 0)), (4, .int ((a2 11).getD l2_2.toNatClampNeg 0)), (0, .ref 10), (1, .ref 24)], [], (0, 0), ks ig14 ag14 qg14 rg14) (by rfl) ?_
              refine ko_perm [(3, .int (l3_2 + 1)), (2, .int (l2_2 + 1)), (0, .ref 10), (1, .ref 24)] (List.forall_mem_cons.mpr ⟨(List.Mem.head _), (List.forall_mem_cons.mpr ⟨(List.Mem.tail _ (List.Mem.head _)), (List.forall_mem_cons.mpr ⟨(List.Mem.tail _ (List.Mem.tail _ (List.Mem.tail _ (List.Mem.tail _ (List.Mem.head _))))), (List.forall_mem_cons.mpr ⟨(List.Mem.tail _ (List.Mem.tail _ (List.Mem.tail _ (List.Mem.tail _ (List.Mem.tail _ (List.Mem.head _)))))), (fun _ h => absurd h List.not_mem_nil)⟩)⟩)⟩)⟩) ?_
              exact ih2 _ _ _ _ _ _ hGg14 (od15 p2_0 s16 kod1) (lRun_num O2_0 (kj_left (od12 c5 kod121) (od21 s16 kod1)) ⟨(od5 c8 kod0), (od20 c11 efi2_643)⟩ (kL_cast (hL2.fa 11 rfl) (od22 w13)) (congrArg (fun z : List Int32 => z.getD l2_2.toNatClampNeg 0) (hL2.fa 12 rfl)) og14) (kj_meas (od23 s16 kod1) (od24 c5 kod121) hm2)
            by_cases w17 : ((a2 11).getD l2_2.toNatClampNeg 0).toInt = 1
            ·
              refine ft_swx mi_k21 (pc := 48) (v := 1) (t := 117) (kj_eq w17 (by decide) : ((a2 11).getD l2_2.toNatClampNeg 0) = 1) (by decide +kernel) ?_
              refine fo_goS mi_k21 fz21_117_2_120 [.int ((a2 12).getD l2_2.toNatClampNeg 0), .ref 10] rfl ?_
              refine ft_ifS mi_k21 (decide (((a2 12).getD l2_2.toNatClampNeg 0) < 0)) 137 123 [.ref 10] (by rfl) (fun c => ?_) (fun c => ?_)
              ·
                have c18 : ((a2 12).getD l2_2.toNatClampNeg 0).toInt < (0 : Int32).toInt := kd_lt c; clear c
                first | refine fo_goS mi_k21 fz21_134_1_138 [.int 0, .ref 10] (by rfl) ?_ | refine fo_goS mi_k21 fz21_137_1_138 [.int 0, .ref 10] (by rfl) ?_
                refine ko_callN mi_k21.1 (pc := 138) (ls := [(2, .int (l2_2 + 1)), (5, .int ((a2 12).getD l2_2.toNatClampNeg 0)), (4, .int ((a2 11).getD l2_2.toNatClampNeg 0)), (3, .int l3_2), (0, .ref 10), (1, .ref 24)]) (st := [.int 0, .ref 10]) (h := ks i2 a2 q2 r2) (i := (.invokevirtual 32, 3, 19, 0, 9, 0, 225)) (mi_k21.2 _ _ (by rfl)) (ft_invS mi_pq19 (by rfl)) (cy := mi_c19) mi_pq19 rfl (ke19_10 hL2.I hL2.R 0) (by decide) ?_
                intro ig19 ag19 qg19 rg19 kg19 hg19
                have hGg19 := kG_call hL2 kg19 (by decide +kernel)
                obtain ⟨hg19, og19⟩ := hg19
                have fi2_645 : ((0 : Int) ≤ (i2 645).toInt) ∧ ((i2 645).toInt ≤ 121) := hL2.I.1 645
                have fig19_645 : ((0 : Int) ≤ (ig19 645).toInt) ∧ ((ig19 645).toInt ≤ 121) := hGg19.I.1 645
                have z20 : (((i2 645).toInt ≤ 120) ∧ ((ig19 645).toInt = ((i2 645).toInt + 1))) ∨ (((121 : Int) ≤ (i2 645).toInt) ∧ ((ig19 645).toInt = (i2 645).toInt)) := hg19
                have s21 : (l3_2 + 1).toInt = l3_2.toInt + (1 : Int32).toInt := kd_add (od13 p2_0 kod1) (od19 c5 kod121 kod1)
                first | refine fo_goL mi_k21 fz21_6_3_9 [(3, .int (l3_2 + 1)), (2, .int (l2_2 + 1)), (5, .int ((a2 12).getD l2_2.toNatClampNeg 0)), (4, .int ((a2 11).getD l2_2.toNatClampNeg 0)), (0, .ref 10), (1, .ref 24)] [] (by rfl) ?_ | refine fo_goL mi_k21 fz21_114_3_9 [(3, .int (l3_2 + 1)), (2, .int (l2_2 + 1)), (5, .int ((a2 12).getD l2_2.toNatClampNeg 0)), (4, .int ((a2 11).getD l2_2.toNatClampNeg 0)), (0, .ref 10), (1, .ref 24)] [] (by rfl) ?_ | refine fo_goL mi_k21 fz21_141_3_9 [(3, .int (l3_2 + 1)), (2, .int (l2_2 + 1)), (5, .int ((a2 12).getD l2_2.toNatClampNeg 0)), (4, .int ((a2 11).getD l2_2.toNatClampNeg 0)), (0, .ref 10), (1, .ref 24)] [] (by rfl) ?_ | refine fo_goL mi_k21 fz21_153_3_9 [(3, .int (l3_2 + 1)), (2, .int (l2_2 + 1)), (5, .int ((a2 12).getD l2_2.toNatClampNeg 0)), (4, .int ((a2 11).getD l2_2.toNatClampNeg 0)), (0, .ref 10), (1, .ref 24)] [] (by rfl) ?_ | refine fo_goL mi_k21 fz21_159_3_9 [(3, .int (l3_2 + 1)), (2, .int (l2_2 + 1)), (5, .int ((a2 12).getD l2_2.toNatClampNeg 0)), (4, .int ((a2 11).getD l2_2.toNatClampNeg 0)), (0, .ref 10), (1, .ref 24)] [] (by rfl) ?_ | refine fo_goL mi_k21 fz21_178_3_9 [(3, .int (l3_2 + 1)), (2, .int (l2_2 + 1)), (5, .int ((a2 12).getD l2_2.toNatClampNeg 0)), (4, .int ((a2 11).getD l2_2.toNatClampNeg 0)), (0, .ref 10), (1, .ref 24)] [] (by rfl) ?_ | refine fo_goL mi_k21 fz21_190_3_9 [(3, .int (l3_2 + 1)), (2, .int (l2_2 + 1)), (5, .int ((a2 12).getD l2_2.toNatClampNeg 0)), (4, .int ((a2 11).getD l2_2.toNatClampNeg 0)), (0, .ref 10), (1, .ref 24)] [] (by rfl) ?_ | refine ft_goL mi_k21 3 9 [(3, .int (l3_2 + 1)), (2, .int (l2_2 + 1)), (5, .int ((a2 12).getD l2_2.toNatClampNeg 0)), (4, .int ((a2 11).getD l2_2.toNatClampNeg 0)), (0, .ref 10), (1, .ref 24)] [] (by rfl) ?_ | refine ko_steps mi_in21 3 _ (9, [(3, .int (l3_2 + 1)), (2, .int (l2_2 + 1)), (5, .int ((a2 12).getD l2_2.toNatClampNeg 0)), (4, .int ((a2 11).getD l2_2.toNatClampNeg 0)), (0, .ref 10), (1, .ref 24)], [], (0, 0), ks ig19 ag19 qg19 rg19) (by rfl) ?_
                refine ko_perm [(3, .int (l3_2 + 1)), (2, .int (l2_2 + 1)), (0, .ref 10), (1, .ref 24)] (List.forall_mem_cons.mpr ⟨(List.Mem.head _), (List.forall_mem_cons.mpr ⟨(List.Mem.tail _ (List.Mem.head _)), (List.forall_mem_cons.mpr ⟨(List.Mem.tail _ (List.Mem.tail _ (List.Mem.tail _ (List.Mem.tail _ (List.Mem.head _))))), (List.forall_mem_cons.mpr ⟨(List.Mem.tail _ (List.Mem.tail _ (List.Mem.tail _ (List.Mem.tail _ (List.Mem.tail _ (List.Mem.head _)))))), (fun _ h => absurd h List.not_mem_nil)⟩)⟩)⟩)⟩) ?_
                exact ih2 _ _ _ _ _ _ hGg19 (od15 p2_0 s21 kod1) (lRun_name O2_0 (kj_left (od12 c5 kod121) (od21 s21 kod1)) ⟨(od5 c8 kod0), (od20 c11 efi2_643)⟩ (kL_cast (hL2.fa 11 rfl) (od25 w17)) (by have k0_ : (0 : Int32).toInt = 0 := (by decide); have k6_ : (6 : Int32).toInt = 6 := (by decide); rw [← ((hL2.fa 12 rfl) : a2 12 = a 12), ← ((hL2.fa 24 rfl) : a2 24 = a 24)]; split <;> first | rfl | (exfalso; omega)) og19) (kj_meas (od23 s21 kod1) (od24 c5 kod121) hm2)
              ·
                have c22 : (0 : Int32).toInt ≤ ((a2 12).getD l2_2.toNatClampNeg 0).toInt := kd_ltF c; clear c
                refine fo_goS mi_k21 fz21_123_2_126 [.ref 24, .int ((a2 12).getD l2_2.toNatClampNeg 0), .ref 10] rfl ?_
                refine ko_alen mi_k21.1 (l := a2 24) (ax := (0, 0, 0, 0, 0)) (x := 6) (mi_k21.2 _ _ (by rfl)) (by rfl) (by rfl) (by rw [(hL2.I.2.1 24 : (a2 24).length = _)]; rfl) ?_
                refine ft_ifS mi_k21 (decide (6 ≤ ((a2 12).getD l2_2.toNatClampNeg 0))) 137 130 [.ref 10] (by rfl) (fun c => ?_) (fun c => ?_)
                ·
                  have c23 : (6 : Int32).toInt ≤ ((a2 12).getD l2_2.toNatClampNeg 0).toInt := kd_le c; clear c
                  first | refine fo_goS mi_k21 fz21_134_1_138 [.int 0, .ref 10] (by rfl) ?_ | refine fo_goS mi_k21 fz21_137_1_138 [.int 0, .ref 10] (by rfl) ?_
                  refine ko_callN mi_k21.1 (pc := 138) (ls := [(2, .int (l2_2 + 1)), (5, .int ((a2 12).getD l2_2.toNatClampNeg 0)), (4, .int ((a2 11).getD l2_2.toNatClampNeg 0)), (3, .int l3_2), (0, .ref 10), (1, .ref 24)]) (st := [.int 0, .ref 10]) (h := ks i2 a2 q2 r2) (i := (.invokevirtual 32, 3, 19, 0, 9, 0, 225)) (mi_k21.2 _ _ (by rfl)) (ft_invS mi_pq19 (by rfl)) (cy := mi_c19) mi_pq19 rfl (ke19_10 hL2.I hL2.R 0) (by decide) ?_
                  intro ig24 ag24 qg24 rg24 kg24 hg24
                  have hGg24 := kG_call hL2 kg24 (by decide +kernel)
                  obtain ⟨hg24, og24⟩ := hg24
                  have fi2_645 : ((0 : Int) ≤ (i2 645).toInt) ∧ ((i2 645).toInt ≤ 121) := hL2.I.1 645
                  have fig24_645 : ((0 : Int) ≤ (ig24 645).toInt) ∧ ((ig24 645).toInt ≤ 121) := hGg24.I.1 645
                  have z25 : (((i2 645).toInt ≤ 120) ∧ ((ig24 645).toInt = ((i2 645).toInt + 1))) ∨ (((121 : Int) ≤ (i2 645).toInt) ∧ ((ig24 645).toInt = (i2 645).toInt)) := hg24
                  have s26 : (l3_2 + 1).toInt = l3_2.toInt + (1 : Int32).toInt := kd_add (od13 p2_0 kod1) (od19 c5 kod121 kod1)
                  first | refine fo_goL mi_k21 fz21_6_3_9 [(3, .int (l3_2 + 1)), (2, .int (l2_2 + 1)), (5, .int ((a2 12).getD l2_2.toNatClampNeg 0)), (4, .int ((a2 11).getD l2_2.toNatClampNeg 0)), (0, .ref 10), (1, .ref 24)] [] (by rfl) ?_ | refine fo_goL mi_k21 fz21_114_3_9 [(3, .int (l3_2 + 1)), (2, .int (l2_2 + 1)), (5, .int ((a2 12).getD l2_2.toNatClampNeg 0)), (4, .int ((a2 11).getD l2_2.toNatClampNeg 0)), (0, .ref 10), (1, .ref 24)] [] (by rfl) ?_ | refine fo_goL mi_k21 fz21_141_3_9 [(3, .int (l3_2 + 1)), (2, .int (l2_2 + 1)), (5, .int ((a2 12).getD l2_2.toNatClampNeg 0)), (4, .int ((a2 11).getD l2_2.toNatClampNeg 0)), (0, .ref 10), (1, .ref 24)] [] (by rfl) ?_ | refine fo_goL mi_k21 fz21_153_3_9 [(3, .int (l3_2 + 1)), (2, .int (l2_2 + 1)), (5, .int ((a2 12).getD l2_2.toNatClampNeg 0)), (4, .int ((a2 11).getD l2_2.toNatClampNeg 0)), (0, .ref 10), (1, .ref 24)] [] (by rfl) ?_ | refine fo_goL mi_k21 fz21_159_3_9 [(3, .int (l3_2 + 1)), (2, .int (l2_2 + 1)), (5, .int ((a2 12).getD l2_2.toNatClampNeg 0)), (4, .int ((a2 11).getD l2_2.toNatClampNeg 0)), (0, .ref 10), (1, .ref 24)] [] (by rfl) ?_ | refine fo_goL mi_k21 fz21_178_3_9 [(3, .int (l3_2 + 1)), (2, .int (l2_2 + 1)), (5, .int ((a2 12).getD l2_2.toNatClampNeg 0)), (4, .int ((a2 11).getD l2_2.toNatClampNeg 0)), (0, .ref 10), (1, .ref 24)] [] (by rfl) ?_ | refine fo_goL mi_k21 fz21_190_3_9 [(3, .int (l3_2 + 1)), (2, .int (l2_2 + 1)), (5, .int ((a2 12).getD l2_2.toNatClampNeg 0)), (4, .int ((a2 11).getD l2_2.toNatClampNeg 0)), (0, .ref 10), (1, .ref 24)] [] (by rfl) ?_ | refine ft_goL mi_k21 3 9 [(3, .int (l3_2 + 1)), (2, .int (l2_2 + 1)), (5, .int ((a2 12).getD l2_2.toNatClampNeg 0)), (4, .int ((a2 11).getD l2_2.toNatClampNeg 0)), (0, .ref 10), (1, .ref 24)] [] (by rfl) ?_ | refine ko_steps mi_in21 3 _ (9, [(3, .int (l3_2 + 1)), (2, .int (l2_2 + 1)), (5, .int ((a2 12).getD l2_2.toNatClampNeg 0)), (4, .int ((a2 11).getD l2_2.toNatClampNeg 0)), (0, .ref 10), (1, .ref 24)], [], (0, 0), ks ig24 ag24 qg24 rg24) (by rfl) ?_
                  refine ko_perm [(3, .int (l3_2 + 1)), (2, .int (l2_2 + 1)), (0, .ref 10), (1, .ref 24)] (List.forall_mem_cons.mpr ⟨(List.Mem.head _), (List.forall_mem_cons.mpr ⟨(List.Mem.tail _ (List.Mem.head _)), (List.forall_mem_cons.mpr ⟨(List.Mem.tail _ (List.Mem.tail _ (List.Mem.tail _ (List.Mem.tail _ (List.Mem.head _))))), (List.forall_mem_cons.mpr ⟨(List.Mem.tail _ (List.Mem.tail _ (List.Mem.tail _ (List.Mem.tail _ (List.Mem.tail _ (List.Mem.head _)))))), (fun _ h => absurd h List.not_mem_nil)⟩)⟩)⟩)⟩) ?_
                  exact ih2 _ _ _ _ _ _ hGg24 (od15 p2_0 s26 kod1) (lRun_name O2_0 (kj_left (od12 c5 kod121) (od21 s26 kod1)) ⟨(od5 c8 kod0), (od20 c11 efi2_643)⟩ (kL_cast (hL2.fa 11 rfl) (od25 w17)) (by have k0_ : (0 : Int32).toInt = 0 := (by decide); have k6_ : (6 : Int32).toInt = 6 := (by decide); rw [← ((hL2.fa 12 rfl) : a2 12 = a 12), ← ((hL2.fa 24 rfl) : a2 24 = a 24)]; split <;> first | rfl | (exfalso; omega)) og24) (kj_meas (od23 s26 kod1) (od24 c5 kod121) hm2)
                ·
                  have c27 : ((a2 12).getD l2_2.toNatClampNeg 0).toInt < (6 : Int32).toInt := kd_leF c; clear c
                  refine fo_goS mi_k21 fz21_130_2_133 [.int ((a2 12).getD l2_2.toNatClampNeg 0), .ref 24, .ref 10] rfl ?_
                  refine ko_iald3 mi_k21.1 (n := 6) (c := 6) (ax := (0, 0, 0, 0, 0)) (mi_k21.2 _ _ (by rfl)) (by rfl) (ksG24 _ _ _ _) (hL2.I.2.1 24) rfl (od5 c22 kod0) (od26 c27 kod6) ?_
                  first | refine fo_goS mi_k21 fz21_134_1_138 [.int ((a2 24).getD ((a2 12).getD l2_2.toNatClampNeg 0).toNatClampNeg 0), .ref 10] (by rfl) ?_ | refine fo_goS mi_k21 fz21_137_1_138 [.int ((a2 24).getD ((a2 12).getD l2_2.toNatClampNeg 0).toNatClampNeg 0), .ref 10] (by rfl) ?_
                  refine ko_callN mi_k21.1 (pc := 138) (ls := [(2, .int (l2_2 + 1)), (5, .int ((a2 12).getD l2_2.toNatClampNeg 0)), (4, .int ((a2 11).getD l2_2.toNatClampNeg 0)), (3, .int l3_2), (0, .ref 10), (1, .ref 24)]) (st := [.int ((a2 24).getD ((a2 12).getD l2_2.toNatClampNeg 0).toNatClampNeg 0), .ref 10]) (h := ks i2 a2 q2 r2) (i := (.invokevirtual 32, 3, 19, 0, 9, 0, 225)) (mi_k21.2 _ _ (by rfl)) (ft_invS mi_pq19 (by rfl)) (cy := mi_c19) mi_pq19 rfl (ke19_10 hL2.I hL2.R ((a2 24).getD ((a2 12).getD l2_2.toNatClampNeg 0).toNatClampNeg 0)) (by decide) ?_
                  intro ig28 ag28 qg28 rg28 kg28 hg28
                  have hGg28 := kG_call hL2 kg28 (by decide +kernel)
                  obtain ⟨hg28, og28⟩ := hg28
                  have fi2_645 : ((0 : Int) ≤ (i2 645).toInt) ∧ ((i2 645).toInt ≤ 121) := hL2.I.1 645
                  have fig28_645 : ((0 : Int) ≤ (ig28 645).toInt) ∧ ((ig28 645).toInt ≤ 121) := hGg28.I.1 645
                  have z29 : (((i2 645).toInt ≤ 120) ∧ ((ig28 645).toInt = ((i2 645).toInt + 1))) ∨ (((121 : Int) ≤ (i2 645).toInt) ∧ ((ig28 645).toInt = (i2 645).toInt)) := hg28
                  have s30 : (l3_2 + 1).toInt = l3_2.toInt + (1 : Int32).toInt := kd_add (od13 p2_0 kod1) (od19 c5 kod121 kod1)
                  first | refine fo_goL mi_k21 fz21_6_3_9 [(3, .int (l3_2 + 1)), (2, .int (l2_2 + 1)), (5, .int ((a2 12).getD l2_2.toNatClampNeg 0)), (4, .int ((a2 11).getD l2_2.toNatClampNeg 0)), (0, .ref 10), (1, .ref 24)] [] (by rfl) ?_ | refine fo_goL mi_k21 fz21_114_3_9 [(3, .int (l3_2 + 1)), (2, .int (l2_2 + 1)), (5, .int ((a2 12).getD l2_2.toNatClampNeg 0)), (4, .int ((a2 11).getD l2_2.toNatClampNeg 0)), (0, .ref 10), (1, .ref 24)] [] (by rfl) ?_ | refine fo_goL mi_k21 fz21_141_3_9 [(3, .int (l3_2 + 1)), (2, .int (l2_2 + 1)), (5, .int ((a2 12).getD l2_2.toNatClampNeg 0)), (4, .int ((a2 11).getD l2_2.toNatClampNeg 0)), (0, .ref 10), (1, .ref 24)] [] (by rfl) ?_ | refine fo_goL mi_k21 fz21_153_3_9 [(3, .int (l3_2 + 1)), (2, .int (l2_2 + 1)), (5, .int ((a2 12).getD l2_2.toNatClampNeg 0)), (4, .int ((a2 11).getD l2_2.toNatClampNeg 0)), (0, .ref 10), (1, .ref 24)] [] (by rfl) ?_ | refine fo_goL mi_k21 fz21_159_3_9 [(3, .int (l3_2 + 1)), (2, .int (l2_2 + 1)), (5, .int ((a2 12).getD l2_2.toNatClampNeg 0)), (4, .int ((a2 11).getD l2_2.toNatClampNeg 0)), (0, .ref 10), (1, .ref 24)] [] (by rfl) ?_ | refine fo_goL mi_k21 fz21_178_3_9 [(3, .int (l3_2 + 1)), (2, .int (l2_2 + 1)), (5, .int ((a2 12).getD l2_2.toNatClampNeg 0)), (4, .int ((a2 11).getD l2_2.toNatClampNeg 0)), (0, .ref 10), (1, .ref 24)] [] (by rfl) ?_ | refine fo_goL mi_k21 fz21_190_3_9 [(3, .int (l3_2 + 1)), (2, .int (l2_2 + 1)), (5, .int ((a2 12).getD l2_2.toNatClampNeg 0)), (4, .int ((a2 11).getD l2_2.toNatClampNeg 0)), (0, .ref 10), (1, .ref 24)] [] (by rfl) ?_ | refine ft_goL mi_k21 3 9 [(3, .int (l3_2 + 1)), (2, .int (l2_2 + 1)), (5, .int ((a2 12).getD l2_2.toNatClampNeg 0)), (4, .int ((a2 11).getD l2_2.toNatClampNeg 0)), (0, .ref 10), (1, .ref 24)] [] (by rfl) ?_ | refine ko_steps mi_in21 3 _ (9, [(3, .int (l3_2 + 1)), (2, .int (l2_2 + 1)), (5, .int ((a2 12).getD l2_2.toNatClampNeg 0)), (4, .int ((a2 11).getD l2_2.toNatClampNeg 0)), (0, .ref 10), (1, .ref 24)], [], (0, 0), ks ig28 ag28 qg28 rg28) (by rfl) ?_
                  refine ko_perm [(3, .int (l3_2 + 1)), (2, .int (l2_2 + 1)), (0, .ref 10), (1, .ref 24)] (List.forall_mem_cons.mpr ⟨(List.Mem.head _), (List.forall_mem_cons.mpr ⟨(List.Mem.tail _ (List.Mem.head _)), (List.forall_mem_cons.mpr ⟨(List.Mem.tail _ (List.Mem.tail _ (List.Mem.tail _ (List.Mem.tail _ (List.Mem.head _))))), (List.forall_mem_cons.mpr ⟨(List.Mem.tail _ (List.Mem.tail _ (List.Mem.tail _ (List.Mem.tail _ (List.Mem.tail _ (List.Mem.head _)))))), (fun _ h => absurd h List.not_mem_nil)⟩)⟩)⟩)⟩) ?_
                  exact ih2 _ _ _ _ _ _ hGg28 (od15 p2_0 s30 kod1) (lRun_name O2_0 (kj_left (od12 c5 kod121) (od21 s30 kod1)) ⟨(od5 c8 kod0), (od20 c11 efi2_643)⟩ (kL_cast (hL2.fa 11 rfl) (od25 w17)) (by have k0_ : (0 : Int32).toInt = 0 := (by decide); have k6_ : (6 : Int32).toInt = 6 := (by decide); rw [← ((hL2.fa 12 rfl) : a2 12 = a 12), ← ((hL2.fa 24 rfl) : a2 24 = a 24)]; split <;> first | rfl | (exfalso; omega)) og28) (kj_meas (od23 s30 kod1) (od24 c5 kod121) hm2)
            by_cases w31 : ((a2 11).getD l2_2.toNatClampNeg 0).toInt = 2
            ·
              refine ft_swx mi_k21 (pc := 48) (v := 2) (t := 144) (kj_eq w31 (by decide) : ((a2 11).getD l2_2.toNatClampNeg 0) = 2) (by decide +kernel) ?_
              have hG32 := kG_call hJ1 hL2 (by decide +kernel)
              refine fo_goS mi_k21 fz21_144_1_145 [.ref 10] rfl ?_
              refine ko_callI mi_k21.1 (pc := 145) (ls := [(2, .int (l2_2 + 1)), (5, .int ((a2 12).getD l2_2.toNatClampNeg 0)), (4, .int ((a2 11).getD l2_2.toNatClampNeg 0)), (3, .int l3_2), (0, .ref 10), (1, .ref 24)]) (st := [.ref 10]) (h := ks i2 a2 q2 r2) (i := (.invokevirtual 36, 3, 20, 0, 9, 0, 226)) (mi_k21.2 _ _ (by rfl)) (ft_invS mi_pq20 (by rfl)) (cy := mi_c20) mi_pq20 rfl (ke20_10 hG32.I hG32.R ) (by decide) ?_
              intro vg33 ig33 ag33 qg33 rg33 kg33 hg33
              have hGg33 := kG_call hG32 kg33 (by decide +kernel)
              obtain ⟨hg33, og33⟩ := hg33
              exact ft_ret mi_k21 (by rfl) (hP vg33 _ _ _ _ hGg33 ⟨trivial, (show vg33 = lRun (a 11) (a 12) (a 24) (i 643) 121 0 (a 13, 0) from (lRun_ans (n := (120 - l3_2.toInt).toNat) O2_0 (kj_left2 (od12 c5 kod121)) ⟨(od5 c8 kod0), (od20 c11 efi2_643)⟩ (kL_cast (hL2.fa 11 rfl) (od36 w31)) og33))⟩)
            by_cases w35 : ((a2 11).getD l2_2.toNatClampNeg 0).toInt = 3
            ·
              refine ft_swx mi_k21 (pc := 48) (v := 3) (t := 149) (kj_eq w35 (by decide) : ((a2 11).getD l2_2.toNatClampNeg 0) = 3) (by decide +kernel) ?_
              refine fo_goS mi_k21 fz21_149_1_150 [.ref 10] rfl ?_
              refine ko_callI mi_k21.1 (pc := 150) (ls := [(2, .int (l2_2 + 1)), (5, .int ((a2 12).getD l2_2.toNatClampNeg 0)), (4, .int ((a2 11).getD l2_2.toNatClampNeg 0)), (3, .int l3_2), (0, .ref 10), (1, .ref 24)]) (st := [.ref 10]) (h := ks i2 a2 q2 r2) (i := (.invokevirtual 36, 3, 20, 0, 9, 0, 226)) (mi_k21.2 _ _ (by rfl)) (ft_invS mi_pq20 (by rfl)) (cy := mi_c20) mi_pq20 rfl (ke20_10 hL2.I hL2.R ) (by decide) ?_
              intro vg36 ig36 ag36 qg36 rg36 kg36 hg36
              have hGg36 := kG_call hL2 kg36 (by decide +kernel)
              obtain ⟨hg36, og36⟩ := hg36
              have fi2_645 : ((0 : Int) ≤ (i2 645).toInt) ∧ ((i2 645).toInt ≤ 121) := hL2.I.1 645
              have fig36_645 : ((0 : Int) ≤ (ig36 645).toInt) ∧ ((ig36 645).toInt ≤ 121) := hGg36.I.1 645
              have z37 : (((1 : Int) ≤ (i2 645).toInt) ∧ ((ig36 645).toInt = ((i2 645).toInt - 1))) ∨ (((i2 645).toInt ≤ 0) ∧ ((ig36 645).toInt = (i2 645).toInt)) := hg36
              refine ft_ifS mi_k21 (vg36 != 0) 214 156 [] (by rfl) (fun c => ?_) (fun c => ?_)
              ·
                have c38 : vg36.toInt ≠ (0 : Int32).toInt := kd_ne c; clear c
                have s39 : (l3_2 + 1).toInt = l3_2.toInt + (1 : Int32).toInt := kd_add (od13 p2_0 kod1) (od19 c5 kod121 kod1)
                first | refine fo_goL mi_k21 fz21_7_2_9 [(3, .int (l3_2 + 1)), (2, .int (l2_2 + 1)), (5, .int ((a2 12).getD l2_2.toNatClampNeg 0)), (4, .int ((a2 11).getD l2_2.toNatClampNeg 0)), (0, .ref 10), (1, .ref 24)] [] (by rfl) ?_ | refine fo_goL mi_k21 fz21_214_2_9 [(3, .int (l3_2 + 1)), (2, .int (l2_2 + 1)), (5, .int ((a2 12).getD l2_2.toNatClampNeg 0)), (4, .int ((a2 11).getD l2_2.toNatClampNeg 0)), (0, .ref 10), (1, .ref 24)] [] (by rfl) ?_
                refine ko_perm [(3, .int (l3_2 + 1)), (2, .int (l2_2 + 1)), (0, .ref 10), (1, .ref 24)] (List.forall_mem_cons.mpr ⟨(List.Mem.head _), (List.forall_mem_cons.mpr ⟨(List.Mem.tail _ (List.Mem.head _)), (List.forall_mem_cons.mpr ⟨(List.Mem.tail _ (List.Mem.tail _ (List.Mem.tail _ (List.Mem.tail _ (List.Mem.head _))))), (List.forall_mem_cons.mpr ⟨(List.Mem.tail _ (List.Mem.tail _ (List.Mem.tail _ (List.Mem.tail _ (List.Mem.tail _ (List.Mem.head _)))))), (fun _ h => absurd h List.not_mem_nil)⟩)⟩)⟩)⟩) ?_
                exact ih2 _ _ _ _ _ _ hGg36 (od15 p2_0 s39 kod1) (lRun_skip O2_0 (kj_left (od12 c5 kod121) (od21 s39 kod1)) ⟨(od5 c8 kod0), (od20 c11 efi2_643)⟩ (kL_cast (hL2.fa 11 rfl) (od37 w35)) og36 (by have k0_ : (0 : Int32).toInt = 0 := (by decide); have k6_ : (6 : Int32).toInt = 6 := (by decide); rw [← ((hL2.fa 12 rfl) : a2 12 = a 12)]; split <;> first | rfl | (exfalso; omega))) (kj_meas (od23 s39 kod1) (od24 c5 kod121) hm2)
              ·
                have c40 : vg36.toInt = (0 : Int32).toInt := kd_neF c; clear c
                have s41 : (l3_2 + 1).toInt = l3_2.toInt + (1 : Int32).toInt := kd_add (od13 p2_0 kod1) (od19 c5 kod121 kod1)
                first | refine fo_go mi_k21 fz21_2_5_9 [(3, .int (l3_2 + 1)), (2, .int ((a2 12).getD l2_2.toNatClampNeg 0)), (5, .int ((a2 12).getD l2_2.toNatClampNeg 0)), (4, .int ((a2 11).getD l2_2.toNatClampNeg 0)), (0, .ref 10), (1, .ref 24)] [] ig36 ag36 qg36 rg36 (by rfl) ?_ | refine fo_goL mi_k21 fz21_156_5_9 [(3, .int (l3_2 + 1)), (2, .int ((a2 12).getD l2_2.toNatClampNeg 0)), (5, .int ((a2 12).getD l2_2.toNatClampNeg 0)), (4, .int ((a2 11).getD l2_2.toNatClampNeg 0)), (0, .ref 10), (1, .ref 24)] [] (by rfl) ?_ | refine ft_goL mi_k21 5 9 [(3, .int (l3_2 + 1)), (2, .int ((a2 12).getD l2_2.toNatClampNeg 0)), (5, .int ((a2 12).getD l2_2.toNatClampNeg 0)), (4, .int ((a2 11).getD l2_2.toNatClampNeg 0)), (0, .ref 10), (1, .ref 24)] [] (by rfl) ?_ | refine ft_go mi_k21 5 9 [(3, .int (l3_2 + 1)), (2, .int ((a2 12).getD l2_2.toNatClampNeg 0)), (5, .int ((a2 12).getD l2_2.toNatClampNeg 0)), (4, .int ((a2 11).getD l2_2.toNatClampNeg 0)), (0, .ref 10), (1, .ref 24)] [] ig36 ag36 qg36 rg36 (by rfl) ?_ | refine ko_steps mi_in21 5 _ (9, [(3, .int (l3_2 + 1)), (2, .int ((a2 12).getD l2_2.toNatClampNeg 0)), (5, .int ((a2 12).getD l2_2.toNatClampNeg 0)), (4, .int ((a2 11).getD l2_2.toNatClampNeg 0)), (0, .ref 10), (1, .ref 24)], [], (0, 0), ks ig36 ag36 qg36 rg36) (by rfl) ?_
                refine ko_perm [(3, .int (l3_2 + 1)), (2, .int ((a2 12).getD l2_2.toNatClampNeg 0)), (0, .ref 10), (1, .ref 24)] (List.forall_mem_cons.mpr ⟨(List.Mem.head _), (List.forall_mem_cons.mpr ⟨(List.Mem.tail _ (List.Mem.head _)), (List.forall_mem_cons.mpr ⟨(List.Mem.tail _ (List.Mem.tail _ (List.Mem.tail _ (List.Mem.tail _ (List.Mem.head _))))), (List.forall_mem_cons.mpr ⟨(List.Mem.tail _ (List.Mem.tail _ (List.Mem.tail _ (List.Mem.tail _ (List.Mem.tail _ (List.Mem.head _)))))), (fun _ h => absurd h List.not_mem_nil)⟩)⟩)⟩)⟩) ?_
                exact ih2 _ _ _ _ _ _ hGg36 (od15 p2_0 s41 kod1) (lRun_skip O2_0 (kj_left (od12 c5 kod121) (od21 s41 kod1)) ⟨(od5 c8 kod0), (od20 c11 efi2_643)⟩ (kL_cast (hL2.fa 11 rfl) (od37 w35)) og36 (by have k0_ : (0 : Int32).toInt = 0 := (by decide); have k6_ : (6 : Int32).toInt = 6 := (by decide); rw [← ((hL2.fa 12 rfl) : a2 12 = a 12)]; split <;> first | rfl | (exfalso; omega))) (kj_meas (od23 s41 kod1) (od24 c5 kod121) hm2)
            by_cases w42 : ((a2 11).getD l2_2.toNatClampNeg 0).toInt = 33
            ·
              refine ft_swx mi_k21 (pc := 48) (v := 33) (t := 162) (kj_eq w42 (by decide) : ((a2 11).getD l2_2.toNatClampNeg 0) = 33) (by decide +kernel) ?_
              refine fo_goS mi_k21 fz21_162_2_164 [.ref 10, .ref 10] rfl ?_
              refine ko_callI mi_k21.1 (pc := 164) (ls := [(2, .int (l2_2 + 1)), (5, .int ((a2 12).getD l2_2.toNatClampNeg 0)), (4, .int ((a2 11).getD l2_2.toNatClampNeg 0)), (3, .int l3_2), (0, .ref 10), (1, .ref 24)]) (st := [.ref 10, .ref 10]) (h := ks i2 a2 q2 r2) (i := (.invokevirtual 36, 3, 20, 0, 9, 0, 226)) (mi_k21.2 _ _ (by rfl)) (ft_invS mi_pq20 (by rfl)) (cy := mi_c20) mi_pq20 rfl (ke20_10 hL2.I hL2.R ) (by decide) ?_
              intro vg43 ig43 ag43 qg43 rg43 kg43 hg43
              have hGg43 := kG_call hL2 kg43 (by decide +kernel)
              obtain ⟨hg43, og43⟩ := hg43
              have fi2_645 : ((0 : Int) ≤ (i2 645).toInt) ∧ ((i2 645).toInt ≤ 121) := hL2.I.1 645
              have fig43_645 : ((0 : Int) ≤ (ig43 645).toInt) ∧ ((ig43 645).toInt ≤ 121) := hGg43.I.1 645
              have z44 : (((1 : Int) ≤ (i2 645).toInt) ∧ ((ig43 645).toInt = ((i2 645).toInt - 1))) ∨ (((i2 645).toInt ≤ 0) ∧ ((ig43 645).toInt = (i2 645).toInt)) := hg43
              refine ft_ifS mi_k21 (vg43 != 0) 174 170 [.ref 10] (by rfl) (fun c => ?_) (fun c => ?_)
              ·
                have c45 : vg43.toInt ≠ (0 : Int32).toInt := kd_ne c; clear c
                first | refine fo_goS mi_k21 fz21_171_1_175 [.int 0, .ref 10] (by rfl) ?_ | refine fo_goS mi_k21 fz21_174_1_175 [.int 0, .ref 10] (by rfl) ?_
                refine ko_callN mi_k21.1 (pc := 175) (ls := [(2, .int (l2_2 + 1)), (5, .int ((a2 12).getD l2_2.toNatClampNeg 0)), (4, .int ((a2 11).getD l2_2.toNatClampNeg 0)), (3, .int l3_2), (0, .ref 10), (1, .ref 24)]) (st := [.int 0, .ref 10]) (h := ks ig43 ag43 qg43 rg43) (i := (.invokevirtual 32, 3, 19, 0, 9, 0, 225)) (mi_k21.2 _ _ (by rfl)) (ft_invS mi_pq19 (by rfl)) (cy := mi_c19) mi_pq19 rfl (ke19_10 hGg43.I hGg43.R 0) (by decide) ?_
                intro ig46 ag46 qg46 rg46 kg46 hg46
                have hGg46 := kG_call hGg43 kg46 (by decide +kernel)
                obtain ⟨hg46, og46⟩ := hg46
                have fig46_645 : ((0 : Int) ≤ (ig46 645).toInt) ∧ ((ig46 645).toInt ≤ 121) := hGg46.I.1 645
                have z47 : (((ig43 645).toInt ≤ 120) ∧ ((ig46 645).toInt = ((ig43 645).toInt + 1))) ∨ (((121 : Int) ≤ (ig43 645).toInt) ∧ ((ig46 645).toInt = (ig43 645).toInt)) := hg46
                have s48 : (l3_2 + 1).toInt = l3_2.toInt + (1 : Int32).toInt := kd_add (od13 p2_0 kod1) (od19 c5 kod121 kod1)
                first | refine fo_goL mi_k21 fz21_6_3_9 [(3, .int (l3_2 + 1)), (2, .int (l2_2 + 1)), (5, .int ((a2 12).getD l2_2.toNatClampNeg 0)), (4, .int ((a2 11).getD l2_2.toNatClampNeg 0)), (0, .ref 10), (1, .ref 24)] [] (by rfl) ?_ | refine fo_goL mi_k21 fz21_114_3_9 [(3, .int (l3_2 + 1)), (2, .int (l2_2 + 1)), (5, .int ((a2 12).getD l2_2.toNatClampNeg 0)), (4, .int ((a2 11).getD l2_2.toNatClampNeg 0)), (0, .ref 10), (1, .ref 24)] [] (by rfl) ?_ | refine fo_goL mi_k21 fz21_141_3_9 [(3, .int (l3_2 + 1)), (2, .int (l2_2 + 1)), (5, .int ((a2 12).getD l2_2.toNatClampNeg 0)), (4, .int ((a2 11).getD l2_2.toNatClampNeg 0)), (0, .ref 10), (1, .ref 24)] [] (by rfl) ?_ | refine fo_goL mi_k21 fz21_153_3_9 [(3, .int (l3_2 + 1)), (2, .int (l2_2 + 1)), (5, .int ((a2 12).getD l2_2.toNatClampNeg 0)), (4, .int ((a2 11).getD l2_2.toNatClampNeg 0)), (0, .ref 10), (1, .ref 24)] [] (by rfl) ?_ | refine fo_goL mi_k21 fz21_159_3_9 [(3, .int (l3_2 + 1)), (2, .int (l2_2 + 1)), (5, .int ((a2 12).getD l2_2.toNatClampNeg 0)), (4, .int ((a2 11).getD l2_2.toNatClampNeg 0)), (0, .ref 10), (1, .ref 24)] [] (by rfl) ?_ | refine fo_goL mi_k21 fz21_178_3_9 [(3, .int (l3_2 + 1)), (2, .int (l2_2 + 1)), (5, .int ((a2 12).getD l2_2.toNatClampNeg 0)), (4, .int ((a2 11).getD l2_2.toNatClampNeg 0)), (0, .ref 10), (1, .ref 24)] [] (by rfl) ?_ | refine fo_goL mi_k21 fz21_190_3_9 [(3, .int (l3_2 + 1)), (2, .int (l2_2 + 1)), (5, .int ((a2 12).getD l2_2.toNatClampNeg 0)), (4, .int ((a2 11).getD l2_2.toNatClampNeg 0)), (0, .ref 10), (1, .ref 24)] [] (by rfl) ?_ | refine ft_goL mi_k21 3 9 [(3, .int (l3_2 + 1)), (2, .int (l2_2 + 1)), (5, .int ((a2 12).getD l2_2.toNatClampNeg 0)), (4, .int ((a2 11).getD l2_2.toNatClampNeg 0)), (0, .ref 10), (1, .ref 24)] [] (by rfl) ?_ | refine ko_steps mi_in21 3 _ (9, [(3, .int (l3_2 + 1)), (2, .int (l2_2 + 1)), (5, .int ((a2 12).getD l2_2.toNatClampNeg 0)), (4, .int ((a2 11).getD l2_2.toNatClampNeg 0)), (0, .ref 10), (1, .ref 24)], [], (0, 0), ks ig46 ag46 qg46 rg46) (by rfl) ?_
                refine ko_perm [(3, .int (l3_2 + 1)), (2, .int (l2_2 + 1)), (0, .ref 10), (1, .ref 24)] (List.forall_mem_cons.mpr ⟨(List.Mem.head _), (List.forall_mem_cons.mpr ⟨(List.Mem.tail _ (List.Mem.head _)), (List.forall_mem_cons.mpr ⟨(List.Mem.tail _ (List.Mem.tail _ (List.Mem.tail _ (List.Mem.tail _ (List.Mem.head _))))), (List.forall_mem_cons.mpr ⟨(List.Mem.tail _ (List.Mem.tail _ (List.Mem.tail _ (List.Mem.tail _ (List.Mem.tail _ (List.Mem.head _)))))), (fun _ h => absurd h List.not_mem_nil)⟩)⟩)⟩)⟩) ?_
                exact ih2 _ _ _ _ _ _ hGg46 (od15 p2_0 s48 kod1) (lRun_not O2_0 (kj_left (od12 c5 kod121) (od21 s48 kod1)) ⟨(od5 c8 kod0), (od20 c11 efi2_643)⟩ (kL_cast (hL2.fa 11 rfl) (od38 w42)) og43 (by have k0_ : (0 : Int32).toInt = 0 := (by decide); have k6_ : (6 : Int32).toInt = 6 := (by decide); split <;> first | rfl | (exfalso; omega)) og46) (kj_meas (od23 s48 kod1) (od24 c5 kod121) hm2)
              ·
                have c49 : vg43.toInt = (0 : Int32).toInt := kd_neF c; clear c
                first | refine fo_goS mi_k21 fz21_170_2_175 [.int 1, .ref 10] (by rfl) ?_ | refine fo_goS mi_k21 fz21_167_2_175 [.int 1, .ref 10] (by rfl) ?_
                refine ko_callN mi_k21.1 (pc := 175) (ls := [(2, .int (l2_2 + 1)), (5, .int ((a2 12).getD l2_2.toNatClampNeg 0)), (4, .int ((a2 11).getD l2_2.toNatClampNeg 0)), (3, .int l3_2), (0, .ref 10), (1, .ref 24)]) (st := [.int 1, .ref 10]) (h := ks ig43 ag43 qg43 rg43) (i := (.invokevirtual 32, 3, 19, 0, 9, 0, 225)) (mi_k21.2 _ _ (by rfl)) (ft_invS mi_pq19 (by rfl)) (cy := mi_c19) mi_pq19 rfl (ke19_10 hGg43.I hGg43.R 1) (by decide) ?_
                intro ig50 ag50 qg50 rg50 kg50 hg50
                have hGg50 := kG_call hGg43 kg50 (by decide +kernel)
                obtain ⟨hg50, og50⟩ := hg50
                have fig50_645 : ((0 : Int) ≤ (ig50 645).toInt) ∧ ((ig50 645).toInt ≤ 121) := hGg50.I.1 645
                have z51 : (((ig43 645).toInt ≤ 120) ∧ ((ig50 645).toInt = ((ig43 645).toInt + 1))) ∨ (((121 : Int) ≤ (ig43 645).toInt) ∧ ((ig50 645).toInt = (ig43 645).toInt)) := hg50
                have s52 : (l3_2 + 1).toInt = l3_2.toInt + (1 : Int32).toInt := kd_add (od13 p2_0 kod1) (od19 c5 kod121 kod1)
                first | refine fo_goL mi_k21 fz21_6_3_9 [(3, .int (l3_2 + 1)), (2, .int (l2_2 + 1)), (5, .int ((a2 12).getD l2_2.toNatClampNeg 0)), (4, .int ((a2 11).getD l2_2.toNatClampNeg 0)), (0, .ref 10), (1, .ref 24)] [] (by rfl) ?_ | refine fo_goL mi_k21 fz21_114_3_9 [(3, .int (l3_2 + 1)), (2, .int (l2_2 + 1)), (5, .int ((a2 12).getD l2_2.toNatClampNeg 0)), (4, .int ((a2 11).getD l2_2.toNatClampNeg 0)), (0, .ref 10), (1, .ref 24)] [] (by rfl) ?_ | refine fo_goL mi_k21 fz21_141_3_9 [(3, .int (l3_2 + 1)), (2, .int (l2_2 + 1)), (5, .int ((a2 12).getD l2_2.toNatClampNeg 0)), (4, .int ((a2 11).getD l2_2.toNatClampNeg 0)), (0, .ref 10), (1, .ref 24)] [] (by rfl) ?_ | refine fo_goL mi_k21 fz21_153_3_9 [(3, .int (l3_2 + 1)), (2, .int (l2_2 + 1)), (5, .int ((a2 12).getD l2_2.toNatClampNeg 0)), (4, .int ((a2 11).getD l2_2.toNatClampNeg 0)), (0, .ref 10), (1, .ref 24)] [] (by rfl) ?_ | refine fo_goL mi_k21 fz21_159_3_9 [(3, .int (l3_2 + 1)), (2, .int (l2_2 + 1)), (5, .int ((a2 12).getD l2_2.toNatClampNeg 0)), (4, .int ((a2 11).getD l2_2.toNatClampNeg 0)), (0, .ref 10), (1, .ref 24)] [] (by rfl) ?_ | refine fo_goL mi_k21 fz21_178_3_9 [(3, .int (l3_2 + 1)), (2, .int (l2_2 + 1)), (5, .int ((a2 12).getD l2_2.toNatClampNeg 0)), (4, .int ((a2 11).getD l2_2.toNatClampNeg 0)), (0, .ref 10), (1, .ref 24)] [] (by rfl) ?_ | refine fo_goL mi_k21 fz21_190_3_9 [(3, .int (l3_2 + 1)), (2, .int (l2_2 + 1)), (5, .int ((a2 12).getD l2_2.toNatClampNeg 0)), (4, .int ((a2 11).getD l2_2.toNatClampNeg 0)), (0, .ref 10), (1, .ref 24)] [] (by rfl) ?_ | refine ft_goL mi_k21 3 9 [(3, .int (l3_2 + 1)), (2, .int (l2_2 + 1)), (5, .int ((a2 12).getD l2_2.toNatClampNeg 0)), (4, .int ((a2 11).getD l2_2.toNatClampNeg 0)), (0, .ref 10), (1, .ref 24)] [] (by rfl) ?_ | refine ko_steps mi_in21 3 _ (9, [(3, .int (l3_2 + 1)), (2, .int (l2_2 + 1)), (5, .int ((a2 12).getD l2_2.toNatClampNeg 0)), (4, .int ((a2 11).getD l2_2.toNatClampNeg 0)), (0, .ref 10), (1, .ref 24)], [], (0, 0), ks ig50 ag50 qg50 rg50) (by rfl) ?_
                refine ko_perm [(3, .int (l3_2 + 1)), (2, .int (l2_2 + 1)), (0, .ref 10), (1, .ref 24)] (List.forall_mem_cons.mpr ⟨(List.Mem.head _), (List.forall_mem_cons.mpr ⟨(List.Mem.tail _ (List.Mem.head _)), (List.forall_mem_cons.mpr ⟨(List.Mem.tail _ (List.Mem.tail _ (List.Mem.tail _ (List.Mem.tail _ (List.Mem.head _))))), (List.forall_mem_cons.mpr ⟨(List.Mem.tail _ (List.Mem.tail _ (List.Mem.tail _ (List.Mem.tail _ (List.Mem.tail _ (List.Mem.head _)))))), (fun _ h => absurd h List.not_mem_nil)⟩)⟩)⟩)⟩) ?_
                exact ih2 _ _ _ _ _ _ hGg50 (od15 p2_0 s52 kod1) (lRun_not O2_0 (kj_left (od12 c5 kod121) (od21 s52 kod1)) ⟨(od5 c8 kod0), (od20 c11 efi2_643)⟩ (kL_cast (hL2.fa 11 rfl) (od38 w42)) og43 (by have k0_ : (0 : Int32).toInt = 0 := (by decide); have k6_ : (6 : Int32).toInt = 6 := (by decide); split <;> first | rfl | (exfalso; omega)) og50) (kj_meas (od23 s52 kod1) (od24 c5 kod121) hm2)
            by_cases w53 : ((a2 11).getD l2_2.toNatClampNeg 0).toInt = 126
            ·
              refine ft_swx mi_k21 (pc := 48) (v := 126) (t := 181) (kj_eq w53 (by decide) : ((a2 11).getD l2_2.toNatClampNeg 0) = 126) (by decide +kernel) ?_
              refine fo_goS mi_k21 fz21_181_2_183 [.ref 10, .ref 10] rfl ?_
              refine ko_callI mi_k21.1 (pc := 183) (ls := [(2, .int (l2_2 + 1)), (5, .int ((a2 12).getD l2_2.toNatClampNeg 0)), (4, .int ((a2 11).getD l2_2.toNatClampNeg 0)), (3, .int l3_2), (0, .ref 10), (1, .ref 24)]) (st := [.ref 10, .ref 10]) (h := ks i2 a2 q2 r2) (i := (.invokevirtual 36, 3, 20, 0, 9, 0, 226)) (mi_k21.2 _ _ (by rfl)) (ft_invS mi_pq20 (by rfl)) (cy := mi_c20) mi_pq20 rfl (ke20_10 hL2.I hL2.R ) (by decide) ?_
              intro vg54 ig54 ag54 qg54 rg54 kg54 hg54
              have hGg54 := kG_call hL2 kg54 (by decide +kernel)
              obtain ⟨hg54, og54⟩ := hg54
              refine fo_goS mi_k21 fz21_186_1_187 [.int (-vg54), .ref 10] rfl ?_
              refine ko_callN mi_k21.1 (pc := 187) (ls := [(2, .int (l2_2 + 1)), (5, .int ((a2 12).getD l2_2.toNatClampNeg 0)), (4, .int ((a2 11).getD l2_2.toNatClampNeg 0)), (3, .int l3_2), (0, .ref 10), (1, .ref 24)]) (st := [.int (-vg54), .ref 10]) (h := ks ig54 ag54 qg54 rg54) (i := (.invokevirtual 32, 3, 19, 0, 9, 0, 225)) (mi_k21.2 _ _ (by rfl)) (ft_invS mi_pq19 (by rfl)) (cy := mi_c19) mi_pq19 rfl (ke19_10 hGg54.I hGg54.R (-vg54)) (by decide) ?_
              intro ig56 ag56 qg56 rg56 kg56 hg56
              have hGg56 := kG_call hGg54 kg56 (by decide +kernel)
              obtain ⟨hg56, og56⟩ := hg56
              have s58 : (l3_2 + 1).toInt = l3_2.toInt + (1 : Int32).toInt := kd_add (od13 p2_0 kod1) (od19 c5 kod121 kod1)
              first | refine fo_goL mi_k21 fz21_6_3_9 [(3, .int (l3_2 + 1)), (2, .int (l2_2 + 1)), (5, .int ((a2 12).getD l2_2.toNatClampNeg 0)), (4, .int ((a2 11).getD l2_2.toNatClampNeg 0)), (0, .ref 10), (1, .ref 24)] [] (by rfl) ?_ | refine fo_goL mi_k21 fz21_114_3_9 [(3, .int (l3_2 + 1)), (2, .int (l2_2 + 1)), (5, .int ((a2 12).getD l2_2.toNatClampNeg 0)), (4, .int ((a2 11).getD l2_2.toNatClampNeg 0)), (0, .ref 10), (1, .ref 24)] [] (by rfl) ?_ | refine fo_goL mi_k21 fz21_141_3_9 [(3, .int (l3_2 + 1)), (2, .int (l2_2 + 1)), (5, .int ((a2 12).getD l2_2.toNatClampNeg 0)), (4, .int ((a2 11).getD l2_2.toNatClampNeg 0)), (0, .ref 10), (1, .ref 24)] [] (by rfl) ?_ | refine fo_goL mi_k21 fz21_153_3_9 [(3, .int (l3_2 + 1)), (2, .int (l2_2 + 1)), (5, .int ((a2 12).getD l2_2.toNatClampNeg 0)), (4, .int ((a2 11).getD l2_2.toNatClampNeg 0)), (0, .ref 10), (1, .ref 24)] [] (by rfl) ?_ | refine fo_goL mi_k21 fz21_159_3_9 [(3, .int (l3_2 + 1)), (2, .int (l2_2 + 1)), (5, .int ((a2 12).getD l2_2.toNatClampNeg 0)), (4, .int ((a2 11).getD l2_2.toNatClampNeg 0)), (0, .ref 10), (1, .ref 24)] [] (by rfl) ?_ | refine fo_goL mi_k21 fz21_178_3_9 [(3, .int (l3_2 + 1)), (2, .int (l2_2 + 1)), (5, .int ((a2 12).getD l2_2.toNatClampNeg 0)), (4, .int ((a2 11).getD l2_2.toNatClampNeg 0)), (0, .ref 10), (1, .ref 24)] [] (by rfl) ?_ | refine fo_goL mi_k21 fz21_190_3_9 [(3, .int (l3_2 + 1)), (2, .int (l2_2 + 1)), (5, .int ((a2 12).getD l2_2.toNatClampNeg 0)), (4, .int ((a2 11).getD l2_2.toNatClampNeg 0)), (0, .ref 10), (1, .ref 24)] [] (by rfl) ?_ | refine ft_goL mi_k21 3 9 [(3, .int (l3_2 + 1)), (2, .int (l2_2 + 1)), (5, .int ((a2 12).getD l2_2.toNatClampNeg 0)), (4, .int ((a2 11).getD l2_2.toNatClampNeg 0)), (0, .ref 10), (1, .ref 24)] [] (by rfl) ?_ | refine ko_steps mi_in21 3 _ (9, [(3, .int (l3_2 + 1)), (2, .int (l2_2 + 1)), (5, .int ((a2 12).getD l2_2.toNatClampNeg 0)), (4, .int ((a2 11).getD l2_2.toNatClampNeg 0)), (0, .ref 10), (1, .ref 24)], [], (0, 0), ks ig56 ag56 qg56 rg56) (by rfl) ?_
              refine ko_perm [(3, .int (l3_2 + 1)), (2, .int (l2_2 + 1)), (0, .ref 10), (1, .ref 24)] (List.forall_mem_cons.mpr ⟨(List.Mem.head _), (List.forall_mem_cons.mpr ⟨(List.Mem.tail _ (List.Mem.head _)), (List.forall_mem_cons.mpr ⟨(List.Mem.tail _ (List.Mem.tail _ (List.Mem.tail _ (List.Mem.tail _ (List.Mem.head _))))), (List.forall_mem_cons.mpr ⟨(List.Mem.tail _ (List.Mem.tail _ (List.Mem.tail _ (List.Mem.tail _ (List.Mem.tail _ (List.Mem.head _)))))), (fun _ h => absurd h List.not_mem_nil)⟩)⟩)⟩)⟩) ?_
              exact ih2 _ _ _ _ _ _ hGg56 (od15 p2_0 s58 kod1) (lRun_neg O2_0 (kj_left (od12 c5 kod121) (od21 s58 kod1)) ⟨(od5 c8 kod0), (od20 c11 efi2_643)⟩ (kL_cast (hL2.fa 11 rfl) (od39 w53)) og54 rfl og56) (kj_meas (od23 s58 kod1) (od24 c5 kod121) hm2)
            refine ko_lsw (ls := [(2, .int (l2_2 + 1)), (5, .int ((a2 12).getD l2_2.toNatClampNeg 0)), (4, .int ((a2 11).getD l2_2.toNatClampNeg 0)), (3, .int l3_2), (0, .ref 10), (1, .ref 24)]) (r := []) (h := ks i2 a2 q2 r2) mi_in21 (v := ((a2 11).getD l2_2.toNatClampNeg 0)) (i := (.lookupswitch 145 #[(0, 60), (1, 69), (2, 96), (3, 101), (33, 114), (126, 133)], 60, 0, 0, 0, 0, 0)) (by rfl) rfl (by simp only [Op.lookupswitch.offset, if_neg (Ne.symm w13), if_neg (Ne.symm w17), if_neg (Ne.symm w31), if_neg (Ne.symm w35), if_neg (Ne.symm w42), if_neg (Ne.symm w53)] <;> rfl) 193 (by rfl) ?_
            refine fo_goS mi_k21 fz21_193_1_194 [.ref 10] rfl ?_
            refine ko_callI mi_k21.1 (pc := 194) (ls := [(2, .int (l2_2 + 1)), (5, .int ((a2 12).getD l2_2.toNatClampNeg 0)), (4, .int ((a2 11).getD l2_2.toNatClampNeg 0)), (3, .int l3_2), (0, .ref 10), (1, .ref 24)]) (st := [.ref 10]) (h := ks i2 a2 q2 r2) (i := (.invokevirtual 36, 3, 20, 0, 9, 0, 226)) (mi_k21.2 _ _ (by rfl)) (ft_invS mi_pq20 (by rfl)) (cy := mi_c20) mi_pq20 rfl (ke20_10 hL2.I hL2.R ) (by decide) ?_
            intro vg59 ig59 ag59 qg59 rg59 kg59 hg59
            have hGg59 := kG_call hL2 kg59 (by decide +kernel)
            obtain ⟨hg59, og59⟩ := hg59
            refine fo_goL mi_k21 fz21_197_4_203 [(6, .int vg59), (2, .int (l2_2 + 1)), (5, .int ((a2 12).getD l2_2.toNatClampNeg 0)), (4, .int ((a2 11).getD l2_2.toNatClampNeg 0)), (3, .int l3_2), (0, .ref 10), (1, .ref 24)] [.ref 10, .int ((a2 11).getD l2_2.toNatClampNeg 0), .ref 10] rfl ?_
            refine ko_callI mi_k21.1 (pc := 203) (ls := [(6, .int vg59), (2, .int (l2_2 + 1)), (5, .int ((a2 12).getD l2_2.toNatClampNeg 0)), (4, .int ((a2 11).getD l2_2.toNatClampNeg 0)), (3, .int l3_2), (0, .ref 10), (1, .ref 24)]) (st := [.ref 10, .int ((a2 11).getD l2_2.toNatClampNeg 0), .ref 10]) (h := ks ig59 ag59 qg59 rg59) (i := (.invokevirtual 36, 3, 20, 0, 9, 0, 226)) (mi_k21.2 _ _ (by rfl)) (ft_invS mi_pq20 (by rfl)) (cy := mi_c20) mi_pq20 rfl (ke20_10 hGg59.I hGg59.R ) (by decide) ?_
            intro vg61 ig61 ag61 qg61 rg61 kg61 hg61
            have hGg61 := kG_call hGg59 kg61 (by decide +kernel)
            obtain ⟨hg61, og61⟩ := hg61
            refine fo_goS mi_k21 fz21_206_1_208 [.int vg59, .int vg61, .int ((a2 11).getD l2_2.toNatClampNeg 0), .ref 10] rfl ?_
            refine ko_callPI mi_k21.1 (pc := 208) (ls := [(6, .int vg59), (2, .int (l2_2 + 1)), (5, .int ((a2 12).getD l2_2.toNatClampNeg 0)), (4, .int ((a2 11).getD l2_2.toNatClampNeg 0)), (3, .int l3_2), (0, .ref 10), (1, .ref 24)]) (st := [.int vg59, .int vg61, .int ((a2 11).getD l2_2.toNatClampNeg 0), .ref 10]) (h := ks ig61 ag61 qg61 rg61) (i := (.invokestatic 40, 3, 22, 0, 9, 0, 227)) (mi_k21.2 _ _ (by rfl)) (ft_invS mi_pq22 (by rfl)) (cy := mi_c22) mi_pq22 rfl (ke22 hGg61.I hGg61.R ((a2 11).getD l2_2.toNatClampNeg 0) vg61 vg59) (by decide) ?_
            intro vg63 hg63
            obtain ⟨hg63, og63⟩ := hg63
            have q64 : vg63 = cJoin ((a2 11).getD l2_2.toNatClampNeg 0) vg61 vg59 := og63
            refine ko_callN mi_k21.1 (pc := 211) (ls := [(6, .int vg59), (2, .int (l2_2 + 1)), (5, .int ((a2 12).getD l2_2.toNatClampNeg 0)), (4, .int ((a2 11).getD l2_2.toNatClampNeg 0)), (3, .int l3_2), (0, .ref 10), (1, .ref 24)]) (st := [.int vg63, .ref 10]) (h := ks ig61 ag61 qg61 rg61) (i := (.invokevirtual 32, 3, 19, 0, 9, 0, 225)) (mi_k21.2 _ _ (by rfl)) (ft_invS mi_pq19 (by rfl)) (cy := mi_c19) mi_pq19 rfl (ke19_10 hGg61.I hGg61.R vg63) (by decide) ?_
            intro ig65 ag65 qg65 rg65 kg65 hg65
            have hGg65 := kG_call hGg61 kg65 (by decide +kernel)
            obtain ⟨hg65, og65⟩ := hg65
            have s67 : (l3_2 + 1).toInt = l3_2.toInt + (1 : Int32).toInt := kd_add (od13 p2_0 kod1) (od19 c5 kod121 kod1)
            first | refine fo_goL mi_k21 fz21_7_2_9 [(3, .int (l3_2 + 1)), (6, .int vg59), (2, .int (l2_2 + 1)), (5, .int ((a2 12).getD l2_2.toNatClampNeg 0)), (4, .int ((a2 11).getD l2_2.toNatClampNeg 0)), (0, .ref 10), (1, .ref 24)] [] (by rfl) ?_ | refine fo_goL mi_k21 fz21_214_2_9 [(3, .int (l3_2 + 1)), (6, .int vg59), (2, .int (l2_2 + 1)), (5, .int ((a2 12).getD l2_2.toNatClampNeg 0)), (4, .int ((a2 11).getD l2_2.toNatClampNeg 0)), (0, .ref 10), (1, .ref 24)] [] (by rfl) ?_
            refine ko_perm [(3, .int (l3_2 + 1)), (2, .int (l2_2 + 1)), (0, .ref 10), (1, .ref 24)] (List.forall_mem_cons.mpr ⟨(List.Mem.head _), (List.forall_mem_cons.mpr ⟨(List.Mem.tail _ (List.Mem.tail _ (List.Mem.head _))), (List.forall_mem_cons.mpr ⟨(List.Mem.tail _ (List.Mem.tail _ (List.Mem.tail _ (List.Mem.tail _ (List.Mem.tail _ (List.Mem.head _)))))), (List.forall_mem_cons.mpr ⟨(List.Mem.tail _ (List.Mem.tail _ (List.Mem.tail _ (List.Mem.tail _ (List.Mem.tail _ (List.Mem.tail _ (List.Mem.head _))))))), (fun _ h => absurd h List.not_mem_nil)⟩)⟩)⟩)⟩) ?_
            exact ih2 _ _ _ _ _ _ hGg65 (od15 p2_0 s67 kod1) (lRun_bin O2_0 (kj_left (od12 c5 kod121) (od21 s67 kod1)) ⟨(od5 c8 kod0), (od20 c11 efi2_643)⟩ (kL_castn (hL2.fa 11 rfl) (od41 w13)) (kL_castn (hL2.fa 11 rfl) (od42 w13 w17)) (kL_castn (hL2.fa 11 rfl) (od43 w13 w17 w31)) (kL_castn (hL2.fa 11 rfl) (od44 w13 w17 w31 w35)) (kL_castn (hL2.fa 11 rfl) (od45 w42)) (kL_castn (hL2.fa 11 rfl) (od46 w53)) og59 og61 (og63.trans (congrArg (fun z : List Int32 => cJoin (z.getD l2_2.toNatClampNeg 0) _ _) (hL2.fa 11 rfl))) og65) (kj_meas (od23 s67 kod1) (od24 c5 kod121) hm2)
  exact lp2 _ _ _ _ _ _ _ (kG_self _ hJ1.I hJ1.R) (od0 kod0) (by rw [kod0]; rfl) (Nat.lt_succ_self _)
noncomputable def yw19_100 : kW := ([6405], [103], [], [])
set_option maxRecDepth 100000 in
theorem ke19_100 {i : Nat → Int32} {a : Nat → List Int32} {q : Nat → List Int64} {r : Nat → Nat} (hI : kI i a q) (hr : kr r) (x1 : Int32) : km 1 19 [.ref 100, .int x1] (ks i a q r) (kVN yw19_100 i a q r (fun i1 a1 q1 r1 => ((((i 6405).toInt ≤ 120) ∧ ((i1 6405).toInt = ((i 6405).toInt + 1))) ∨ (((121 : Int) ≤ (i 6405).toInt) ∧ ((i1 6405).toInt = (i 6405).toInt))) ∧ (a1 103, i1 6405) = lPush (a 103, i 6405) x1)) := by
  have hG := kG_self yw19_100 hI hr
  refine km_ofN (q := (mi_h19, mi_c19)) rfl (by decide) (Nat.le_of_ble_eq_true rfl) ?_
  intro P hP
  have fi_6405 : ((0 : Int) ≤ (i 6405).toInt) ∧ ((i 6405).toInt ≤ 121) := hG.I.1 6405
  refine fo_goL mi_k19 fz19_0_3_6 [(0, .ref 100), (1, .int x1)] [.int 121, .int (i 6405)] rfl ?_
  refine ft_ifS mi_k19 (decide (121 ≤ (i 6405))) 29 9 [] (by rfl) (fun c => ?_) (fun c => ?_)
  ·
    have c1 : (121 : Int32).toInt ≤ (i 6405).toInt := kd_le c; clear c
    exact ft_ret mi_k19 (by rfl) (hP  _ _ _ _ hG ⟨(od9 c1 kod121), ((show (a 103, i 6405) = (a 103, i 6405) from rfl).trans (if_neg (od10 c1 kod121)).symm)⟩)
  ·
    have c2 : (i 6405).toInt < (121 : Int32).toInt := kd_leF c; clear c
    refine fo_goS mi_k19 fz19_9_5_18 [.int x1, .int (i 6405), .ref 103] rfl ?_
    refine ko_iast3 mi_k19.1 (n := 121) (c := 121) (ax := (0, 0, 0, 0, 0)) (mi_k19.2 _ _ (by rfl)) (by rfl) (ksG103 _ _ _ _) (ksA103 _ _ _ _) (hG.I.2.1 103) rfl (od11 fi_6405.1) (od12 c2 kod121) ?_
    intro a3 ea3 fa3
    have hJ3 := kG_a3 hG 103 rfl ea3 fa3 (kd_bd _)
    have s4 : ((i 6405) + 1).toInt = (i 6405).toInt + (1 : Int32).toInt := kd_add (od13 fi_6405.1 kod1) (od14 fi_6405.2 kod1)
    have hJ5 := kG_i hJ3 6405 rfl (v := ((i 6405) + 1)) ⟨(od15 fi_6405.1 s4 kod1), (od16 c2 s4 kod121 kod1)⟩
    first | refine fo_goI mi_k19 fz19_19_6_29 [] (ku i 6405 ((i 6405) + 1)) (by rfl) ?_ | refine ft_go mi_k19 6 29 [(0, .ref 100), (1, .int x1)] [] (ku i 6405 ((i 6405) + 1)) a3 q r (by rfl) ?_
    exact ft_ret mi_k19 (by rfl) (hP  _ _ _ _ hJ5 ⟨(od17 c2 s4 kod121 kod1), ((show (a3 103, ((i 6405) + 1)) = ((a 103).set (i 6405).toNatClampNeg x1, i 6405 + 1) from by rw [ea3]).trans (if_pos (od18 c2 kod121)).symm)⟩)
noncomputable def yw20_100 : kW := ([6405], [], [], [])
set_option maxRecDepth 100000 in
theorem ke20_100 {i : Nat → Int32} {a : Nat → List Int32} {q : Nat → List Int64} {r : Nat → Nat} (hI : kI i a q) (hr : kr r)  : km 1 20 [.ref 100] (ks i a q r) (kVI yw20_100 i a q r (fun v i1 a1 q1 r1 => ((((1 : Int) ≤ (i 6405).toInt) ∧ ((i1 6405).toInt = ((i 6405).toInt - 1))) ∨ (((i 6405).toInt ≤ 0) ∧ ((i1 6405).toInt = (i 6405).toInt))) ∧ (v, (a1 103, i1 6405)) = lPop (a 103, i 6405))) := by
  have hG := kG_self yw20_100 hI hr
  refine km_ofI (q := (mi_h20, mi_c20)) rfl (by decide) (Nat.le_of_ble_eq_true rfl) ?_
  intro P hP
  have fi_6405 : ((0 : Int) ≤ (i 6405).toInt) ∧ ((i 6405).toInt ≤ 121) := hG.I.1 6405
  refine fo_goL mi_k20 fz20_0_2_4 [(0, .ref 100)] [.int (i 6405)] rfl ?_
  refine ft_ifS mi_k20 (decide (0 < (i 6405))) 9 7 [] (by rfl) (fun c => ?_) (fun c => ?_)
  ·
    have c1 : (0 : Int32).toInt < (i 6405).toInt := kd_lt c; clear c
    have s2 : ((i 6405) - 1).toInt = (i 6405).toInt - (1 : Int32).toInt := kd_sub (od27 c1 kod0 kod1) (od28 fi_6405.2 kod1)
    have hJ3 := kG_i hG 6405 rfl (v := ((i 6405) - 1)) ⟨(od29 c1 s2 kod0 kod1), (od30 fi_6405.2 s2 kod1)⟩
    first | refine fo_goI mi_k20 fz20_9_10_27 [.int ((i 6405) - 1), .ref 103] (ku i 6405 ((i 6405) - 1)) (by rfl) ?_ | refine ft_go mi_k20 10 27 [(0, .ref 100)] [.int ((i 6405) - 1), .ref 103] (ku i 6405 ((i 6405) - 1)) a q r (by rfl) ?_
    refine ko_iald3 mi_k20.1 (n := 121) (c := 121) (ax := (0, 0, 0, 0, 0)) (mi_k20.2 _ _ (by rfl)) (by rfl) (ksG103 _ _ _ _) (hJ3.I.2.1 103) rfl (od29 c1 s2 kod0 kod1) (od31 fi_6405.2 s2 kod1) ?_
    exact ft_ret mi_k20 (by rfl) (hP ((a 103).getD ((i 6405) - 1).toNatClampNeg 0) _ _ _ _ hJ3 ⟨(od32 c1 s2 kod0 kod1), ((show (((a 103).getD ((i 6405) - 1).toNatClampNeg 0), (a 103, ((i 6405) - 1))) = ((a 103).getD (i 6405 - 1).toNatClampNeg 0, (a 103, i 6405 - 1)) from rfl).trans (if_pos (od33 c1 kod0)).symm)⟩)
  ·
    have c4 : (i 6405).toInt ≤ (0 : Int32).toInt := kd_ltF c; clear c
    refine fo_goS mi_k20 fz20_7_1_8 [.int 0] rfl ?_
    exact ft_ret mi_k20 (by rfl) (hP 0 _ _ _ _ hG ⟨(od34 c4 kod0), ((show ((0 : Int32), (a 103, i 6405)) = (0, (a 103, i 6405)) from rfl).trans (if_neg (od35 c4 kod0)).symm)⟩)
noncomputable def yw21_100_24 : kW := ([6405], [103], [], [])
noncomputable def yw21_100_24_L9 : kW := ([6405], [103], [], [])
set_option maxRecDepth 100000 in
theorem ke21_100_24 {i : Nat → Int32} {a : Nat → List Int32} {q : Nat → List Int64} {r : Nat → Nat} (hI : kI i a q) (hr : kr r)  : km 3 21 [.ref 100, .ref 24] (ks i a q r) (kVI yw21_100_24 i a q r (fun v i1 a1 q1 r1 => (True) ∧ v = lRun (a 101) (a 102) (a 24) (i 6403) 121 0 (a 103, 0))) := by
  have hG := kG_self yw21_100_24 hI hr
  refine km_ofI (q := (mi_h21, mi_c21)) rfl (by decide) (Nat.le_of_ble_eq_true rfl) ?_
  intro P hP
  have hJ1 := kG_i hG 6405 rfl (v := 0) ⟨(od0 kod0), (od1 kod0)⟩
  first | refine fo_go mi_k21 fz21_0_7_9 [(3, .int 0), (2, .int 0), (0, .ref 100), (1, .ref 24)] [] (ku i 6405 0) a q r (by rfl) ?_ | refine ft_goL mi_k21 7 9 [(3, .int 0), (2, .int 0), (0, .ref 100), (1, .ref 24)] [] (by rfl) ?_ | refine ft_go mi_k21 7 9 [(3, .int 0), (2, .int 0), (0, .ref 100), (1, .ref 24)] [] (ku i 6405 0) a q r (by rfl) ?_ | refine ko_steps mi_in21 7 _ (9, [(3, .int 0), (2, .int 0), (0, .ref 100), (1, .ref 24)], [], (0, 0), ks (ku i 6405 0) a q r) (by rfl) ?_
  have lp2 : ∀ (nz : Nat) (i2 : Nat → Int32) (a2 : Nat → List Int32) (q2 : Nat → List Int64) (r2 : Nat → Nat) (l3_2 : Int32) (l2_2 : Int32), kG yw21_100_24_L9 (ku i 6405 0) a q r i2 a2 q2 r2 → (0 : Int) ≤ l3_2.toInt → lRun (a 101) (a 102) (a 24) (i 6403) (121 - l3_2.toInt).toNat l2_2 (a2 103, i2 6405) = lRun (a 101) (a 102) (a 24) (i 6403) 121 0 (a 103, 0) → ((121 - l3_2.toInt)).toNat < nz → ko 3 (mi_h21, mi_c21) P (9, [(3, .int l3_2), (2, .int l2_2), (0, .ref 100), (1, .ref 24)], [], (0, 0), ks i2 a2 q2 r2) := by
    intro nz
    induction nz with
    | zero =>
      intro _ _ _ _ _ _ _ _ _ hm
      exact absurd hm (Nat.not_lt_zero _)
    | succ nz ih2 =>
      intro i2 a2 q2 r2 l3_2 l2_2 hL2 p2_0 O2_0 hm2
      refine fo_goL mi_k21 fz21_9_2_12 [(3, .int l3_2), (2, .int l2_2), (0, .ref 100), (1, .ref 24)] [.int 121, .int l3_2] rfl ?_
      refine ft_ifS mi_k21 (decide (121 ≤ l3_2)) 220 15 [] (by rfl) (fun c => ?_) (fun c => ?_)
      ·
        have c3 : (121 : Int32).toInt ≤ l3_2.toInt := kd_le c; clear c
        have hG4 := kG_call hJ1 hL2 (by decide +kernel)
        refine fo_goS mi_k21 fz21_220_1_221 [.int 0] rfl ?_
        exact ft_ret mi_k21 (by rfl) (hP 0 _ _ _ _ hG4 ⟨trivial, (show (0 : Int32) = lRun (a 101) (a 102) (a 24) (i 6403) 121 0 (a 103, 0) from (lRun_end O2_0 (kj_none (od2 c3 kod121))).symm)⟩)
      ·
        have c5 : l3_2.toInt < (121 : Int32).toInt := kd_leF c; clear c
        refine fo_goS mi_k21 fz21_15_1_16 [.int l2_2] rfl ?_
        refine ft_ifS mi_k21 (decide (l2_2 < 0)) 220 19 [] (by rfl) (fun c => ?_) (fun c => ?_)
        ·
          have c6 : l2_2.toInt < (0 : Int32).toInt := kd_lt c; clear c
          have hG7 := kG_call hJ1 hL2 (by decide +kernel)
          refine fo_goS mi_k21 fz21_220_1_221 [.int 0] rfl ?_
          exact ft_ret mi_k21 (by rfl) (hP 0 _ _ _ _ hG7 ⟨trivial, (show (0 : Int32) = lRun (a 101) (a 102) (a 24) (i 6403) 121 0 (a 103, 0) from (lRun_out O2_0 (od3 c6 kod0)).symm)⟩)
        ·
          have c8 : (0 : Int32).toInt ≤ l2_2.toInt := kd_ltF c; clear c
          have fi2_6403 : ((0 : Int) ≤ (i2 6403).toInt) ∧ ((i2 6403).toInt ≤ 121) := hL2.I.1 6403
          have fi_6403 : ((0 : Int) ≤ (i 6403).toInt) ∧ ((i 6403).toInt ≤ 121) := hJ1.I.1 6403
          have efi2_6403 : (i2 6403).toInt = (i 6403).toInt := hL2.ti 6403 rfl
          refine fo_goS mi_k21 fz21_19_3_24 [.int (i2 6403), .int l2_2] rfl ?_
          refine ft_ifS mi_k21 (decide ((i2 6403) ≤ l2_2)) 220 27 [] (by rfl) (fun c => ?_) (fun c => ?_)
          ·
            have c9 : (i2 6403).toInt ≤ l2_2.toInt := kd_le c; clear c
            have hG10 := kG_call hJ1 hL2 (by decide +kernel)
            refine fo_goS mi_k21 fz21_220_1_221 [.int 0] rfl ?_
            exact ft_ret mi_k21 (by rfl) (hP 0 _ _ _ _ hG10 ⟨trivial, (show (0 : Int32) = lRun (a 101) (a 102) (a 24) (i 6403) 121 0 (a 103, 0) from (lRun_out O2_0 (od4 c9 efi2_6403)).symm)⟩)
          ·
            have c11 : l2_2.toInt < (i2 6403).toInt := kd_leF c; clear c
            refine fo_goS mi_k21 fz21_27_3_32 [.int l2_2, .ref 101] rfl ?_
            refine ko_iald3 mi_k21.1 (n := 121) (c := 121) (ax := (0, 0, 0, 0, 0)) (mi_k21.2 _ _ (by rfl)) (by rfl) (ksG101 _ _ _ _) (hL2.I.2.1 101) rfl (od5 c8 kod0) (od6 c11 fi2_6403.2) ?_
            refine fo_goL mi_k21 fz21_33_4_40 [(4, .int ((a2 101).getD l2_2.toNatClampNeg 0)), (3, .int l3_2), (2, .int l2_2), (0, .ref 100), (1, .ref 24)] [.int l2_2, .ref 102] rfl ?_
            refine ko_iald3 mi_k21.1 (n := 121) (c := 121) (ax := (0, 0, 0, 0, 0)) (mi_k21.2 _ _ (by rfl)) (by rfl) (ksG102 _ _ _ _) (hL2.I.2.1 102) rfl (od5 c8 kod0) (od6 c11 fi2_6403.2) ?_
            have s12 : (l2_2 + 1).toInt = l2_2.toInt + (1 : Int32).toInt := kd_add (od7 c8 kod0 kod1) (od8 c11 fi2_6403.2 kod1)
            refine fo_goL mi_k21 fz21_41_3_48 [(2, .int (l2_2 + 1)), (5, .int ((a2 102).getD l2_2.toNatClampNeg 0)), (4, .int ((a2 101).getD l2_2.toNatClampNeg 0)), (3, .int l3_2), (0, .ref 100), (1, .ref 24)] [.int ((a2 101).getD l2_2.toNatClampNeg 0)] rfl ?_
            by_cases w13 : ((a2 101).getD l2_2.toNatClampNeg 0).toInt = 0
            ·
              refine ft_swx mi_k21 (pc := 48) (v := 0) (t := 108) (kj_eq w13 (by decide) : ((a2 101).getD l2_2.toNatClampNeg 0) = 0) (by decide +kernel) ?_
              refine fo_goS mi_k21 fz21_108_2_111 [.int ((a2 102).getD l2_2.toNatClampNeg 0), .ref 100] rfl ?_
              refine ko_callN mi_k21.1 (pc := 111) (ls := [(2, .int (l2_2 + 1)), (5, .int ((a2 102).getD l2_2.toNatClampNeg 0)), (4, .int ((a2 101).getD l2_2.toNatClampNeg 0)), (3, .int l3_2), (0, .ref 100), (1, .ref 24)]) (st := [.int ((a2 102).getD l2_2.toNatClampNeg 0), .ref 100]) (h := ks i2 a2 q2 r2) (i := (.invokevirtual 32, 3, 19, 0, 9, 0, 225)) (mi_k21.2 _ _ (by rfl)) (ft_invS mi_pq19 (by rfl)) (cy := mi_c19) mi_pq19 rfl (ke19_100 hL2.I hL2.R ((a2 102).getD l2_2.toNatClampNeg 0)) (by decide) ?_
              intro ig14 ag14 qg14 rg14 kg14 hg14
              have hGg14 := kG_call hL2 kg14 (by decide +kernel)
              obtain ⟨hg14, og14⟩ := hg14
              have s16 : (l3_2 + 1).toInt = l3_2.toInt + (1 : Int32).toInt := kd_add (od13 p2_0 kod1) (od19 c5 kod121 kod1)
              first | refine fo_goL mi_k21 fz21_6_3_9 [(3, .int (l3_2 + 1)), (2, .int (l2_2 + 1)), (5, .int ((a2 102).getD l2_2.toNatClampNeg 0)), (4, .int ((a2 101).getD l2_2.toNatClampNeg 0)), (0, .ref 100), (1, .ref 24)] [] (by rfl) ?_ | refine fo_goL mi_k21 fz21_114_3_9 [(3, .int (l3_2 + 1)), (2, .int (l2_2 + 1)), (5, .int ((a2 102).getD l2_2.toNatClampNeg 0)), (4, .int ((a2 101).getD l2_2.toNatClampNeg 0)), (0, .ref 100), (1, .ref 24)] [] (by rfl) ?_ | refine fo_goL mi_k21 fz21_141_3_9 [(3, .int (l3_2 + 1)), (2, .int (l2_2 + 1)), (5, .int ((a2 102).getD l2_2.toNatClampNeg 0)), (4, .int ((a2 101).getD l2_2.toNatClampNeg 0)), (0, .ref 100), (1, .ref 24)] [] (by rfl) ?_ | refine fo_goL mi_k21 fz21_153_3_9 [(3, .int (l3_2 + 1)), (2, .int (l2_2 + 1)), (5, .int ((a2 102).getD l2_2.toNatClampNeg 0)), (4, .int ((a2 101).getD l2_2.toNatClampNeg 0)), (0, .ref 100), (1, .ref 24)] [] (by rfl) ?_ | refine fo_goL mi_k21 fz21_159_3_9 [(3, .int (l3_2 + 1)), (2, .int (l2_2 + 1)), (5, .int ((a2 102).getD l2_2.toNatClampNeg 0)), (4, .int ((a2 101).getD l2_2.toNatClampNeg 0)), (0, .ref 100), (1, .ref 24)] [] (by rfl) ?_ | refine fo_goL mi_k21 fz21_178_3_9 [(3, .int (l3_2 + 1)), (2, .int (l2_2 + 1)), (5, .int ((a2 102).getD l2_2.toNatClampNeg 0)), (4, .int ((a2 101).getD l2_2.toNatClampNeg 0)), (0, .ref 100), (1, .ref 24)] [] (by rfl) ?_ | refine fo_goL mi_k21 fz21_190_3_9 [(3, .int (l3_2 + 1)), (2, .int (l2_2 + 1)), (5, .int ((a2 102).getD l2_2.toNatClampNeg 0)), (4, .int ((a2 101).getD l2_2.toNatClampNeg 0)), (0, .ref 100), (1, .ref 24)] [] (by rfl) ?_ | refine ft_goL mi_k21 3 9 [(3, .int (l3_2 + 1)), (2, .int (l2_2 + 1)), (5, .int ((a2 102).getD l2_2.toNatClampNeg 0)), (4, .int ((a2 101).getD l2_2.toNatClampNeg 0)), (0, .ref 100), (1, .ref 24)] [] (by rfl) ?_ | refine ko_steps mi_in21 3 _ (9, [(3, .int (l3_2 + 1)), (2, .int (l2_2 + 1)), (5, .int ((a2 102).getD l2_2.toNatClampNeg 0)), (4, .int ((a2 101).getD l2_2.toNatClampNeg 0)), (0, .ref 100), (1, .ref 24)], [], (0, 0), ks ig14 ag14 qg14 rg14) (by rfl) ?_
              refine ko_perm [(3, .int (l3_2 + 1)), (2, .int (l2_2 + 1)), (0, .ref 100), (1, .ref 24)] (List.forall_mem_cons.mpr ⟨(List.Mem.head _), (List.forall_mem_cons.mpr ⟨(List.Mem.tail _ (List.Mem.head _)), (List.forall_mem_cons.mpr ⟨(List.Mem.tail _ (List.Mem.tail _ (List.Mem.tail _ (List.Mem.tail _ (List.Mem.head _))))), (List.forall_mem_cons.mpr ⟨(List.Mem.tail _ (List.Mem.tail _ (List.Mem.tail _ (List.Mem.tail _ (List.Mem.tail _ (List.Mem.head _)))))), (fun _ h => absurd h List.not_mem_nil)⟩)⟩)⟩)⟩) ?_
              exact ih2 _ _ _ _ _ _ hGg14 (od15 p2_0 s16 kod1) (lRun_num O2_0 (kj_left (od12 c5 kod121) (od21 s16 kod1)) ⟨(od5 c8 kod0), (od20 c11 efi2_6403)⟩ (kL_cast (hL2.fa 101 rfl) (od22 w13)) (congrArg (fun z : List Int32 => z.getD l2_2.toNatClampNeg 0) (hL2.fa 102 rfl)) og14) (kj_meas (od23 s16 kod1) (od24 c5 kod121) hm2)
            by_cases w17 : ((a2 101).getD l2_2.toNatClampNeg 0).toInt = 1
            ·
              refine ft_swx mi_k21 (pc := 48) (v := 1) (t := 117) (kj_eq w17 (by decide) : ((a2 101).getD l2_2.toNatClampNeg 0) = 1) (by decide +kernel) ?_
              refine fo_goS mi_k21 fz21_117_2_120 [.int ((a2 102).getD l2_2.toNatClampNeg 0), .ref 100] rfl ?_
              refine ft_ifS mi_k21 (decide (((a2 102).getD l2_2.toNatClampNeg 0) < 0)) 137 123 [.ref 100] (by rfl) (fun c => ?_) (fun c => ?_)
              ·
                have c18 : ((a2 102).getD l2_2.toNatClampNeg 0).toInt < (0 : Int32).toInt := kd_lt c; clear c
                first | refine fo_goS mi_k21 fz21_134_1_138 [.int 0, .ref 100] (by rfl) ?_ | refine fo_goS mi_k21 fz21_137_1_138 [.int 0, .ref 100] (by rfl) ?_
                refine ko_callN mi_k21.1 (pc := 138) (ls := [(2, .int (l2_2 + 1)), (5, .int ((a2 102).getD l2_2.toNatClampNeg 0)), (4, .int ((a2 101).getD l2_2.toNatClampNeg 0)), (3, .int l3_2), (0, .ref 100), (1, .ref 24)]) (st := [.int 0, .ref 100]) (h := ks i2 a2 q2 r2) (i := (.invokevirtual 32, 3, 19, 0, 9, 0, 225)) (mi_k21.2 _ _ (by rfl)) (ft_invS mi_pq19 (by rfl)) (cy := mi_c19) mi_pq19 rfl (ke19_100 hL2.I hL2.R 0) (by decide) ?_
                intro ig19 ag19 qg19 rg19 kg19 hg19
                have hGg19 := kG_call hL2 kg19 (by decide +kernel)
                obtain ⟨hg19, og19⟩ := hg19
                have fi2_6405 : ((0 : Int) ≤ (i2 6405).toInt) ∧ ((i2 6405).toInt ≤ 121) := hL2.I.1 6405
                have fig19_6405 : ((0 : Int) ≤ (ig19 6405).toInt) ∧ ((ig19 6405).toInt ≤ 121) := hGg19.I.1 6405
                have z20 : (((i2 6405).toInt ≤ 120) ∧ ((ig19 6405).toInt = ((i2 6405).toInt + 1))) ∨ (((121 : Int) ≤ (i2 6405).toInt) ∧ ((ig19 6405).toInt = (i2 6405).toInt)) := hg19
                have s21 : (l3_2 + 1).toInt = l3_2.toInt + (1 : Int32).toInt := kd_add (od13 p2_0 kod1) (od19 c5 kod121 kod1)
                first | refine fo_goL mi_k21 fz21_6_3_9 [(3, .int (l3_2 + 1)), (2, .int (l2_2 + 1)), (5, .int ((a2 102).getD l2_2.toNatClampNeg 0)), (4, .int ((a2 101).getD l2_2.toNatClampNeg 0)), (0, .ref 100), (1, .ref 24)] [] (by rfl) ?_ | refine fo_goL mi_k21 fz21_114_3_9 [(3, .int (l3_2 + 1)), (2, .int (l2_2 + 1)), (5, .int ((a2 102).getD l2_2.toNatClampNeg 0)), (4, .int ((a2 101).getD l2_2.toNatClampNeg 0)), (0, .ref 100), (1, .ref 24)] [] (by rfl) ?_ | refine fo_goL mi_k21 fz21_141_3_9 [(3, .int (l3_2 + 1)), (2, .int (l2_2 + 1)), (5, .int ((a2 102).getD l2_2.toNatClampNeg 0)), (4, .int ((a2 101).getD l2_2.toNatClampNeg 0)), (0, .ref 100), (1, .ref 24)] [] (by rfl) ?_ | refine fo_goL mi_k21 fz21_153_3_9 [(3, .int (l3_2 + 1)), (2, .int (l2_2 + 1)), (5, .int ((a2 102).getD l2_2.toNatClampNeg 0)), (4, .int ((a2 101).getD l2_2.toNatClampNeg 0)), (0, .ref 100), (1, .ref 24)] [] (by rfl) ?_ | refine fo_goL mi_k21 fz21_159_3_9 [(3, .int (l3_2 + 1)), (2, .int (l2_2 + 1)), (5, .int ((a2 102).getD l2_2.toNatClampNeg 0)), (4, .int ((a2 101).getD l2_2.toNatClampNeg 0)), (0, .ref 100), (1, .ref 24)] [] (by rfl) ?_ | refine fo_goL mi_k21 fz21_178_3_9 [(3, .int (l3_2 + 1)), (2, .int (l2_2 + 1)), (5, .int ((a2 102).getD l2_2.toNatClampNeg 0)), (4, .int ((a2 101).getD l2_2.toNatClampNeg 0)), (0, .ref 100), (1, .ref 24)] [] (by rfl) ?_ | refine fo_goL mi_k21 fz21_190_3_9 [(3, .int (l3_2 + 1)), (2, .int (l2_2 + 1)), (5, .int ((a2 102).getD l2_2.toNatClampNeg 0)), (4, .int ((a2 101).getD l2_2.toNatClampNeg 0)), (0, .ref 100), (1, .ref 24)] [] (by rfl) ?_ | refine ft_goL mi_k21 3 9 [(3, .int (l3_2 + 1)), (2, .int (l2_2 + 1)), (5, .int ((a2 102).getD l2_2.toNatClampNeg 0)), (4, .int ((a2 101).getD l2_2.toNatClampNeg 0)), (0, .ref 100), (1, .ref 24)] [] (by rfl) ?_ | refine ko_steps mi_in21 3 _ (9, [(3, .int (l3_2 + 1)), (2, .int (l2_2 + 1)), (5, .int ((a2 102).getD l2_2.toNatClampNeg 0)), (4, .int ((a2 101).getD l2_2.toNatClampNeg 0)), (0, .ref 100), (1, .ref 24)], [], (0, 0), ks ig19 ag19 qg19 rg19) (by rfl) ?_
                refine ko_perm [(3, .int (l3_2 + 1)), (2, .int (l2_2 + 1)), (0, .ref 100), (1, .ref 24)] (List.forall_mem_cons.mpr ⟨(List.Mem.head _), (List.forall_mem_cons.mpr ⟨(List.Mem.tail _ (List.Mem.head _)), (List.forall_mem_cons.mpr ⟨(List.Mem.tail _ (List.Mem.tail _ (List.Mem.tail _ (List.Mem.tail _ (List.Mem.head _))))), (List.forall_mem_cons.mpr ⟨(List.Mem.tail _ (List.Mem.tail _ (List.Mem.tail _ (List.Mem.tail _ (List.Mem.tail _ (List.Mem.head _)))))), (fun _ h => absurd h List.not_mem_nil)⟩)⟩)⟩)⟩) ?_
                exact ih2 _ _ _ _ _ _ hGg19 (od15 p2_0 s21 kod1) (lRun_name O2_0 (kj_left (od12 c5 kod121) (od21 s21 kod1)) ⟨(od5 c8 kod0), (od20 c11 efi2_6403)⟩ (kL_cast (hL2.fa 101 rfl) (od25 w17)) (by have k0_ : (0 : Int32).toInt = 0 := (by decide); have k6_ : (6 : Int32).toInt = 6 := (by decide); rw [← ((hL2.fa 102 rfl) : a2 102 = a 102), ← ((hL2.fa 24 rfl) : a2 24 = a 24)]; split <;> first | rfl | (exfalso; omega)) og19) (kj_meas (od23 s21 kod1) (od24 c5 kod121) hm2)
              ·
                have c22 : (0 : Int32).toInt ≤ ((a2 102).getD l2_2.toNatClampNeg 0).toInt := kd_ltF c; clear c
                refine fo_goS mi_k21 fz21_123_2_126 [.ref 24, .int ((a2 102).getD l2_2.toNatClampNeg 0), .ref 100] rfl ?_
                refine ko_alen mi_k21.1 (l := a2 24) (ax := (0, 0, 0, 0, 0)) (x := 6) (mi_k21.2 _ _ (by rfl)) (by rfl) (by rfl) (by rw [(hL2.I.2.1 24 : (a2 24).length = _)]; rfl) ?_
                refine ft_ifS mi_k21 (decide (6 ≤ ((a2 102).getD l2_2.toNatClampNeg 0))) 137 130 [.ref 100] (by rfl) (fun c => ?_) (fun c => ?_)
                ·
                  have c23 : (6 : Int32).toInt ≤ ((a2 102).getD l2_2.toNatClampNeg 0).toInt := kd_le c; clear c
                  first | refine fo_goS mi_k21 fz21_134_1_138 [.int 0, .ref 100] (by rfl) ?_ | refine fo_goS mi_k21 fz21_137_1_138 [.int 0, .ref 100] (by rfl) ?_
                  refine ko_callN mi_k21.1 (pc := 138) (ls := [(2, .int (l2_2 + 1)), (5, .int ((a2 102).getD l2_2.toNatClampNeg 0)), (4, .int ((a2 101).getD l2_2.toNatClampNeg 0)), (3, .int l3_2), (0, .ref 100), (1, .ref 24)]) (st := [.int 0, .ref 100]) (h := ks i2 a2 q2 r2) (i := (.invokevirtual 32, 3, 19, 0, 9, 0, 225)) (mi_k21.2 _ _ (by rfl)) (ft_invS mi_pq19 (by rfl)) (cy := mi_c19) mi_pq19 rfl (ke19_100 hL2.I hL2.R 0) (by decide) ?_
                  intro ig24 ag24 qg24 rg24 kg24 hg24
                  have hGg24 := kG_call hL2 kg24 (by decide +kernel)
                  obtain ⟨hg24, og24⟩ := hg24
                  have fi2_6405 : ((0 : Int) ≤ (i2 6405).toInt) ∧ ((i2 6405).toInt ≤ 121) := hL2.I.1 6405
                  have fig24_6405 : ((0 : Int) ≤ (ig24 6405).toInt) ∧ ((ig24 6405).toInt ≤ 121) := hGg24.I.1 6405
                  have z25 : (((i2 6405).toInt ≤ 120) ∧ ((ig24 6405).toInt = ((i2 6405).toInt + 1))) ∨ (((121 : Int) ≤ (i2 6405).toInt) ∧ ((ig24 6405).toInt = (i2 6405).toInt)) := hg24
                  have s26 : (l3_2 + 1).toInt = l3_2.toInt + (1 : Int32).toInt := kd_add (od13 p2_0 kod1) (od19 c5 kod121 kod1)
                  first | refine fo_goL mi_k21 fz21_6_3_9 [(3, .int (l3_2 + 1)), (2, .int (l2_2 + 1)), (5, .int ((a2 102).getD l2_2.toNatClampNeg 0)), (4, .int ((a2 101).getD l2_2.toNatClampNeg 0)), (0, .ref 100), (1, .ref 24)] [] (by rfl) ?_ | refine fo_goL mi_k21 fz21_114_3_9 [(3, .int (l3_2 + 1)), (2, .int (l2_2 + 1)), (5, .int ((a2 102).getD l2_2.toNatClampNeg 0)), (4, .int ((a2 101).getD l2_2.toNatClampNeg 0)), (0, .ref 100), (1, .ref 24)] [] (by rfl) ?_ | refine fo_goL mi_k21 fz21_141_3_9 [(3, .int (l3_2 + 1)), (2, .int (l2_2 + 1)), (5, .int ((a2 102).getD l2_2.toNatClampNeg 0)), (4, .int ((a2 101).getD l2_2.toNatClampNeg 0)), (0, .ref 100), (1, .ref 24)] [] (by rfl) ?_ | refine fo_goL mi_k21 fz21_153_3_9 [(3, .int (l3_2 + 1)), (2, .int (l2_2 + 1)), (5, .int ((a2 102).getD l2_2.toNatClampNeg 0)), (4, .int ((a2 101).getD l2_2.toNatClampNeg 0)), (0, .ref 100), (1, .ref 24)] [] (by rfl) ?_ | refine fo_goL mi_k21 fz21_159_3_9 [(3, .int (l3_2 + 1)), (2, .int (l2_2 + 1)), (5, .int ((a2 102).getD l2_2.toNatClampNeg 0)), (4, .int ((a2 101).getD l2_2.toNatClampNeg 0)), (0, .ref 100), (1, .ref 24)] [] (by rfl) ?_ | refine fo_goL mi_k21 fz21_178_3_9 [(3, .int (l3_2 + 1)), (2, .int (l2_2 + 1)), (5, .int ((a2 102).getD l2_2.toNatClampNeg 0)), (4, .int ((a2 101).getD l2_2.toNatClampNeg 0)), (0, .ref 100), (1, .ref 24)] [] (by rfl) ?_ | refine fo_goL mi_k21 fz21_190_3_9 [(3, .int (l3_2 + 1)), (2, .int (l2_2 + 1)), (5, .int ((a2 102).getD l2_2.toNatClampNeg 0)), (4, .int ((a2 101).getD l2_2.toNatClampNeg 0)), (0, .ref 100), (1, .ref 24)] [] (by rfl) ?_ | refine ft_goL mi_k21 3 9 [(3, .int (l3_2 + 1)), (2, .int (l2_2 + 1)), (5, .int ((a2 102).getD l2_2.toNatClampNeg 0)), (4, .int ((a2 101).getD l2_2.toNatClampNeg 0)), (0, .ref 100), (1, .ref 24)] [] (by rfl) ?_ | refine ko_steps mi_in21 3 _ (9, [(3, .int (l3_2 + 1)), (2, .int (l2_2 + 1)), (5, .int ((a2 102).getD l2_2.toNatClampNeg 0)), (4, .int ((a2 101).getD l2_2.toNatClampNeg 0)), (0, .ref 100), (1, .ref 24)], [], (0, 0), ks ig24 ag24 qg24 rg24) (by rfl) ?_
                  refine ko_perm [(3, .int (l3_2 + 1)), (2, .int (l2_2 + 1)), (0, .ref 100), (1, .ref 24)] (List.forall_mem_cons.mpr ⟨(List.Mem.head _), (List.forall_mem_cons.mpr ⟨(List.Mem.tail _ (List.Mem.head _)), (List.forall_mem_cons.mpr ⟨(List.Mem.tail _ (List.Mem.tail _ (List.Mem.tail _ (List.Mem.tail _ (List.Mem.head _))))), (List.forall_mem_cons.mpr ⟨(List.Mem.tail _ (List.Mem.tail _ (List.Mem.tail _ (List.Mem.tail _ (List.Mem.tail _ (List.Mem.head _)))))), (fun _ h => absurd h List.not_mem_nil)⟩)⟩)⟩)⟩) ?_
                  exact ih2 _ _ _ _ _ _ hGg24 (od15 p2_0 s26 kod1) (lRun_name O2_0 (kj_left (od12 c5 kod121) (od21 s26 kod1)) ⟨(od5 c8 kod0), (od20 c11 efi2_6403)⟩ (kL_cast (hL2.fa 101 rfl) (od25 w17)) (by have k0_ : (0 : Int32).toInt = 0 := (by decide); have k6_ : (6 : Int32).toInt = 6 := (by decide); rw [← ((hL2.fa 102 rfl) : a2 102 = a 102), ← ((hL2.fa 24 rfl) : a2 24 = a 24)]; split <;> first | rfl | (exfalso; omega)) og24) (kj_meas (od23 s26 kod1) (od24 c5 kod121) hm2)
                ·
                  have c27 : ((a2 102).getD l2_2.toNatClampNeg 0).toInt < (6 : Int32).toInt := kd_leF c; clear c
                  refine fo_goS mi_k21 fz21_130_2_133 [.int ((a2 102).getD l2_2.toNatClampNeg 0), .ref 24, .ref 100] rfl ?_
                  refine ko_iald3 mi_k21.1 (n := 6) (c := 6) (ax := (0, 0, 0, 0, 0)) (mi_k21.2 _ _ (by rfl)) (by rfl) (ksG24 _ _ _ _) (hL2.I.2.1 24) rfl (od5 c22 kod0) (od26 c27 kod6) ?_
                  first | refine fo_goS mi_k21 fz21_134_1_138 [.int ((a2 24).getD ((a2 102).getD l2_2.toNatClampNeg 0).toNatClampNeg 0), .ref 100] (by rfl) ?_ | refine fo_goS mi_k21 fz21_137_1_138 [.int ((a2 24).getD ((a2 102).getD l2_2.toNatClampNeg 0).toNatClampNeg 0), .ref 100] (by rfl) ?_
                  refine ko_callN mi_k21.1 (pc := 138) (ls := [(2, .int (l2_2 + 1)), (5, .int ((a2 102).getD l2_2.toNatClampNeg 0)), (4, .int ((a2 101).getD l2_2.toNatClampNeg 0)), (3, .int l3_2), (0, .ref 100), (1, .ref 24)]) (st := [.int ((a2 24).getD ((a2 102).getD l2_2.toNatClampNeg 0).toNatClampNeg 0), .ref 100]) (h := ks i2 a2 q2 r2) (i := (.invokevirtual 32, 3, 19, 0, 9, 0, 225)) (mi_k21.2 _ _ (by rfl)) (ft_invS mi_pq19 (by rfl)) (cy := mi_c19) mi_pq19 rfl (ke19_100 hL2.I hL2.R ((a2 24).getD ((a2 102).getD l2_2.toNatClampNeg 0).toNatClampNeg 0)) (by decide) ?_
                  intro ig28 ag28 qg28 rg28 kg28 hg28
                  have hGg28 := kG_call hL2 kg28 (by decide +kernel)
                  obtain ⟨hg28, og28⟩ := hg28
                  have fi2_6405 : ((0 : Int) ≤ (i2 6405).toInt) ∧ ((i2 6405).toInt ≤ 121) := hL2.I.1 6405
                  have fig28_6405 : ((0 : Int) ≤ (ig28 6405).toInt) ∧ ((ig28 6405).toInt ≤ 121) := hGg28.I.1 6405
                  have z29 : (((i2 6405).toInt ≤ 120) ∧ ((ig28 6405).toInt = ((i2 6405).toInt + 1))) ∨ (((121 : Int) ≤ (i2 6405).toInt) ∧ ((ig28 6405).toInt = (i2 6405).toInt)) := hg28
                  have s30 : (l3_2 + 1).toInt = l3_2.toInt + (1 : Int32).toInt := kd_add (od13 p2_0 kod1) (od19 c5 kod121 kod1)
                  first | refine fo_goL mi_k21 fz21_6_3_9 [(3, .int (l3_2 + 1)), (2, .int (l2_2 + 1)), (5, .int ((a2 102).getD l2_2.toNatClampNeg 0)), (4, .int ((a2 101).getD l2_2.toNatClampNeg 0)), (0, .ref 100), (1, .ref 24)] [] (by rfl) ?_ | refine fo_goL mi_k21 fz21_114_3_9 [(3, .int (l3_2 + 1)), (2, .int (l2_2 + 1)), (5, .int ((a2 102).getD l2_2.toNatClampNeg 0)), (4, .int ((a2 101).getD l2_2.toNatClampNeg 0)), (0, .ref 100), (1, .ref 24)] [] (by rfl) ?_ | refine fo_goL mi_k21 fz21_141_3_9 [(3, .int (l3_2 + 1)), (2, .int (l2_2 + 1)), (5, .int ((a2 102).getD l2_2.toNatClampNeg 0)), (4, .int ((a2 101).getD l2_2.toNatClampNeg 0)), (0, .ref 100), (1, .ref 24)] [] (by rfl) ?_ | refine fo_goL mi_k21 fz21_153_3_9 [(3, .int (l3_2 + 1)), (2, .int (l2_2 + 1)), (5, .int ((a2 102).getD l2_2.toNatClampNeg 0)), (4, .int ((a2 101).getD l2_2.toNatClampNeg 0)), (0, .ref 100), (1, .ref 24)] [] (by rfl) ?_ | refine fo_goL mi_k21 fz21_159_3_9 [(3, .int (l3_2 + 1)), (2, .int (l2_2 + 1)), (5, .int ((a2 102).getD l2_2.toNatClampNeg 0)), (4, .int ((a2 101).getD l2_2.toNatClampNeg 0)), (0, .ref 100), (1, .ref 24)] [] (by rfl) ?_ | refine fo_goL mi_k21 fz21_178_3_9 [(3, .int (l3_2 + 1)), (2, .int (l2_2 + 1)), (5, .int ((a2 102).getD l2_2.toNatClampNeg 0)), (4, .int ((a2 101).getD l2_2.toNatClampNeg 0)), (0, .ref 100), (1, .ref 24)] [] (by rfl) ?_ | refine fo_goL mi_k21 fz21_190_3_9 [(3, .int (l3_2 + 1)), (2, .int (l2_2 + 1)), (5, .int ((a2 102).getD l2_2.toNatClampNeg 0)), (4, .int ((a2 101).getD l2_2.toNatClampNeg 0)), (0, .ref 100), (1, .ref 24)] [] (by rfl) ?_ | refine ft_goL mi_k21 3 9 [(3, .int (l3_2 + 1)), (2, .int (l2_2 + 1)), (5, .int ((a2 102).getD l2_2.toNatClampNeg 0)), (4, .int ((a2 101).getD l2_2.toNatClampNeg 0)), (0, .ref 100), (1, .ref 24)] [] (by rfl) ?_ | refine ko_steps mi_in21 3 _ (9, [(3, .int (l3_2 + 1)), (2, .int (l2_2 + 1)), (5, .int ((a2 102).getD l2_2.toNatClampNeg 0)), (4, .int ((a2 101).getD l2_2.toNatClampNeg 0)), (0, .ref 100), (1, .ref 24)], [], (0, 0), ks ig28 ag28 qg28 rg28) (by rfl) ?_
                  refine ko_perm [(3, .int (l3_2 + 1)), (2, .int (l2_2 + 1)), (0, .ref 100), (1, .ref 24)] (List.forall_mem_cons.mpr ⟨(List.Mem.head _), (List.forall_mem_cons.mpr ⟨(List.Mem.tail _ (List.Mem.head _)), (List.forall_mem_cons.mpr ⟨(List.Mem.tail _ (List.Mem.tail _ (List.Mem.tail _ (List.Mem.tail _ (List.Mem.head _))))), (List.forall_mem_cons.mpr ⟨(List.Mem.tail _ (List.Mem.tail _ (List.Mem.tail _ (List.Mem.tail _ (List.Mem.tail _ (List.Mem.head _)))))), (fun _ h => absurd h List.not_mem_nil)⟩)⟩)⟩)⟩) ?_
                  exact ih2 _ _ _ _ _ _ hGg28 (od15 p2_0 s30 kod1) (lRun_name O2_0 (kj_left (od12 c5 kod121) (od21 s30 kod1)) ⟨(od5 c8 kod0), (od20 c11 efi2_6403)⟩ (kL_cast (hL2.fa 101 rfl) (od25 w17)) (by have k0_ : (0 : Int32).toInt = 0 := (by decide); have k6_ : (6 : Int32).toInt = 6 := (by decide); rw [← ((hL2.fa 102 rfl) : a2 102 = a 102), ← ((hL2.fa 24 rfl) : a2 24 = a 24)]; split <;> first | rfl | (exfalso; omega)) og28) (kj_meas (od23 s30 kod1) (od24 c5 kod121) hm2)
            by_cases w31 : ((a2 101).getD l2_2.toNatClampNeg 0).toInt = 2
            ·
              refine ft_swx mi_k21 (pc := 48) (v := 2) (t := 144) (kj_eq w31 (by decide) : ((a2 101).getD l2_2.toNatClampNeg 0) = 2) (by decide +kernel) ?_
              have hG32 := kG_call hJ1 hL2 (by decide +kernel)
              refine fo_goS mi_k21 fz21_144_1_145 [.ref 100] rfl ?_
              refine ko_callI mi_k21.1 (pc := 145) (ls := [(2, .int (l2_2 + 1)), (5, .int ((a2 102).getD l2_2.toNatClampNeg 0)), (4, .int ((a2 101).getD l2_2.toNatClampNeg 0)), (3, .int l3_2), (0, .ref 100), (1, .ref 24)]) (st := [.ref 100]) (h := ks i2 a2 q2 r2) (i := (.invokevirtual 36, 3, 20, 0, 9, 0, 226)) (mi_k21.2 _ _ (by rfl)) (ft_invS mi_pq20 (by rfl)) (cy := mi_c20) mi_pq20 rfl (ke20_100 hG32.I hG32.R ) (by decide) ?_
              intro vg33 ig33 ag33 qg33 rg33 kg33 hg33
              have hGg33 := kG_call hG32 kg33 (by decide +kernel)
              obtain ⟨hg33, og33⟩ := hg33
              exact ft_ret mi_k21 (by rfl) (hP vg33 _ _ _ _ hGg33 ⟨trivial, (show vg33 = lRun (a 101) (a 102) (a 24) (i 6403) 121 0 (a 103, 0) from (lRun_ans (n := (120 - l3_2.toInt).toNat) O2_0 (kj_left2 (od12 c5 kod121)) ⟨(od5 c8 kod0), (od20 c11 efi2_6403)⟩ (kL_cast (hL2.fa 101 rfl) (od36 w31)) og33))⟩)
            by_cases w35 : ((a2 101).getD l2_2.toNatClampNeg 0).toInt = 3
            ·
              refine ft_swx mi_k21 (pc := 48) (v := 3) (t := 149) (kj_eq w35 (by decide) : ((a2 101).getD l2_2.toNatClampNeg 0) = 3) (by decide +kernel) ?_
              refine fo_goS mi_k21 fz21_149_1_150 [.ref 100] rfl ?_
              refine ko_callI mi_k21.1 (pc := 150) (ls := [(2, .int (l2_2 + 1)), (5, .int ((a2 102).getD l2_2.toNatClampNeg 0)), (4, .int ((a2 101).getD l2_2.toNatClampNeg 0)), (3, .int l3_2), (0, .ref 100), (1, .ref 24)]) (st := [.ref 100]) (h := ks i2 a2 q2 r2) (i := (.invokevirtual 36, 3, 20, 0, 9, 0, 226)) (mi_k21.2 _ _ (by rfl)) (ft_invS mi_pq20 (by rfl)) (cy := mi_c20) mi_pq20 rfl (ke20_100 hL2.I hL2.R ) (by decide) ?_
              intro vg36 ig36 ag36 qg36 rg36 kg36 hg36
              have hGg36 := kG_call hL2 kg36 (by decide +kernel)
              obtain ⟨hg36, og36⟩ := hg36
              have fi2_6405 : ((0 : Int) ≤ (i2 6405).toInt) ∧ ((i2 6405).toInt ≤ 121) := hL2.I.1 6405
              have fig36_6405 : ((0 : Int) ≤ (ig36 6405).toInt) ∧ ((ig36 6405).toInt ≤ 121) := hGg36.I.1 6405
              have z37 : (((1 : Int) ≤ (i2 6405).toInt) ∧ ((ig36 6405).toInt = ((i2 6405).toInt - 1))) ∨ (((i2 6405).toInt ≤ 0) ∧ ((ig36 6405).toInt = (i2 6405).toInt)) := hg36
              refine ft_ifS mi_k21 (vg36 != 0) 214 156 [] (by rfl) (fun c => ?_) (fun c => ?_)
              ·
                have c38 : vg36.toInt ≠ (0 : Int32).toInt := kd_ne c; clear c
                have s39 : (l3_2 + 1).toInt = l3_2.toInt + (1 : Int32).toInt := kd_add (od13 p2_0 kod1) (od19 c5 kod121 kod1)
                first | refine fo_goL mi_k21 fz21_7_2_9 [(3, .int (l3_2 + 1)), (2, .int (l2_2 + 1)), (5, .int ((a2 102).getD l2_2.toNatClampNeg 0)), (4, .int ((a2 101).getD l2_2.toNatClampNeg 0)), (0, .ref 100), (1, .ref 24)] [] (by rfl) ?_ | refine fo_goL mi_k21 fz21_214_2_9 [(3, .int (l3_2 + 1)), (2, .int (l2_2 + 1)), (5, .int ((a2 102).getD l2_2.toNatClampNeg 0)), (4, .int ((a2 101).getD l2_2.toNatClampNeg 0)), (0, .ref 100), (1, .ref 24)] [] (by rfl) ?_
                refine ko_perm [(3, .int (l3_2 + 1)), (2, .int (l2_2 + 1)), (0, .ref 100), (1, .ref 24)] (List.forall_mem_cons.mpr ⟨(List.Mem.head _), (List.forall_mem_cons.mpr ⟨(List.Mem.tail _ (List.Mem.head _)), (List.forall_mem_cons.mpr ⟨(List.Mem.tail _ (List.Mem.tail _ (List.Mem.tail _ (List.Mem.tail _ (List.Mem.head _))))), (List.forall_mem_cons.mpr ⟨(List.Mem.tail _ (List.Mem.tail _ (List.Mem.tail _ (List.Mem.tail _ (List.Mem.tail _ (List.Mem.head _)))))), (fun _ h => absurd h List.not_mem_nil)⟩)⟩)⟩)⟩) ?_
                exact ih2 _ _ _ _ _ _ hGg36 (od15 p2_0 s39 kod1) (lRun_skip O2_0 (kj_left (od12 c5 kod121) (od21 s39 kod1)) ⟨(od5 c8 kod0), (od20 c11 efi2_6403)⟩ (kL_cast (hL2.fa 101 rfl) (od37 w35)) og36 (by have k0_ : (0 : Int32).toInt = 0 := (by decide); have k6_ : (6 : Int32).toInt = 6 := (by decide); rw [← ((hL2.fa 102 rfl) : a2 102 = a 102)]; split <;> first | rfl | (exfalso; omega))) (kj_meas (od23 s39 kod1) (od24 c5 kod121) hm2)
              ·
                have c40 : vg36.toInt = (0 : Int32).toInt := kd_neF c; clear c
                have s41 : (l3_2 + 1).toInt = l3_2.toInt + (1 : Int32).toInt := kd_add (od13 p2_0 kod1) (od19 c5 kod121 kod1)
                first | refine fo_go mi_k21 fz21_2_5_9 [(3, .int (l3_2 + 1)), (2, .int ((a2 102).getD l2_2.toNatClampNeg 0)), (5, .int ((a2 102).getD l2_2.toNatClampNeg 0)), (4, .int ((a2 101).getD l2_2.toNatClampNeg 0)), (0, .ref 100), (1, .ref 24)] [] ig36 ag36 qg36 rg36 (by rfl) ?_ | refine fo_goL mi_k21 fz21_156_5_9 [(3, .int (l3_2 + 1)), (2, .int ((a2 102).getD l2_2.toNatClampNeg 0)), (5, .int ((a2 102).getD l2_2.toNatClampNeg 0)), (4, .int ((a2 101).getD l2_2.toNatClampNeg 0)), (0, .ref 100), (1, .ref 24)] [] (by rfl) ?_ | refine ft_goL mi_k21 5 9 [(3, .int (l3_2 + 1)), (2, .int ((a2 102).getD l2_2.toNatClampNeg 0)), (5, .int ((a2 102).getD l2_2.toNatClampNeg 0)), (4, .int ((a2 101).getD l2_2.toNatClampNeg 0)), (0, .ref 100), (1, .ref 24)] [] (by rfl) ?_ | refine ft_go mi_k21 5 9 [(3, .int (l3_2 + 1)), (2, .int ((a2 102).getD l2_2.toNatClampNeg 0)), (5, .int ((a2 102).getD l2_2.toNatClampNeg 0)), (4, .int ((a2 101).getD l2_2.toNatClampNeg 0)), (0, .ref 100), (1, .ref 24)] [] ig36 ag36 qg36 rg36 (by rfl) ?_ | refine ko_steps mi_in21 5 _ (9, [(3, .int (l3_2 + 1)), (2, .int ((a2 102).getD l2_2.toNatClampNeg 0)), (5, .int ((a2 102).getD l2_2.toNatClampNeg 0)), (4, .int ((a2 101).getD l2_2.toNatClampNeg 0)), (0, .ref 100), (1, .ref 24)], [], (0, 0), ks ig36 ag36 qg36 rg36) (by rfl) ?_
                refine ko_perm [(3, .int (l3_2 + 1)), (2, .int ((a2 102).getD l2_2.toNatClampNeg 0)), (0, .ref 100), (1, .ref 24)] (List.forall_mem_cons.mpr ⟨(List.Mem.head _), (List.forall_mem_cons.mpr ⟨(List.Mem.tail _ (List.Mem.head _)), (List.forall_mem_cons.mpr ⟨(List.Mem.tail _ (List.Mem.tail _ (List.Mem.tail _ (List.Mem.tail _ (List.Mem.head _))))), (List.forall_mem_cons.mpr ⟨(List.Mem.tail _ (List.Mem.tail _ (List.Mem.tail _ (List.Mem.tail _ (List.Mem.tail _ (List.Mem.head _)))))), (fun _ h => absurd h List.not_mem_nil)⟩)⟩)⟩)⟩) ?_
                exact ih2 _ _ _ _ _ _ hGg36 (od15 p2_0 s41 kod1) (lRun_skip O2_0 (kj_left (od12 c5 kod121) (od21 s41 kod1)) ⟨(od5 c8 kod0), (od20 c11 efi2_6403)⟩ (kL_cast (hL2.fa 101 rfl) (od37 w35)) og36 (by have k0_ : (0 : Int32).toInt = 0 := (by decide); have k6_ : (6 : Int32).toInt = 6 := (by decide); rw [← ((hL2.fa 102 rfl) : a2 102 = a 102)]; split <;> first | rfl | (exfalso; omega))) (kj_meas (od23 s41 kod1) (od24 c5 kod121) hm2)
            by_cases w42 : ((a2 101).getD l2_2.toNatClampNeg 0).toInt = 33
            ·
              refine ft_swx mi_k21 (pc := 48) (v := 33) (t := 162) (kj_eq w42 (by decide) : ((a2 101).getD l2_2.toNatClampNeg 0) = 33) (by decide +kernel) ?_
              refine fo_goS mi_k21 fz21_162_2_164 [.ref 100, .ref 100] rfl ?_
              refine ko_callI mi_k21.1 (pc := 164) (ls := [(2, .int (l2_2 + 1)), (5, .int ((a2 102).getD l2_2.toNatClampNeg 0)), (4, .int ((a2 101).getD l2_2.toNatClampNeg 0)), (3, .int l3_2), (0, .ref 100), (1, .ref 24)]) (st := [.ref 100, .ref 100]) (h := ks i2 a2 q2 r2) (i := (.invokevirtual 36, 3, 20, 0, 9, 0, 226)) (mi_k21.2 _ _ (by rfl)) (ft_invS mi_pq20 (by rfl)) (cy := mi_c20) mi_pq20 rfl (ke20_100 hL2.I hL2.R ) (by decide) ?_
              intro vg43 ig43 ag43 qg43 rg43 kg43 hg43
              have hGg43 := kG_call hL2 kg43 (by decide +kernel)
              obtain ⟨hg43, og43⟩ := hg43
              have fi2_6405 : ((0 : Int) ≤ (i2 6405).toInt) ∧ ((i2 6405).toInt ≤ 121) := hL2.I.1 6405
              have fig43_6405 : ((0 : Int) ≤ (ig43 6405).toInt) ∧ ((ig43 6405).toInt ≤ 121) := hGg43.I.1 6405
              have z44 : (((1 : Int) ≤ (i2 6405).toInt) ∧ ((ig43 6405).toInt = ((i2 6405).toInt - 1))) ∨ (((i2 6405).toInt ≤ 0) ∧ ((ig43 6405).toInt = (i2 6405).toInt)) := hg43
              refine ft_ifS mi_k21 (vg43 != 0) 174 170 [.ref 100] (by rfl) (fun c => ?_) (fun c => ?_)
              ·
                have c45 : vg43.toInt ≠ (0 : Int32).toInt := kd_ne c; clear c
                first | refine fo_goS mi_k21 fz21_171_1_175 [.int 0, .ref 100] (by rfl) ?_ | refine fo_goS mi_k21 fz21_174_1_175 [.int 0, .ref 100] (by rfl) ?_
                refine ko_callN mi_k21.1 (pc := 175) (ls := [(2, .int (l2_2 + 1)), (5, .int ((a2 102).getD l2_2.toNatClampNeg 0)), (4, .int ((a2 101).getD l2_2.toNatClampNeg 0)), (3, .int l3_2), (0, .ref 100), (1, .ref 24)]) (st := [.int 0, .ref 100]) (h := ks ig43 ag43 qg43 rg43) (i := (.invokevirtual 32, 3, 19, 0, 9, 0, 225)) (mi_k21.2 _ _ (by rfl)) (ft_invS mi_pq19 (by rfl)) (cy := mi_c19) mi_pq19 rfl (ke19_100 hGg43.I hGg43.R 0) (by decide) ?_
                intro ig46 ag46 qg46 rg46 kg46 hg46
                have hGg46 := kG_call hGg43 kg46 (by decide +kernel)
                obtain ⟨hg46, og46⟩ := hg46
                have fig46_6405 : ((0 : Int) ≤ (ig46 6405).toInt) ∧ ((ig46 6405).toInt ≤ 121) := hGg46.I.1 6405
                have z47 : (((ig43 6405).toInt ≤ 120) ∧ ((ig46 6405).toInt = ((ig43 6405).toInt + 1))) ∨ (((121 : Int) ≤ (ig43 6405).toInt) ∧ ((ig46 6405).toInt = (ig43 6405).toInt)) := hg46
                have s48 : (l3_2 + 1).toInt = l3_2.toInt + (1 : Int32).toInt := kd_add (od13 p2_0 kod1) (od19 c5 kod121 kod1)
                first | refine fo_goL mi_k21 fz21_6_3_9 [(3, .int (l3_2 + 1)), (2, .int (l2_2 + 1)), (5, .int ((a2 102).getD l2_2.toNatClampNeg 0)), (4, .int ((a2 101).getD l2_2.toNatClampNeg 0)), (0, .ref 100), (1, .ref 24)] [] (by rfl) ?_ | refine fo_goL mi_k21 fz21_114_3_9 [(3, .int (l3_2 + 1)), (2, .int (l2_2 + 1)), (5, .int ((a2 102).getD l2_2.toNatClampNeg 0)), (4, .int ((a2 101).getD l2_2.toNatClampNeg 0)), (0, .ref 100), (1, .ref 24)] [] (by rfl) ?_ | refine fo_goL mi_k21 fz21_141_3_9 [(3, .int (l3_2 + 1)), (2, .int (l2_2 + 1)), (5, .int ((a2 102).getD l2_2.toNatClampNeg 0)), (4, .int ((a2 101).getD l2_2.toNatClampNeg 0)), (0, .ref 100), (1, .ref 24)] [] (by rfl) ?_ | refine fo_goL mi_k21 fz21_153_3_9 [(3, .int (l3_2 + 1)), (2, .int (l2_2 + 1)), (5, .int ((a2 102).getD l2_2.toNatClampNeg 0)), (4, .int ((a2 101).getD l2_2.toNatClampNeg 0)), (0, .ref 100), (1, .ref 24)] [] (by rfl) ?_ | refine fo_goL mi_k21 fz21_159_3_9 [(3, .int (l3_2 + 1)), (2, .int (l2_2 + 1)), (5, .int ((a2 102).getD l2_2.toNatClampNeg 0)), (4, .int ((a2 101).getD l2_2.toNatClampNeg 0)), (0, .ref 100), (1, .ref 24)] [] (by rfl) ?_ | refine fo_goL mi_k21 fz21_178_3_9 [(3, .int (l3_2 + 1)), (2, .int (l2_2 + 1)), (5, .int ((a2 102).getD l2_2.toNatClampNeg 0)), (4, .int ((a2 101).getD l2_2.toNatClampNeg 0)), (0, .ref 100), (1, .ref 24)] [] (by rfl) ?_ | refine fo_goL mi_k21 fz21_190_3_9 [(3, .int (l3_2 + 1)), (2, .int (l2_2 + 1)), (5, .int ((a2 102).getD l2_2.toNatClampNeg 0)), (4, .int ((a2 101).getD l2_2.toNatClampNeg 0)), (0, .ref 100), (1, .ref 24)] [] (by rfl) ?_ | refine ft_goL mi_k21 3 9 [(3, .int (l3_2 + 1)), (2, .int (l2_2 + 1)), (5, .int ((a2 102).getD l2_2.toNatClampNeg 0)), (4, .int ((a2 101).getD l2_2.toNatClampNeg 0)), (0, .ref 100), (1, .ref 24)] [] (by rfl) ?_ | refine ko_steps mi_in21 3 _ (9, [(3, .int (l3_2 + 1)), (2, .int (l2_2 + 1)), (5, .int ((a2 102).getD l2_2.toNatClampNeg 0)), (4, .int ((a2 101).getD l2_2.toNatClampNeg 0)), (0, .ref 100), (1, .ref 24)], [], (0, 0), ks ig46 ag46 qg46 rg46) (by rfl) ?_
                refine ko_perm [(3, .int (l3_2 + 1)), (2, .int (l2_2 + 1)), (0, .ref 100), (1, .ref 24)] (List.forall_mem_cons.mpr ⟨(List.Mem.head _), (List.forall_mem_cons.mpr ⟨(List.Mem.tail _ (List.Mem.head _)), (List.forall_mem_cons.mpr ⟨(List.Mem.tail _ (List.Mem.tail _ (List.Mem.tail _ (List.Mem.tail _ (List.Mem.head _))))), (List.forall_mem_cons.mpr ⟨(List.Mem.tail _ (List.Mem.tail _ (List.Mem.tail _ (List.Mem.tail _ (List.Mem.tail _ (List.Mem.head _)))))), (fun _ h => absurd h List.not_mem_nil)⟩)⟩)⟩)⟩) ?_
                exact ih2 _ _ _ _ _ _ hGg46 (od15 p2_0 s48 kod1) (lRun_not O2_0 (kj_left (od12 c5 kod121) (od21 s48 kod1)) ⟨(od5 c8 kod0), (od20 c11 efi2_6403)⟩ (kL_cast (hL2.fa 101 rfl) (od38 w42)) og43 (by have k0_ : (0 : Int32).toInt = 0 := (by decide); have k6_ : (6 : Int32).toInt = 6 := (by decide); split <;> first | rfl | (exfalso; omega)) og46) (kj_meas (od23 s48 kod1) (od24 c5 kod121) hm2)
              ·
                have c49 : vg43.toInt = (0 : Int32).toInt := kd_neF c; clear c
                first | refine fo_goS mi_k21 fz21_170_2_175 [.int 1, .ref 100] (by rfl) ?_ | refine fo_goS mi_k21 fz21_167_2_175 [.int 1, .ref 100] (by rfl) ?_
                refine ko_callN mi_k21.1 (pc := 175) (ls := [(2, .int (l2_2 + 1)), (5, .int ((a2 102).getD l2_2.toNatClampNeg 0)), (4, .int ((a2 101).getD l2_2.toNatClampNeg 0)), (3, .int l3_2), (0, .ref 100), (1, .ref 24)]) (st := [.int 1, .ref 100]) (h := ks ig43 ag43 qg43 rg43) (i := (.invokevirtual 32, 3, 19, 0, 9, 0, 225)) (mi_k21.2 _ _ (by rfl)) (ft_invS mi_pq19 (by rfl)) (cy := mi_c19) mi_pq19 rfl (ke19_100 hGg43.I hGg43.R 1) (by decide) ?_
                intro ig50 ag50 qg50 rg50 kg50 hg50
                have hGg50 := kG_call hGg43 kg50 (by decide +kernel)
                obtain ⟨hg50, og50⟩ := hg50
                have fig50_6405 : ((0 : Int) ≤ (ig50 6405).toInt) ∧ ((ig50 6405).toInt ≤ 121) := hGg50.I.1 6405
                have z51 : (((ig43 6405).toInt ≤ 120) ∧ ((ig50 6405).toInt = ((ig43 6405).toInt + 1))) ∨ (((121 : Int) ≤ (ig43 6405).toInt) ∧ ((ig50 6405).toInt = (ig43 6405).toInt)) := hg50
                have s52 : (l3_2 + 1).toInt = l3_2.toInt + (1 : Int32).toInt := kd_add (od13 p2_0 kod1) (od19 c5 kod121 kod1)
                first | refine fo_goL mi_k21 fz21_6_3_9 [(3, .int (l3_2 + 1)), (2, .int (l2_2 + 1)), (5, .int ((a2 102).getD l2_2.toNatClampNeg 0)), (4, .int ((a2 101).getD l2_2.toNatClampNeg 0)), (0, .ref 100), (1, .ref 24)] [] (by rfl) ?_ | refine fo_goL mi_k21 fz21_114_3_9 [(3, .int (l3_2 + 1)), (2, .int (l2_2 + 1)), (5, .int ((a2 102).getD l2_2.toNatClampNeg 0)), (4, .int ((a2 101).getD l2_2.toNatClampNeg 0)), (0, .ref 100), (1, .ref 24)] [] (by rfl) ?_ | refine fo_goL mi_k21 fz21_141_3_9 [(3, .int (l3_2 + 1)), (2, .int (l2_2 + 1)), (5, .int ((a2 102).getD l2_2.toNatClampNeg 0)), (4, .int ((a2 101).getD l2_2.toNatClampNeg 0)), (0, .ref 100), (1, .ref 24)] [] (by rfl) ?_ | refine fo_goL mi_k21 fz21_153_3_9 [(3, .int (l3_2 + 1)), (2, .int (l2_2 + 1)), (5, .int ((a2 102).getD l2_2.toNatClampNeg 0)), (4, .int ((a2 101).getD l2_2.toNatClampNeg 0)), (0, .ref 100), (1, .ref 24)] [] (by rfl) ?_ | refine fo_goL mi_k21 fz21_159_3_9 [(3, .int (l3_2 + 1)), (2, .int (l2_2 + 1)), (5, .int ((a2 102).getD l2_2.toNatClampNeg 0)), (4, .int ((a2 101).getD l2_2.toNatClampNeg 0)), (0, .ref 100), (1, .ref 24)] [] (by rfl) ?_ | refine fo_goL mi_k21 fz21_178_3_9 [(3, .int (l3_2 + 1)), (2, .int (l2_2 + 1)), (5, .int ((a2 102).getD l2_2.toNatClampNeg 0)), (4, .int ((a2 101).getD l2_2.toNatClampNeg 0)), (0, .ref 100), (1, .ref 24)] [] (by rfl) ?_ | refine fo_goL mi_k21 fz21_190_3_9 [(3, .int (l3_2 + 1)), (2, .int (l2_2 + 1)), (5, .int ((a2 102).getD l2_2.toNatClampNeg 0)), (4, .int ((a2 101).getD l2_2.toNatClampNeg 0)), (0, .ref 100), (1, .ref 24)] [] (by rfl) ?_ | refine ft_goL mi_k21 3 9 [(3, .int (l3_2 + 1)), (2, .int (l2_2 + 1)), (5, .int ((a2 102).getD l2_2.toNatClampNeg 0)), (4, .int ((a2 101).getD l2_2.toNatClampNeg 0)), (0, .ref 100), (1, .ref 24)] [] (by rfl) ?_ | refine ko_steps mi_in21 3 _ (9, [(3, .int (l3_2 + 1)), (2, .int (l2_2 + 1)), (5, .int ((a2 102).getD l2_2.toNatClampNeg 0)), (4, .int ((a2 101).getD l2_2.toNatClampNeg 0)), (0, .ref 100), (1, .ref 24)], [], (0, 0), ks ig50 ag50 qg50 rg50) (by rfl) ?_
                refine ko_perm [(3, .int (l3_2 + 1)), (2, .int (l2_2 + 1)), (0, .ref 100), (1, .ref 24)] (List.forall_mem_cons.mpr ⟨(List.Mem.head _), (List.forall_mem_cons.mpr ⟨(List.Mem.tail _ (List.Mem.head _)), (List.forall_mem_cons.mpr ⟨(List.Mem.tail _ (List.Mem.tail _ (List.Mem.tail _ (List.Mem.tail _ (List.Mem.head _))))), (List.forall_mem_cons.mpr ⟨(List.Mem.tail _ (List.Mem.tail _ (List.Mem.tail _ (List.Mem.tail _ (List.Mem.tail _ (List.Mem.head _)))))), (fun _ h => absurd h List.not_mem_nil)⟩)⟩)⟩)⟩) ?_
                exact ih2 _ _ _ _ _ _ hGg50 (od15 p2_0 s52 kod1) (lRun_not O2_0 (kj_left (od12 c5 kod121) (od21 s52 kod1)) ⟨(od5 c8 kod0), (od20 c11 efi2_6403)⟩ (kL_cast (hL2.fa 101 rfl) (od38 w42)) og43 (by have k0_ : (0 : Int32).toInt = 0 := (by decide); have k6_ : (6 : Int32).toInt = 6 := (by decide); split <;> first | rfl | (exfalso; omega)) og50) (kj_meas (od23 s52 kod1) (od24 c5 kod121) hm2)
            by_cases w53 : ((a2 101).getD l2_2.toNatClampNeg 0).toInt = 126
            ·
              refine ft_swx mi_k21 (pc := 48) (v := 126) (t := 181) (kj_eq w53 (by decide) : ((a2 101).getD l2_2.toNatClampNeg 0) = 126) (by decide +kernel) ?_
              refine fo_goS mi_k21 fz21_181_2_183 [.ref 100, .ref 100] rfl ?_
              refine ko_callI mi_k21.1 (pc := 183) (ls := [(2, .int (l2_2 + 1)), (5, .int ((a2 102).getD l2_2.toNatClampNeg 0)), (4, .int ((a2 101).getD l2_2.toNatClampNeg 0)), (3, .int l3_2), (0, .ref 100), (1, .ref 24)]) (st := [.ref 100, .ref 100]) (h := ks i2 a2 q2 r2) (i := (.invokevirtual 36, 3, 20, 0, 9, 0, 226)) (mi_k21.2 _ _ (by rfl)) (ft_invS mi_pq20 (by rfl)) (cy := mi_c20) mi_pq20 rfl (ke20_100 hL2.I hL2.R ) (by decide) ?_
              intro vg54 ig54 ag54 qg54 rg54 kg54 hg54
              have hGg54 := kG_call hL2 kg54 (by decide +kernel)
              obtain ⟨hg54, og54⟩ := hg54
              refine fo_goS mi_k21 fz21_186_1_187 [.int (-vg54), .ref 100] rfl ?_
              refine ko_callN mi_k21.1 (pc := 187) (ls := [(2, .int (l2_2 + 1)), (5, .int ((a2 102).getD l2_2.toNatClampNeg 0)), (4, .int ((a2 101).getD l2_2.toNatClampNeg 0)), (3, .int l3_2), (0, .ref 100), (1, .ref 24)]) (st := [.int (-vg54), .ref 100]) (h := ks ig54 ag54 qg54 rg54) (i := (.invokevirtual 32, 3, 19, 0, 9, 0, 225)) (mi_k21.2 _ _ (by rfl)) (ft_invS mi_pq19 (by rfl)) (cy := mi_c19) mi_pq19 rfl (ke19_100 hGg54.I hGg54.R (-vg54)) (by decide) ?_
              intro ig56 ag56 qg56 rg56 kg56 hg56
              have hGg56 := kG_call hGg54 kg56 (by decide +kernel)
              obtain ⟨hg56, og56⟩ := hg56
              have s58 : (l3_2 + 1).toInt = l3_2.toInt + (1 : Int32).toInt := kd_add (od13 p2_0 kod1) (od19 c5 kod121 kod1)
              first | refine fo_goL mi_k21 fz21_6_3_9 [(3, .int (l3_2 + 1)), (2, .int (l2_2 + 1)), (5, .int ((a2 102).getD l2_2.toNatClampNeg 0)), (4, .int ((a2 101).getD l2_2.toNatClampNeg 0)), (0, .ref 100), (1, .ref 24)] [] (by rfl) ?_ | refine fo_goL mi_k21 fz21_114_3_9 [(3, .int (l3_2 + 1)), (2, .int (l2_2 + 1)), (5, .int ((a2 102).getD l2_2.toNatClampNeg 0)), (4, .int ((a2 101).getD l2_2.toNatClampNeg 0)), (0, .ref 100), (1, .ref 24)] [] (by rfl) ?_ | refine fo_goL mi_k21 fz21_141_3_9 [(3, .int (l3_2 + 1)), (2, .int (l2_2 + 1)), (5, .int ((a2 102).getD l2_2.toNatClampNeg 0)), (4, .int ((a2 101).getD l2_2.toNatClampNeg 0)), (0, .ref 100), (1, .ref 24)] [] (by rfl) ?_ | refine fo_goL mi_k21 fz21_153_3_9 [(3, .int (l3_2 + 1)), (2, .int (l2_2 + 1)), (5, .int ((a2 102).getD l2_2.toNatClampNeg 0)), (4, .int ((a2 101).getD l2_2.toNatClampNeg 0)), (0, .ref 100), (1, .ref 24)] [] (by rfl) ?_ | refine fo_goL mi_k21 fz21_159_3_9 [(3, .int (l3_2 + 1)), (2, .int (l2_2 + 1)), (5, .int ((a2 102).getD l2_2.toNatClampNeg 0)), (4, .int ((a2 101).getD l2_2.toNatClampNeg 0)), (0, .ref 100), (1, .ref 24)] [] (by rfl) ?_ | refine fo_goL mi_k21 fz21_178_3_9 [(3, .int (l3_2 + 1)), (2, .int (l2_2 + 1)), (5, .int ((a2 102).getD l2_2.toNatClampNeg 0)), (4, .int ((a2 101).getD l2_2.toNatClampNeg 0)), (0, .ref 100), (1, .ref 24)] [] (by rfl) ?_ | refine fo_goL mi_k21 fz21_190_3_9 [(3, .int (l3_2 + 1)), (2, .int (l2_2 + 1)), (5, .int ((a2 102).getD l2_2.toNatClampNeg 0)), (4, .int ((a2 101).getD l2_2.toNatClampNeg 0)), (0, .ref 100), (1, .ref 24)] [] (by rfl) ?_ | refine ft_goL mi_k21 3 9 [(3, .int (l3_2 + 1)), (2, .int (l2_2 + 1)), (5, .int ((a2 102).getD l2_2.toNatClampNeg 0)), (4, .int ((a2 101).getD l2_2.toNatClampNeg 0)), (0, .ref 100), (1, .ref 24)] [] (by rfl) ?_ | refine ko_steps mi_in21 3 _ (9, [(3, .int (l3_2 + 1)), (2, .int (l2_2 + 1)), (5, .int ((a2 102).getD l2_2.toNatClampNeg 0)), (4, .int ((a2 101).getD l2_2.toNatClampNeg 0)), (0, .ref 100), (1, .ref 24)], [], (0, 0), ks ig56 ag56 qg56 rg56) (by rfl) ?_
              refine ko_perm [(3, .int (l3_2 + 1)), (2, .int (l2_2 + 1)), (0, .ref 100), (1, .ref 24)] (List.forall_mem_cons.mpr ⟨(List.Mem.head _), (List.forall_mem_cons.mpr ⟨(List.Mem.tail _ (List.Mem.head _)), (List.forall_mem_cons.mpr ⟨(List.Mem.tail _ (List.Mem.tail _ (List.Mem.tail _ (List.Mem.tail _ (List.Mem.head _))))), (List.forall_mem_cons.mpr ⟨(List.Mem.tail _ (List.Mem.tail _ (List.Mem.tail _ (List.Mem.tail _ (List.Mem.tail _ (List.Mem.head _)))))), (fun _ h => absurd h List.not_mem_nil)⟩)⟩)⟩)⟩) ?_
              exact ih2 _ _ _ _ _ _ hGg56 (od15 p2_0 s58 kod1) (lRun_neg O2_0 (kj_left (od12 c5 kod121) (od21 s58 kod1)) ⟨(od5 c8 kod0), (od20 c11 efi2_6403)⟩ (kL_cast (hL2.fa 101 rfl) (od39 w53)) og54 rfl og56) (kj_meas (od23 s58 kod1) (od24 c5 kod121) hm2)
            refine ko_lsw (ls := [(2, .int (l2_2 + 1)), (5, .int ((a2 102).getD l2_2.toNatClampNeg 0)), (4, .int ((a2 101).getD l2_2.toNatClampNeg 0)), (3, .int l3_2), (0, .ref 100), (1, .ref 24)]) (r := []) (h := ks i2 a2 q2 r2) mi_in21 (v := ((a2 101).getD l2_2.toNatClampNeg 0)) (i := (.lookupswitch 145 #[(0, 60), (1, 69), (2, 96), (3, 101), (33, 114), (126, 133)], 60, 0, 0, 0, 0, 0)) (by rfl) rfl (by simp only [Op.lookupswitch.offset, if_neg (Ne.symm w13), if_neg (Ne.symm w17), if_neg (Ne.symm w31), if_neg (Ne.symm w35), if_neg (Ne.symm w42), if_neg (Ne.symm w53)] <;> rfl) 193 (by rfl) ?_
            refine fo_goS mi_k21 fz21_193_1_194 [.ref 100] rfl ?_
            refine ko_callI mi_k21.1 (pc := 194) (ls := [(2, .int (l2_2 + 1)), (5, .int ((a2 102).getD l2_2.toNatClampNeg 0)), (4, .int ((a2 101).getD l2_2.toNatClampNeg 0)), (3, .int l3_2), (0, .ref 100), (1, .ref 24)]) (st := [.ref 100]) (h := ks i2 a2 q2 r2) (i := (.invokevirtual 36, 3, 20, 0, 9, 0, 226)) (mi_k21.2 _ _ (by rfl)) (ft_invS mi_pq20 (by rfl)) (cy := mi_c20) mi_pq20 rfl (ke20_100 hL2.I hL2.R ) (by decide) ?_
            intro vg59 ig59 ag59 qg59 rg59 kg59 hg59
            have hGg59 := kG_call hL2 kg59 (by decide +kernel)
            obtain ⟨hg59, og59⟩ := hg59
            refine fo_goL mi_k21 fz21_197_4_203 [(6, .int vg59), (2, .int (l2_2 + 1)), (5, .int ((a2 102).getD l2_2.toNatClampNeg 0)), (4, .int ((a2 101).getD l2_2.toNatClampNeg 0)), (3, .int l3_2), (0, .ref 100), (1, .ref 24)] [.ref 100, .int ((a2 101).getD l2_2.toNatClampNeg 0), .ref 100] rfl ?_
            refine ko_callI mi_k21.1 (pc := 203) (ls := [(6, .int vg59), (2, .int (l2_2 + 1)), (5, .int ((a2 102).getD l2_2.toNatClampNeg 0)), (4, .int ((a2 101).getD l2_2.toNatClampNeg 0)), (3, .int l3_2), (0, .ref 100), (1, .ref 24)]) (st := [.ref 100, .int ((a2 101).getD l2_2.toNatClampNeg 0), .ref 100]) (h := ks ig59 ag59 qg59 rg59) (i := (.invokevirtual 36, 3, 20, 0, 9, 0, 226)) (mi_k21.2 _ _ (by rfl)) (ft_invS mi_pq20 (by rfl)) (cy := mi_c20) mi_pq20 rfl (ke20_100 hGg59.I hGg59.R ) (by decide) ?_
            intro vg61 ig61 ag61 qg61 rg61 kg61 hg61
            have hGg61 := kG_call hGg59 kg61 (by decide +kernel)
            obtain ⟨hg61, og61⟩ := hg61
            refine fo_goS mi_k21 fz21_206_1_208 [.int vg59, .int vg61, .int ((a2 101).getD l2_2.toNatClampNeg 0), .ref 100] rfl ?_
            refine ko_callPI mi_k21.1 (pc := 208) (ls := [(6, .int vg59), (2, .int (l2_2 + 1)), (5, .int ((a2 102).getD l2_2.toNatClampNeg 0)), (4, .int ((a2 101).getD l2_2.toNatClampNeg 0)), (3, .int l3_2), (0, .ref 100), (1, .ref 24)]) (st := [.int vg59, .int vg61, .int ((a2 101).getD l2_2.toNatClampNeg 0), .ref 100]) (h := ks ig61 ag61 qg61 rg61) (i := (.invokestatic 40, 3, 22, 0, 9, 0, 227)) (mi_k21.2 _ _ (by rfl)) (ft_invS mi_pq22 (by rfl)) (cy := mi_c22) mi_pq22 rfl (ke22 hGg61.I hGg61.R ((a2 101).getD l2_2.toNatClampNeg 0) vg61 vg59) (by decide) ?_
            intro vg63 hg63
            obtain ⟨hg63, og63⟩ := hg63
            have q64 : vg63 = cJoin ((a2 101).getD l2_2.toNatClampNeg 0) vg61 vg59 := og63
            refine ko_callN mi_k21.1 (pc := 211) (ls := [(6, .int vg59), (2, .int (l2_2 + 1)), (5, .int ((a2 102).getD l2_2.toNatClampNeg 0)), (4, .int ((a2 101).getD l2_2.toNatClampNeg 0)), (3, .int l3_2), (0, .ref 100), (1, .ref 24)]) (st := [.int vg63, .ref 100]) (h := ks ig61 ag61 qg61 rg61) (i := (.invokevirtual 32, 3, 19, 0, 9, 0, 225)) (mi_k21.2 _ _ (by rfl)) (ft_invS mi_pq19 (by rfl)) (cy := mi_c19) mi_pq19 rfl (ke19_100 hGg61.I hGg61.R vg63) (by decide) ?_
            intro ig65 ag65 qg65 rg65 kg65 hg65
            have hGg65 := kG_call hGg61 kg65 (by decide +kernel)
            obtain ⟨hg65, og65⟩ := hg65
            have s67 : (l3_2 + 1).toInt = l3_2.toInt + (1 : Int32).toInt := kd_add (od13 p2_0 kod1) (od19 c5 kod121 kod1)
            first | refine fo_goL mi_k21 fz21_7_2_9 [(3, .int (l3_2 + 1)), (6, .int vg59), (2, .int (l2_2 + 1)), (5, .int ((a2 102).getD l2_2.toNatClampNeg 0)), (4, .int ((a2 101).getD l2_2.toNatClampNeg 0)), (0, .ref 100), (1, .ref 24)] [] (by rfl) ?_ | refine fo_goL mi_k21 fz21_214_2_9 [(3, .int (l3_2 + 1)), (6, .int vg59), (2, .int (l2_2 + 1)), (5, .int ((a2 102).getD l2_2.toNatClampNeg 0)), (4, .int ((a2 101).getD l2_2.toNatClampNeg 0)), (0, .ref 100), (1, .ref 24)] [] (by rfl) ?_
            refine ko_perm [(3, .int (l3_2 + 1)), (2, .int (l2_2 + 1)), (0, .ref 100), (1, .ref 24)] (List.forall_mem_cons.mpr ⟨(List.Mem.head _), (List.forall_mem_cons.mpr ⟨(List.Mem.tail _ (List.Mem.tail _ (List.Mem.head _))), (List.forall_mem_cons.mpr ⟨(List.Mem.tail _ (List.Mem.tail _ (List.Mem.tail _ (List.Mem.tail _ (List.Mem.tail _ (List.Mem.head _)))))), (List.forall_mem_cons.mpr ⟨(List.Mem.tail _ (List.Mem.tail _ (List.Mem.tail _ (List.Mem.tail _ (List.Mem.tail _ (List.Mem.tail _ (List.Mem.head _))))))), (fun _ h => absurd h List.not_mem_nil)⟩)⟩)⟩)⟩) ?_
            exact ih2 _ _ _ _ _ _ hGg65 (od15 p2_0 s67 kod1) (lRun_bin O2_0 (kj_left (od12 c5 kod121) (od21 s67 kod1)) ⟨(od5 c8 kod0), (od20 c11 efi2_6403)⟩ (kL_castn (hL2.fa 101 rfl) (od41 w13)) (kL_castn (hL2.fa 101 rfl) (od42 w13 w17)) (kL_castn (hL2.fa 101 rfl) (od43 w13 w17 w31)) (kL_castn (hL2.fa 101 rfl) (od44 w13 w17 w31 w35)) (kL_castn (hL2.fa 101 rfl) (od45 w42)) (kL_castn (hL2.fa 101 rfl) (od46 w53)) og59 og61 (og63.trans (congrArg (fun z : List Int32 => cJoin (z.getD l2_2.toNatClampNeg 0) _ _) (hL2.fa 101 rfl))) og65) (kj_meas (od23 s67 kod1) (od24 c5 kod121) hm2)
  exact lp2 _ _ _ _ _ _ _ (kG_self _ hJ1.I hJ1.R) (od0 kod0) (by rw [kod0]; rfl) (Nat.lt_succ_self _)
noncomputable def yw31_1 : kW := ([645, 6405], [13, 24, 103], [], [])
set_option maxRecDepth 100000 in
theorem ke31_1 {i : Nat → Int32} {a : Nat → List Int32} {q : Nat → List Int64} {r : Nat → Nat} (hI : kI i a q) (hr : kr r) (x1 : Int32) (x2 : Int32) (hp0 : ((0 : Int) ≤ x1.toInt) ∧ (x1.toInt ≤ 7)) : km 5 31 [.ref 1, .int x1, .int x2] (ks i a q r) (kVI yw31_1 i a q r (fun v i1 a1 q1 r1 => (True) ∧ v = cBuyV (i (64 * r 0)) (a (r 0 + 1)) (a (r 0 + 2)) (a (r 0 + 3)) (i (64 * r 0 + 3)) ((a 3).getD x1.toNatClampNeg 0) x2 ((a 4).getD x1.toNatClampNeg 0) (i 73) ((a 6).getD x1.toNatClampNeg 0) (i 72))) := by
  have hG := kG_self yw31_1 hI hr
  refine km_ofI (q := (mi_h31, mi_c31)) rfl (by decide) (Nat.le_of_ble_eq_true rfl) ?_
  intro P hP
  refine fo_goL mi_k31 fz31_0_4_6 [(0, .ref 1), (1, .int x1), (2, .int x2)] [.int x1, .ref 3, .int 5] rfl ?_
  refine ko_iald3 mi_k31.1 (n := 8) (c := 8) (ax := (0, 0, 0, 0, 0)) (mi_k31.2 _ _ (by rfl)) (by rfl) (ksG3 _ _ _ _) (hG.I.2.1 3) rfl (od11 hp0.1) (od47 hp0.2) ?_
  have b1 : ((-2147483648 : Int) ≤ ((a 3).getD x1.toNatClampNeg 0).toInt) ∧ (((a 3).getD x1.toNatClampNeg 0).toInt ≤ 2147483647) := kd_bd ((a 3).getD x1.toNatClampNeg 0)
  refine fo_goS mi_k31 fz31_7_4_13 [.int x1, .ref 4, .int (5 * ((a 3).getD x1.toNatClampNeg 0))] rfl ?_
  refine ko_iald3 mi_k31.1 (n := 8) (c := 8) (ax := (0, 0, 0, 0, 0)) (mi_k31.2 _ _ (by rfl)) (by rfl) (ksG4 _ _ _ _) (hG.I.2.1 4) rfl (od11 hp0.1) (od47 hp0.2) ?_
  have b2 : ((-2147483648 : Int) ≤ (5 * ((a 3).getD x1.toNatClampNeg 0)).toInt) ∧ ((5 * ((a 3).getD x1.toNatClampNeg 0)).toInt ≤ 2147483647) := kd_bd (5 * ((a 3).getD x1.toNatClampNeg 0))
  have b3 : ((-2147483648 : Int) ≤ ((a 4).getD x1.toNatClampNeg 0).toInt) ∧ (((a 4).getD x1.toNatClampNeg 0).toInt ≤ 2147483647) := kd_bd ((a 4).getD x1.toNatClampNeg 0)
  refine fo_goS mi_k31 fz31_14_5_21 [.int x1, .ref 6, .int 2, .int ((5 * ((a 3).getD x1.toNatClampNeg 0)) + ((a 4).getD x1.toNatClampNeg 0))] rfl ?_
  refine ko_iald3 mi_k31.1 (n := 8) (c := 8) (ax := (0, 0, 0, 0, 0)) (mi_k31.2 _ _ (by rfl)) (by rfl) (ksG6 _ _ _ _) (hG.I.2.1 6) rfl (od11 hp0.1) (od47 hp0.2) ?_
  have b4 : ((-2147483648 : Int) ≤ ((a 6).getD x1.toNatClampNeg 0).toInt) ∧ (((a 6).getD x1.toNatClampNeg 0).toInt ≤ 2147483647) := kd_bd ((a 6).getD x1.toNatClampNeg 0)
  have b5 : ((-2147483648 : Int) ≤ ((5 * ((a 3).getD x1.toNatClampNeg 0)) + ((a 4).getD x1.toNatClampNeg 0)).toInt) ∧ (((5 * ((a 3).getD x1.toNatClampNeg 0)) + ((a 4).getD x1.toNatClampNeg 0)).toInt ≤ 2147483647) := kd_bd ((5 * ((a 3).getD x1.toNatClampNeg 0)) + ((a 4).getD x1.toNatClampNeg 0))
  have b6 : ((-2147483648 : Int) ≤ (2 * ((a 6).getD x1.toNatClampNeg 0)).toInt) ∧ ((2 * ((a 6).getD x1.toNatClampNeg 0)).toInt ≤ 2147483647) := kd_bd (2 * ((a 6).getD x1.toNatClampNeg 0))
  refine fo_goL mi_k31 fz31_22_5_29 [(3, .int (((5 * ((a 3).getD x1.toNatClampNeg 0)) + ((a 4).getD x1.toNatClampNeg 0)) - (2 * ((a 6).getD x1.toNatClampNeg 0)))), (0, .ref 1), (1, .int x1), (2, .int x2)] [.ref (r 0)] rfl ?_
  rcases hG.R.1 with ⟨eRr_0, eRr_2⟩ | ⟨eRr_0, eRr_2⟩
  ·
    have eRr_0 : r 0 = 10 := eRr_0
    have eRr_2 : r 2 = 100 := eRr_2
    refine ko_eq (x1 := (29, [(3, .int (((5 * ((a 3).getD x1.toNatClampNeg 0)) + ((a 4).getD x1.toNatClampNeg 0)) - (2 * ((a 6).getD x1.toNatClampNeg 0)))), (0, .ref 1), (1, .int x1), (2, .int x2)], [.ref 10], (0, 0), ks i a q r)) (by rw [eRr_0]) ?_
    have fi_640 : ((0 : Int) ≤ (i 640).toInt) ∧ ((i 640).toInt ≤ 1) := hG.I.1 640
    refine fo_goS mi_k31 fz31_29_1_32 [.int (i 640)] rfl ?_
    refine ft_ifS mi_k31 ((i 640) == 0) 110 35 [] (by rfl) (fun c => ?_) (fun c => ?_)
    ·
      have c7 : (i 640).toInt = (0 : Int32).toInt := kd_eq c; clear c
      refine fo_goS mi_k31 fz31_110_3_114 [.int (((5 * ((a 3).getD x1.toNatClampNeg 0)) + ((a 4).getD x1.toNatClampNeg 0)) - (2 * ((a 6).getD x1.toNatClampNeg 0))), .int 99, .int 0] rfl ?_
      have m9 : (((bif decide ((((5 * ((a 3).getD x1.toNatClampNeg 0)) + ((a 4).getD x1.toNatClampNeg 0)) - (2 * ((a 6).getD x1.toNatClampNeg 0))) < 99) then (((5 * ((a 3).getD x1.toNatClampNeg 0)) + ((a 4).getD x1.toNatClampNeg 0)) - (2 * ((a 6).getD x1.toNatClampNeg 0))) else 99).toInt ≤ (99 : Int32).toInt) ∧ ((bif decide ((((5 * ((a 3).getD x1.toNatClampNeg 0)) + ((a 4).getD x1.toNatClampNeg 0)) - (2 * ((a 6).getD x1.toNatClampNeg 0))) < 99) then (((5 * ((a 3).getD x1.toNatClampNeg 0)) + ((a 4).getD x1.toNatClampNeg 0)) - (2 * ((a 6).getD x1.toNatClampNeg 0))) else 99).toInt ≤ (((5 * ((a 3).getD x1.toNatClampNeg 0)) + ((a 4).getD x1.toNatClampNeg 0)) - (2 * ((a 6).getD x1.toNatClampNeg 0))).toInt)) ∧ ((bif decide ((((5 * ((a 3).getD x1.toNatClampNeg 0)) + ((a 4).getD x1.toNatClampNeg 0)) - (2 * ((a 6).getD x1.toNatClampNeg 0))) < 99) then (((5 * ((a 3).getD x1.toNatClampNeg 0)) + ((a 4).getD x1.toNatClampNeg 0)) - (2 * ((a 6).getD x1.toNatClampNeg 0))) else 99).toInt = (99 : Int32).toInt ∨ (bif decide ((((5 * ((a 3).getD x1.toNatClampNeg 0)) + ((a 4).getD x1.toNatClampNeg 0)) - (2 * ((a 6).getD x1.toNatClampNeg 0))) < 99) then (((5 * ((a 3).getD x1.toNatClampNeg 0)) + ((a 4).getD x1.toNatClampNeg 0)) - (2 * ((a 6).getD x1.toNatClampNeg 0))) else 99).toInt = (((5 * ((a 3).getD x1.toNatClampNeg 0)) + ((a 4).getD x1.toNatClampNeg 0)) - (2 * ((a 6).getD x1.toNatClampNeg 0))).toInt) := kd_min
      refine ft_goS mi_k31 1 117 [.int (bif decide ((((5 * ((a 3).getD x1.toNatClampNeg 0)) + ((a 4).getD x1.toNatClampNeg 0)) - (2 * ((a 6).getD x1.toNatClampNeg 0))) < 99) then (((5 * ((a 3).getD x1.toNatClampNeg 0)) + ((a 4).getD x1.toNatClampNeg 0)) - (2 * ((a 6).getD x1.toNatClampNeg 0))) else 99), .int 0] (by rfl) ?_
      generalize hm8 : (bif decide ((((5 * ((a 3).getD x1.toNatClampNeg 0)) + ((a 4).getD x1.toNatClampNeg 0)) - (2 * ((a 6).getD x1.toNatClampNeg 0))) < 99) then (((5 * ((a 3).getD x1.toNatClampNeg 0)) + ((a 4).getD x1.toNatClampNeg 0)) - (2 * ((a 6).getD x1.toNatClampNeg 0))) else 99) = m8 at m9 ⊢
      have qm8 := hm8.symm
      have m11 : (((0 : Int32).toInt ≤ (bif decide (0 < m8) then m8 else 0).toInt) ∧ (m8.toInt ≤ (bif decide (0 < m8) then m8 else 0).toInt)) ∧ ((bif decide (0 < m8) then m8 else 0).toInt = (0 : Int32).toInt ∨ (bif decide (0 < m8) then m8 else 0).toInt = m8.toInt) := kd_max
      refine ft_goS mi_k31 1 120 [.int (bif decide (0 < m8) then m8 else 0)] (by rfl) ?_
      generalize hm10 : (bif decide (0 < m8) then m8 else 0) = m10 at m11 ⊢
      have qm10 := hm10.symm
      exact ft_ret mi_k31 (by rfl) (hP m10 _ _ _ _ hG ⟨trivial, (show m10 = cBuyV (i (64 * r 0)) (a (r 0 + 1)) (a (r 0 + 2)) (a (r 0 + 3)) (i (64 * r 0 + 3)) ((a 3).getD x1.toNatClampNeg 0) x2 ((a 4).getD x1.toNatClampNeg 0) (i 73) ((a 6).getD x1.toNatClampNeg 0) (i 72) from (by rw [eRr_0]; unfold cBuyV; rw [if_pos (od48 c7 fi_640.1 kod0)]; first | rfl | (simp only [qm10, qm8, sMn, sMx]; rfl)))⟩)
    ·
      have c12 : (i 640).toInt ≠ (0 : Int32).toInt := kd_eqF c; clear c
      refine fo_goS mi_k31 fz31_35_6_45 [.int x1, .ref 3, .int 0, .ref 24] rfl ?_
      refine ko_iald3 mi_k31.1 (n := 8) (c := 8) (ax := (0, 0, 0, 0, 0)) (mi_k31.2 _ _ (by rfl)) (by rfl) (ksG3 _ _ _ _) (hG.I.2.1 3) rfl (od11 hp0.1) (od47 hp0.2) ?_
      refine ko_iast3 mi_k31.1 (n := 6) (c := 6) (ax := (0, 0, 0, 0, 0)) (mi_k31.2 _ _ (by rfl)) (by rfl) (ksG24 _ _ _ _) (ksA24 _ _ _ _) (hG.I.2.1 24) rfl (od0 kod0) (od49 kod0) ?_
      intro a13 ea13 fa13
      have hJ13 := kG_a3 hG 24 rfl ea13 fa13 (kd_bd _)
      refine fo_goS mi_k31 fz31_47_4_53 [.int x2, .int 1, .ref 24] rfl ?_
      refine ko_iast3 mi_k31.1 (n := 6) (c := 6) (ax := (0, 0, 0, 0, 0)) (mi_k31.2 _ _ (by rfl)) (by rfl) (ksG24 _ _ _ _) (ksA24 _ _ _ _) (hJ13.I.2.1 24) rfl (od50 kod1) (od51 kod1) ?_
      intro a14 ea14 fa14
      have hJ14 := kG_a3 hJ13 24 rfl ea14 fa14 (kd_bd _)
      refine fo_goS mi_k31 fz31_54_6_64 [.int x1, .ref 4, .int 2, .ref 24] rfl ?_
      refine ko_iald3 mi_k31.1 (n := 8) (c := 8) (ax := (0, 0, 0, 0, 0)) (mi_k31.2 _ _ (by rfl)) (by rfl) (ksG4 _ _ _ _) (hJ14.I.2.1 4) rfl (od11 hp0.1) (od47 hp0.2) ?_
      refine ko_iast3 mi_k31.1 (n := 6) (c := 6) (ax := (0, 0, 0, 0, 0)) (mi_k31.2 _ _ (by rfl)) (by rfl) (ksG24 _ _ _ _) (ksA24 _ _ _ _) (hJ14.I.2.1 24) rfl (od52 kod2) (od53 kod2) ?_
      intro a15 ea15 fa15
      have hJ15 := kG_a3 hJ14 24 rfl ea15 fa15 (kd_bd _)
      refine fo_goS mi_k31 fz31_66_5_75 [.int (i 73), .int 3, .ref 24] rfl ?_
      refine ko_iast3 mi_k31.1 (n := 6) (c := 6) (ax := (0, 0, 0, 0, 0)) (mi_k31.2 _ _ (by rfl)) (by rfl) (ksG24 _ _ _ _) (ksA24 _ _ _ _) (hJ15.I.2.1 24) rfl (od54 kod3) (od55 kod3) ?_
      intro a16 ea16 fa16
      have hJ16 := kG_a3 hJ15 24 rfl ea16 fa16 (kd_bd _)
      refine fo_goS mi_k31 fz31_76_6_86 [.int x1, .ref 6, .int 4, .ref 24] rfl ?_
      refine ko_iald3 mi_k31.1 (n := 8) (c := 8) (ax := (0, 0, 0, 0, 0)) (mi_k31.2 _ _ (by rfl)) (by rfl) (ksG6 _ _ _ _) (hJ16.I.2.1 6) rfl (od11 hp0.1) (od47 hp0.2) ?_
      refine ko_iast3 mi_k31.1 (n := 6) (c := 6) (ax := (0, 0, 0, 0, 0)) (mi_k31.2 _ _ (by rfl)) (by rfl) (ksG24 _ _ _ _) (ksA24 _ _ _ _) (hJ16.I.2.1 24) rfl (od56 kod4) (od57 kod4) ?_
      intro a17 ea17 fa17
      have hJ17 := kG_a3 hJ16 24 rfl ea17 fa17 (kd_bd _)
      refine fo_goS mi_k31 fz31_88_5_97 [.int (i 72), .int 5, .ref 24] rfl ?_
      refine ko_iast3 mi_k31.1 (n := 6) (c := 6) (ax := (0, 0, 0, 0, 0)) (mi_k31.2 _ _ (by rfl)) (by rfl) (ksG24 _ _ _ _) (ksA24 _ _ _ _) (hJ17.I.2.1 24) rfl (od58 kod5) (od59 kod5) ?_
      intro a18 ea18 fa18
      have hJ18 := kG_a3 hJ17 24 rfl ea18 fa18 (kd_bd _)
      refine fo_goS mi_k31 fz31_98_2_102 [.ref (r 0)] rfl ?_
      refine ko_eq (x1 := (102, [(3, .int (((5 * ((a 3).getD x1.toNatClampNeg 0)) + ((a 4).getD x1.toNatClampNeg 0)) - (2 * ((a 6).getD x1.toNatClampNeg 0)))), (0, .ref 1), (1, .int x1), (2, .int x2)], [.ref 10], (0, 0), ks i a18 q r)) (by rw [eRr_0]) ?_
      have qn19 : a18 24 = [((a 3).getD x1.toNatClampNeg 0), x2, ((a14 4).getD x1.toNatClampNeg 0), (i 73), ((a16 6).getD x1.toNatClampNeg 0), (i 72)] := by rw [ea18, ea17, ea16, ea15, ea14, ea13]; exact kNames ((congrArg List.length (rfl)).trans (hG.I.2.1 24))
      refine fo_goS mi_k31 fz31_102_2_106 [.ref 24, .ref 10] rfl ?_
      refine ko_callI mi_k31.1 (pc := 106) (ls := [(3, .int (((5 * ((a 3).getD x1.toNatClampNeg 0)) + ((a 4).getD x1.toNatClampNeg 0)) - (2 * ((a 6).getD x1.toNatClampNeg 0)))), (0, .ref 1), (1, .int x1), (2, .int x2)]) (st := [.ref 24, .ref 10]) (h := ks i a18 q r) (i := (.invokevirtual 126, 3, 21, 0, 9, 0, 224)) (mi_k31.2 _ _ (by rfl)) (ft_invS mi_pq21 (by rfl)) (cy := mi_c21) mi_pq21 rfl (ke21_10_24 hJ18.I hJ18.R ) (by decide) ?_
      intro vg20 ig20 ag20 qg20 rg20 kg20 hg20
      have hGg20 := kG_call hJ18 kg20 (by decide +kernel)
      have eRrg20_0 : rg20 0 = 10 := (kg20.fr 0 rfl).trans eRr_0
      have eRrg20_2 : rg20 2 = 100 := (kg20.fr 2 rfl).trans eRr_2
      obtain ⟨hg20, og20⟩ := hg20
      have q21 : vg20 = lRun (a18 11) (a18 12) (a18 24) (i 643) 121 0 (a18 13, 0) := og20
      first | refine fo_goS mi_k31 fz31_32_4_114 [.int vg20, .int 99, .int 0] (by rfl) ?_ | refine fo_goL mi_k31 fz31_109_4_114 [(3, .int vg20), (0, .ref 1), (1, .int x1), (2, .int x2)] [.int vg20, .int 99, .int 0] (by rfl) ?_
      have m23 : (((bif decide (vg20 < 99) then vg20 else 99).toInt ≤ (99 : Int32).toInt) ∧ ((bif decide (vg20 < 99) then vg20 else 99).toInt ≤ vg20.toInt)) ∧ ((bif decide (vg20 < 99) then vg20 else 99).toInt = (99 : Int32).toInt ∨ (bif decide (vg20 < 99) then vg20 else 99).toInt = vg20.toInt) := kd_min
      refine ft_goS mi_k31 1 117 [.int (bif decide (vg20 < 99) then vg20 else 99), .int 0] (by rfl) ?_
      generalize hm22 : (bif decide (vg20 < 99) then vg20 else 99) = m22 at m23 ⊢
      have qm22 := hm22.symm
      have m25 : (((0 : Int32).toInt ≤ (bif decide (0 < m22) then m22 else 0).toInt) ∧ (m22.toInt ≤ (bif decide (0 < m22) then m22 else 0).toInt)) ∧ ((bif decide (0 < m22) then m22 else 0).toInt = (0 : Int32).toInt ∨ (bif decide (0 < m22) then m22 else 0).toInt = m22.toInt) := kd_max
      refine ft_goS mi_k31 1 120 [.int (bif decide (0 < m22) then m22 else 0)] (by rfl) ?_
      generalize hm24 : (bif decide (0 < m22) then m22 else 0) = m24 at m25 ⊢
      have qm24 := hm24.symm
      exact ft_ret mi_k31 (by rfl) (hP m24 _ _ _ _ hGg20 ⟨trivial, (show m24 = cBuyV (i (64 * r 0)) (a (r 0 + 1)) (a (r 0 + 2)) (a (r 0 + 3)) (i (64 * r 0 + 3)) ((a 3).getD x1.toNatClampNeg 0) x2 ((a 4).getD x1.toNatClampNeg 0) (i 73) ((a 6).getD x1.toNatClampNeg 0) (i 72) from (by rw [eRr_0]; unfold cBuyV; rw [if_neg (od60 c12 fi_640.1 kod0)]; first | rfl | (simp only [qm24, qm22, q21, fa18 11 (by decide), fa18 12 (by decide), qn19, fa18 13 (by decide), fa17 13 (by decide), fa16 13 (by decide), fa15 13 (by decide), fa14 13 (by decide), fa13 13 (by decide), fa14 4 (by decide), fa16 6 (by decide), fa15 6 (by decide), fa14 6 (by decide), fa13 6 (by decide), fa13 4 (by decide), fa17 12 (by decide), fa16 12 (by decide), fa15 12 (by decide), fa14 12 (by decide), fa13 12 (by decide), fa17 11 (by decide), fa16 11 (by decide), fa15 11 (by decide), fa14 11 (by decide), fa13 11 (by decide), sMn, sMx]; rfl)))⟩)
  ·
    have eRr_0 : r 0 = 100 := eRr_0
    have eRr_2 : r 2 = 10 := eRr_2
    refine ko_eq (x1 := (29, [(3, .int (((5 * ((a 3).getD x1.toNatClampNeg 0)) + ((a 4).getD x1.toNatClampNeg 0)) - (2 * ((a 6).getD x1.toNatClampNeg 0)))), (0, .ref 1), (1, .int x1), (2, .int x2)], [.ref 100], (0, 0), ks i a q r)) (by rw [eRr_0]) ?_
    have fi_6400 : ((0 : Int) ≤ (i 6400).toInt) ∧ ((i 6400).toInt ≤ 1) := hG.I.1 6400
    refine fo_goS mi_k31 fz31_29_1_32 [.int (i 6400)] rfl ?_
    refine ft_ifS mi_k31 ((i 6400) == 0) 110 35 [] (by rfl) (fun c => ?_) (fun c => ?_)
    ·
      have c26 : (i 6400).toInt = (0 : Int32).toInt := kd_eq c; clear c
      refine fo_goS mi_k31 fz31_110_3_114 [.int (((5 * ((a 3).getD x1.toNatClampNeg 0)) + ((a 4).getD x1.toNatClampNeg 0)) - (2 * ((a 6).getD x1.toNatClampNeg 0))), .int 99, .int 0] rfl ?_
      have m28 : (((bif decide ((((5 * ((a 3).getD x1.toNatClampNeg 0)) + ((a 4).getD x1.toNatClampNeg 0)) - (2 * ((a 6).getD x1.toNatClampNeg 0))) < 99) then (((5 * ((a 3).getD x1.toNatClampNeg 0)) + ((a 4).getD x1.toNatClampNeg 0)) - (2 * ((a 6).getD x1.toNatClampNeg 0))) else 99).toInt ≤ (99 : Int32).toInt) ∧ ((bif decide ((((5 * ((a 3).getD x1.toNatClampNeg 0)) + ((a 4).getD x1.toNatClampNeg 0)) - (2 * ((a 6).getD x1.toNatClampNeg 0))) < 99) then (((5 * ((a 3).getD x1.toNatClampNeg 0)) + ((a 4).getD x1.toNatClampNeg 0)) - (2 * ((a 6).getD x1.toNatClampNeg 0))) else 99).toInt ≤ (((5 * ((a 3).getD x1.toNatClampNeg 0)) + ((a 4).getD x1.toNatClampNeg 0)) - (2 * ((a 6).getD x1.toNatClampNeg 0))).toInt)) ∧ ((bif decide ((((5 * ((a 3).getD x1.toNatClampNeg 0)) + ((a 4).getD x1.toNatClampNeg 0)) - (2 * ((a 6).getD x1.toNatClampNeg 0))) < 99) then (((5 * ((a 3).getD x1.toNatClampNeg 0)) + ((a 4).getD x1.toNatClampNeg 0)) - (2 * ((a 6).getD x1.toNatClampNeg 0))) else 99).toInt = (99 : Int32).toInt ∨ (bif decide ((((5 * ((a 3).getD x1.toNatClampNeg 0)) + ((a 4).getD x1.toNatClampNeg 0)) - (2 * ((a 6).getD x1.toNatClampNeg 0))) < 99) then (((5 * ((a 3).getD x1.toNatClampNeg 0)) + ((a 4).getD x1.toNatClampNeg 0)) - (2 * ((a 6).getD x1.toNatClampNeg 0))) else 99).toInt = (((5 * ((a 3).getD x1.toNatClampNeg 0)) + ((a 4).getD x1.toNatClampNeg 0)) - (2 * ((a 6).getD x1.toNatClampNeg 0))).toInt) := kd_min
      refine ft_goS mi_k31 1 117 [.int (bif decide ((((5 * ((a 3).getD x1.toNatClampNeg 0)) + ((a 4).getD x1.toNatClampNeg 0)) - (2 * ((a 6).getD x1.toNatClampNeg 0))) < 99) then (((5 * ((a 3).getD x1.toNatClampNeg 0)) + ((a 4).getD x1.toNatClampNeg 0)) - (2 * ((a 6).getD x1.toNatClampNeg 0))) else 99), .int 0] (by rfl) ?_
      generalize hm27 : (bif decide ((((5 * ((a 3).getD x1.toNatClampNeg 0)) + ((a 4).getD x1.toNatClampNeg 0)) - (2 * ((a 6).getD x1.toNatClampNeg 0))) < 99) then (((5 * ((a 3).getD x1.toNatClampNeg 0)) + ((a 4).getD x1.toNatClampNeg 0)) - (2 * ((a 6).getD x1.toNatClampNeg 0))) else 99) = m27 at m28 ⊢
      have qm27 := hm27.symm
      have m30 : (((0 : Int32).toInt ≤ (bif decide (0 < m27) then m27 else 0).toInt) ∧ (m27.toInt ≤ (bif decide (0 < m27) then m27 else 0).toInt)) ∧ ((bif decide (0 < m27) then m27 else 0).toInt = (0 : Int32).toInt ∨ (bif decide (0 < m27) then m27 else 0).toInt = m27.toInt) := kd_max
      refine ft_goS mi_k31 1 120 [.int (bif decide (0 < m27) then m27 else 0)] (by rfl) ?_
      generalize hm29 : (bif decide (0 < m27) then m27 else 0) = m29 at m30 ⊢
      have qm29 := hm29.symm
      exact ft_ret mi_k31 (by rfl) (hP m29 _ _ _ _ hG ⟨trivial, (show m29 = cBuyV (i (64 * r 0)) (a (r 0 + 1)) (a (r 0 + 2)) (a (r 0 + 3)) (i (64 * r 0 + 3)) ((a 3).getD x1.toNatClampNeg 0) x2 ((a 4).getD x1.toNatClampNeg 0) (i 73) ((a 6).getD x1.toNatClampNeg 0) (i 72) from (by rw [eRr_0]; unfold cBuyV; rw [if_pos (od48 c26 fi_6400.1 kod0)]; first | rfl | (simp only [qm29, qm27, sMn, sMx]; rfl)))⟩)
    ·
      have c31 : (i 6400).toInt ≠ (0 : Int32).toInt := kd_eqF c; clear c
      refine fo_goS mi_k31 fz31_35_6_45 [.int x1, .ref 3, .int 0, .ref 24] rfl ?_
      refine ko_iald3 mi_k31.1 (n := 8) (c := 8) (ax := (0, 0, 0, 0, 0)) (mi_k31.2 _ _ (by rfl)) (by rfl) (ksG3 _ _ _ _) (hG.I.2.1 3) rfl (od11 hp0.1) (od47 hp0.2) ?_
      refine ko_iast3 mi_k31.1 (n := 6) (c := 6) (ax := (0, 0, 0, 0, 0)) (mi_k31.2 _ _ (by rfl)) (by rfl) (ksG24 _ _ _ _) (ksA24 _ _ _ _) (hG.I.2.1 24) rfl (od0 kod0) (od49 kod0) ?_
      intro a32 ea32 fa32
      have hJ32 := kG_a3 hG 24 rfl ea32 fa32 (kd_bd _)
      refine fo_goS mi_k31 fz31_47_4_53 [.int x2, .int 1, .ref 24] rfl ?_
      refine ko_iast3 mi_k31.1 (n := 6) (c := 6) (ax := (0, 0, 0, 0, 0)) (mi_k31.2 _ _ (by rfl)) (by rfl) (ksG24 _ _ _ _) (ksA24 _ _ _ _) (hJ32.I.2.1 24) rfl (od50 kod1) (od51 kod1) ?_
      intro a33 ea33 fa33
      have hJ33 := kG_a3 hJ32 24 rfl ea33 fa33 (kd_bd _)
      refine fo_goS mi_k31 fz31_54_6_64 [.int x1, .ref 4, .int 2, .ref 24] rfl ?_
      refine ko_iald3 mi_k31.1 (n := 8) (c := 8) (ax := (0, 0, 0, 0, 0)) (mi_k31.2 _ _ (by rfl)) (by rfl) (ksG4 _ _ _ _) (hJ33.I.2.1 4) rfl (od11 hp0.1) (od47 hp0.2) ?_
      refine ko_iast3 mi_k31.1 (n := 6) (c := 6) (ax := (0, 0, 0, 0, 0)) (mi_k31.2 _ _ (by rfl)) (by rfl) (ksG24 _ _ _ _) (ksA24 _ _ _ _) (hJ33.I.2.1 24) rfl (od52 kod2) (od53 kod2) ?_
      intro a34 ea34 fa34
      have hJ34 := kG_a3 hJ33 24 rfl ea34 fa34 (kd_bd _)
      refine fo_goS mi_k31 fz31_66_5_75 [.int (i 73), .int 3, .ref 24] rfl ?_
      refine ko_iast3 mi_k31.1 (n := 6) (c := 6) (ax := (0, 0, 0, 0, 0)) (mi_k31.2 _ _ (by rfl)) (by rfl) (ksG24 _ _ _ _) (ksA24 _ _ _ _) (hJ34.I.2.1 24) rfl (od54 kod3) (od55 kod3) ?_
      intro a35 ea35 fa35
      have hJ35 := kG_a3 hJ34 24 rfl ea35 fa35 (kd_bd _)
      refine fo_goS mi_k31 fz31_76_6_86 [.int x1, .ref 6, .int 4, .ref 24] rfl ?_
      refine ko_iald3 mi_k31.1 (n := 8) (c := 8) (ax := (0, 0, 0, 0, 0)) (mi_k31.2 _ _ (by rfl)) (by rfl) (ksG6 _ _ _ _) (hJ35.I.2.1 6) rfl (od11 hp0.1) (od47 hp0.2) ?_
      refine ko_iast3 mi_k31.1 (n := 6) (c := 6) (ax := (0, 0, 0, 0, 0)) (mi_k31.2 _ _ (by rfl)) (by rfl) (ksG24 _ _ _ _) (ksA24 _ _ _ _) (hJ35.I.2.1 24) rfl (od56 kod4) (od57 kod4) ?_
      intro a36 ea36 fa36
      have hJ36 := kG_a3 hJ35 24 rfl ea36 fa36 (kd_bd _)
      refine fo_goS mi_k31 fz31_88_5_97 [.int (i 72), .int 5, .ref 24] rfl ?_
      refine ko_iast3 mi_k31.1 (n := 6) (c := 6) (ax := (0, 0, 0, 0, 0)) (mi_k31.2 _ _ (by rfl)) (by rfl) (ksG24 _ _ _ _) (ksA24 _ _ _ _) (hJ36.I.2.1 24) rfl (od58 kod5) (od59 kod5) ?_
      intro a37 ea37 fa37
      have hJ37 := kG_a3 hJ36 24 rfl ea37 fa37 (kd_bd _)
      refine fo_goS mi_k31 fz31_98_2_102 [.ref (r 0)] rfl ?_
      refine ko_eq (x1 := (102, [(3, .int (((5 * ((a 3).getD x1.toNatClampNeg 0)) + ((a 4).getD x1.toNatClampNeg 0)) - (2 * ((a 6).getD x1.toNatClampNeg 0)))), (0, .ref 1), (1, .int x1), (2, .int x2)], [.ref 100], (0, 0), ks i a37 q r)) (by rw [eRr_0]) ?_
      have qn38 : a37 24 = [((a 3).getD x1.toNatClampNeg 0), x2, ((a33 4).getD x1.toNatClampNeg 0), (i 73), ((a35 6).getD x1.toNatClampNeg 0), (i 72)] := by rw [ea37, ea36, ea35, ea34, ea33, ea32]; exact kNames ((congrArg List.length (rfl)).trans (hG.I.2.1 24))
      refine fo_goS mi_k31 fz31_102_2_106 [.ref 24, .ref 100] rfl ?_
      refine ko_callI mi_k31.1 (pc := 106) (ls := [(3, .int (((5 * ((a 3).getD x1.toNatClampNeg 0)) + ((a 4).getD x1.toNatClampNeg 0)) - (2 * ((a 6).getD x1.toNatClampNeg 0)))), (0, .ref 1), (1, .int x1), (2, .int x2)]) (st := [.ref 24, .ref 100]) (h := ks i a37 q r) (i := (.invokevirtual 126, 3, 21, 0, 9, 0, 224)) (mi_k31.2 _ _ (by rfl)) (ft_invS mi_pq21 (by rfl)) (cy := mi_c21) mi_pq21 rfl (ke21_100_24 hJ37.I hJ37.R ) (by decide) ?_
      intro vg39 ig39 ag39 qg39 rg39 kg39 hg39
      have hGg39 := kG_call hJ37 kg39 (by decide +kernel)
      have eRrg39_0 : rg39 0 = 100 := (kg39.fr 0 rfl).trans eRr_0
      have eRrg39_2 : rg39 2 = 10 := (kg39.fr 2 rfl).trans eRr_2
      obtain ⟨hg39, og39⟩ := hg39
      have q40 : vg39 = lRun (a37 101) (a37 102) (a37 24) (i 6403) 121 0 (a37 103, 0) := og39
      first | refine fo_goS mi_k31 fz31_32_4_114 [.int vg39, .int 99, .int 0] (by rfl) ?_ | refine fo_goL mi_k31 fz31_109_4_114 [(3, .int vg39), (0, .ref 1), (1, .int x1), (2, .int x2)] [.int vg39, .int 99, .int 0] (by rfl) ?_
      have m42 : (((bif decide (vg39 < 99) then vg39 else 99).toInt ≤ (99 : Int32).toInt) ∧ ((bif decide (vg39 < 99) then vg39 else 99).toInt ≤ vg39.toInt)) ∧ ((bif decide (vg39 < 99) then vg39 else 99).toInt = (99 : Int32).toInt ∨ (bif decide (vg39 < 99) then vg39 else 99).toInt = vg39.toInt) := kd_min
      refine ft_goS mi_k31 1 117 [.int (bif decide (vg39 < 99) then vg39 else 99), .int 0] (by rfl) ?_
      generalize hm41 : (bif decide (vg39 < 99) then vg39 else 99) = m41 at m42 ⊢
      have qm41 := hm41.symm
      have m44 : (((0 : Int32).toInt ≤ (bif decide (0 < m41) then m41 else 0).toInt) ∧ (m41.toInt ≤ (bif decide (0 < m41) then m41 else 0).toInt)) ∧ ((bif decide (0 < m41) then m41 else 0).toInt = (0 : Int32).toInt ∨ (bif decide (0 < m41) then m41 else 0).toInt = m41.toInt) := kd_max
      refine ft_goS mi_k31 1 120 [.int (bif decide (0 < m41) then m41 else 0)] (by rfl) ?_
      generalize hm43 : (bif decide (0 < m41) then m41 else 0) = m43 at m44 ⊢
      have qm43 := hm43.symm
      exact ft_ret mi_k31 (by rfl) (hP m43 _ _ _ _ hGg39 ⟨trivial, (show m43 = cBuyV (i (64 * r 0)) (a (r 0 + 1)) (a (r 0 + 2)) (a (r 0 + 3)) (i (64 * r 0 + 3)) ((a 3).getD x1.toNatClampNeg 0) x2 ((a 4).getD x1.toNatClampNeg 0) (i 73) ((a 6).getD x1.toNatClampNeg 0) (i 72) from (by rw [eRr_0]; unfold cBuyV; rw [if_neg (od60 c31 fi_6400.1 kod0)]; first | rfl | (simp only [qm43, qm41, q40, fa37 101 (by decide), fa37 102 (by decide), qn38, fa37 103 (by decide), fa36 103 (by decide), fa35 103 (by decide), fa34 103 (by decide), fa33 103 (by decide), fa32 103 (by decide), fa33 4 (by decide), fa35 6 (by decide), fa34 6 (by decide), fa33 6 (by decide), fa32 6 (by decide), fa32 4 (by decide), fa36 102 (by decide), fa35 102 (by decide), fa34 102 (by decide), fa33 102 (by decide), fa32 102 (by decide), fa36 101 (by decide), fa35 101 (by decide), fa34 101 (by decide), fa33 101 (by decide), fa32 101 (by decide), sMn, sMx]; rfl)))⟩)
end
section
theorem oe57 {a0 a1 a2 : Int} (h0 : a0 = a1) (h1 : a2 = a0) (h2 : (0 : Int) ≤ a2) (h3 : a1 = 0) : a2 = 0 := by omega
noncomputable def yw86_0 : kW := ([640, 643, 6273, 6274, 6275, 6400, 6403], [11, 12, 101, 102], [], [0, 2])
noncomputable def yw159_116 : kW := ([7429, 7431, 7432, 7437, 7438, 7439, 7440], [120, 121, 122, 123, 124, 125, 126, 127], [], [])
end
section
/-! THE TAPE OF CLASS AND REFERENCE -/
noncomputable def kTap (i : Nat → Int32) (a : Nat → List Int32) : Prop := (i 6273).toInt = (i 7429).toInt ∧ a 99 = a 119
noncomputable def kFrT (w : kW) : Bool := !kM w.1 6273 && (!kM w.1 7429 && (!kM w.2.1 99 && !kM w.2.1 119))
theorem kTap_fr {w : kW} {i i1 : Nat → Int32} {a a1 : Nat → List Int32} {q q1 : Nat → List Int64} {r r1 : Nat → Nat} (g : kG w i a q r i1 a1 q1 r1) (f : kFrT w = true) (h : kTap i a) : kTap i1 a1 := by
  unfold kFrT at f
  simp only [Bool.and_eq_true, Bool.not_eq_true'] at f
  obtain ⟨f1, f2, f3, f4⟩ := f
  exact ⟨by rw [g.fi _ f1, g.fi _ f2]; exact h.1, by rw [g.fa _ f3, g.fa _ f4]; exact h.2⟩
theorem st_feed {i i1 i2 : Nat → Int32} {a a1 a2 : Nat → List Int32} {q q1 q2 : Nat → List Int64} {r r1 r2 : Nat → Nat} {v w x1 : Int32} (h : kTap i a) (g1 : kG yw85_0 i a q r i1 a1 q1 r1) (P1 : (((v.toInt = (-1)) ∧ (¬ (((0 : Int) ≤ x1.toInt) ∧ (x1.toInt ≤ 255))) ∧ ((i1 6273).toInt = (i 6273).toInt)) ∨ (((0 : Int) ≤ x1.toInt) ∧ (x1.toInt ≤ 255) ∧ (((v.toInt = (-3)) ∧ ((120 : Int) ≤ (i 6273).toInt) ∧ ((i1 6273).toInt = (i 6273).toInt)) ∨ (((i 6273).toInt < 120) ∧ (v.toInt = ((i 6273).toInt + 1)) ∧ ((i1 6273).toInt = ((i 6273).toInt + 1)))))) ∧ ((((0 : Int) ≤ x1.toInt) ∧ (x1.toInt ≤ 255) ∧ ((i 6273).toInt < 120) → a1 99 = (a 99).set (i 6273).toNatClampNeg x1) ∧ (¬ (((0 : Int) ≤ x1.toInt) ∧ (x1.toInt ≤ 255) ∧ ((i 6273).toInt < 120)) → a1 99 = a 99))) (g2 : kG yw146_116 i1 a1 q1 r1 i2 a2 q2 r2) (P2 : (((w.toInt = (-1)) ∧ (¬ (((0 : Int) ≤ x1.toInt) ∧ (x1.toInt ≤ 255))) ∧ ((i2 7429).toInt = (i1 7429).toInt)) ∨ (((0 : Int) ≤ x1.toInt) ∧ (x1.toInt ≤ 255) ∧ (((w.toInt = (-3)) ∧ ((120 : Int) ≤ (i1 7429).toInt) ∧ ((i2 7429).toInt = (i1 7429).toInt)) ∨ (((i1 7429).toInt < 120) ∧ (w.toInt = ((i1 7429).toInt + 1)) ∧ ((i2 7429).toInt = ((i1 7429).toInt + 1)))))) ∧ ((((0 : Int) ≤ x1.toInt) ∧ (x1.toInt ≤ 255) ∧ ((i1 7429).toInt < 120) → a2 119 = (a1 119).set (i1 7429).toNatClampNeg x1) ∧ (¬ (((0 : Int) ≤ x1.toInt) ∧ (x1.toInt ≤ 255) ∧ ((i1 7429).toInt < 120)) → a2 119 = a1 119))) : kTap i2 a2 ∧ v = w := by
  obtain ⟨D, o1, o2⟩ := P1
  obtain ⟨D1, p1, p2⟩ := P2
  have e1 := h.1
  have e2 := g1.ti 7429 rfl
  have e3 := g2.ti 6273 rfl
  have b1 := g1.fa 119 rfl
  have b2 := g2.fa 99 rfl
  refine ⟨⟨by omega, ?_⟩, kj_v (by omega)⟩
  by_cases c : 0 ≤ x1.toInt ∧ x1.toInt ≤ 255 ∧ (i 6273).toInt < 120
  · have ei : i1 7429 = i 6273 := kj_v (by omega)
    rw [b2, o1 ⟨c.1, c.2.1, c.2.2⟩, p1 ⟨c.1, c.2.1, by omega⟩, b1, h.2, ei]
  · rw [b2, o2 (fun z => c ⟨z.1, z.2.1, z.2.2⟩), p2 (fun z => c ⟨z.1, z.2.1, by omega⟩), b1, h.2]
theorem st_tlaw {i i1 i2 : Nat → Int32} {a a1 a2 : Nat → List Int32} {q q1 q2 : Nat → List Int64} {r r1 r2 : Nat → Nat} (h : kTap i a) (g1 : kG yw86_0 i a q r i1 a1 q1 r1) (P1 : (i1 6273).toInt = 0) (g2 : kG yw159_116 i1 a1 q1 r1 i2 a2 q2 r2) (P2 : (i2 7429).toInt = 0) : kTap i2 a2 := by
  have e3 := g2.ti 6273 rfl
  refine ⟨by omega, ?_⟩
  rw [g2.fa 99 rfl, g2.fa 119 rfl, g1.fa 99 rfl, g1.fa 119 rfl]
  exact h.2
end
section
/-! LISTS COPIED ONE BY ONE -/
noncomputable def kCopd (L S : List Int32) (b : Nat) (x : Int) : Prop := ∀ j : Nat, (j : Int) < x → L.getD (b + j) 0 = S.getD j 0
noncomputable def kCopb (L S : List Int32) (b : Nat) (x : Int) : Prop := ∀ j : Nat, (j : Int) < x → L.getD j 0 = S.getD (b + j) 0
theorem kCopd_zero {L S : List Int32} {b : Nat} {z : Int32} (h : z.toInt = 0) : kCopd L S b z.toInt := fun j hj => by omega
theorem kCopb_zero {L S : List Int32} {b : Nat} {z : Int32} (h : z.toInt = 0) : kCopb L S b z.toInt := fun j hj => by omega
theorem kCopd_step {L0 L1 L2 S S1 : List Int32} {b n : Nat} {x x1 y z : Int32} (h : kCopd L0 S b x.toInt) (hl : L0.length = n) (h0 : 0 ≤ x.toInt) (h31 : x.toInt < 31) (hy : y.toInt = ((b : Nat) : Int) + x.toInt) (hz : z.toInt = x.toInt) (hn : y.toInt < (n : Int)) (h1 : x1.toInt = x.toInt + 1) (es : S1 = S) (e : L1 = L0.set y.toNatClampNeg (S1.getD z.toNatClampNeg 0)) (e2 : L2 = L1) : kCopd L2 S b x1.toInt := by
  have ty := Int32.toNat_toInt y
  have tz := Int32.toNat_toInt z
  subst e2
  subst es
  subst e
  intro j hj
  rw [kset_gI (by omega)]
  by_cases c : b + j = y.toNatClampNeg
  · rw [if_pos c, show z.toNatClampNeg = j by omega]
  · rw [if_neg c]; exact h j (by omega)
theorem kCopb_step {L0 L1 L2 S S1 : List Int32} {b n : Nat} {x x1 y z : Int32} (h : kCopb L0 S b x.toInt) (hl : L0.length = n) (h0 : 0 ≤ x.toInt) (h31 : x.toInt < 31) (hy : y.toInt = ((b : Nat) : Int) + x.toInt) (hz : z.toInt = x.toInt) (hn : z.toInt < (n : Int)) (h1 : x1.toInt = x.toInt + 1) (es : S1 = S) (e : L1 = L0.set z.toNatClampNeg (S1.getD y.toNatClampNeg 0)) (e2 : L2 = L1) : kCopb L2 S b x1.toInt := by
  have ty := Int32.toNat_toInt y
  have tz := Int32.toNat_toInt z
  subst e2
  subst es
  subst e
  intro j hj
  rw [kset_gI (by omega)]
  by_cases c : j = z.toNatClampNeg
  · rw [if_pos c, show y.toNatClampNeg = b + j by omega]
  · rw [if_neg c]; exact h j (by omega)
theorem kList31 {l m : List Int32} (hl : l.length = 31) (hm : m.length = 31) (h : ∀ j : Nat, j < 31 → l.getD j 0 = m.getD j 0) : l = m := by
  refine List.ext_getElem (hl.trans hm.symm) (fun j h1 h2 => ?_)
  have := h j (by omega)
  rw [List.getD_eq_getElem?_getD, List.getD_eq_getElem?_getD, List.getElem?_eq_getElem h1, List.getElem?_eq_getElem h2] at this
  exact this
theorem kCopd_end {L S : List Int32} {x : Int} (h : kCopd L S 0 x) (hl : L.length = 31) (hs : S.length = 31) (hx : 31 ≤ x) : L = S := kList31 hl hs (fun j hj => by have := h j (by omega); rw [Nat.zero_add] at this; exact this)
theorem kCopb_end {L S : List Int32} {x : Int} (h : kCopb L S 0 x) (hl : L.length = 31) (hs : S.length = 31) (hx : 31 ≤ x) : L = S := kList31 hl hs (fun j hj => by have := h j (by omega); rw [Nat.zero_add] at this; exact this)
end
section
theorem kofm1 : ((-1) : Int32).toInt = (-1) := by decide
theorem kof0 : (0 : Int32).toInt = 0 := by decide
theorem kof1 : (1 : Int32).toInt = 1 := by decide
theorem kof10 : (10 : Int32).toInt = 10 := by decide
theorem kof100 : (100 : Int32).toInt = 100 := by decide
theorem kof6 : (6 : Int32).toInt = 6 := by decide
theorem kof12 : (12 : Int32).toInt = 12 := by decide
theorem kof31 : (31 : Int32).toInt = 31 := by decide
theorem kof64 : (64 : Int32).toInt = 64 := by decide
theorem kof10000 : (10000 : Int32).toInt = 10000 := by decide
theorem kof30 : (30 : Int32).toInt = 30 := by decide
theorem of0 {a0 a1 : Int} (h0 : a0 ≤ a1) (h1 : a0 = 31) : 31 ≤ a1 := by omega
theorem of1 {a0 a1 : Int} (h0 : a0 = 0) (h1 : (0 : Int) ≤ a1) : (-2147483648 : Int) ≤ a0 + a1 := oz226 h0 h1
theorem of2 {a0 a1 a2 : Int} (h0 : a0 < a1) (h1 : a2 = 0) (h2 : a1 = 31) : a2 + a0 ≤ 2147483647 := oz227 h0 h1 h2
theorem of3 {a0 : Int} (h0 : (0 : Int) ≤ a0) : (0 : Int) ≤ a0 := oz3 h0
theorem of4 {a0 a1 : Int} (h0 : a0 < a1) (h1 : a1 = 31) : a0 < 31 := oz228 h0 h1
theorem of5 {a0 a1 a2 : Int} (h0 : a0 = 0) (h1 : (0 : Int) ≤ a1) (h2 : a2 = a0 + a1) : (0 : Int) ≤ a2 := oz229 h0 h1 h2
theorem of6 {a0 a1 a2 a3 : Int} (h0 : a0 < a1) (h1 : a2 = 0) (h2 : a3 = a2 + a0) (h3 : a1 = 31) : a3 < 31 := oz230 h0 h1 h2 h3
theorem of7 {a0 a1 a2 a3 : Int} (h0 : a0 = 0) (h1 : (a1 = 18 → (0 : Int) ≤ a2 ∧ a2 ≤ 5)) (h2 : a3 = a0 + a1) : a3 = 18 → (0 : Int) ≤ a2 ∧ a2 ≤ 5 := oz231 h0 h1 h2
theorem of8 {a0 a1 a2 a3 : Int} (h0 : a0 = 0) (h1 : (19 ≤ a1 → a1 ≤ 24 → (0 : Int) ≤ a2 ∧ a2 ≤ 7)) (h2 : a3 = a0 + a1) : 19 ≤ a3 → a3 ≤ 24 → (0 : Int) ≤ a2 ∧ a2 ≤ 7 := oz232 h0 h1 h2
theorem of9 {a0 a1 : Int} (h0 : (0 : Int) ≤ a0) (h1 : a1 = 1) : (-2147483648 : Int) ≤ a0 + a1 := oz12 h0 h1
theorem of10 {a0 a1 a2 : Int} (h0 : a0 < a1) (h1 : a1 = 31) (h2 : a2 = 1) : a0 + a2 ≤ 2147483647 := oz233 h0 h1 h2
theorem of11 {a0 a1 a2 : Int} (h0 : (0 : Int) ≤ a0) (h1 : a1 = a0 + a2) (h2 : a2 = 1) : (0 : Int) ≤ a1 := oz14 h0 h1 h2
theorem of12 {a0 a1 a2 : Int} (h0 : a0 = 0) (h1 : a1 = a0 + a2) : a1 = ((0 : Nat) : Int) + a2 := by omega
theorem of13 {a0 : Int}  : a0 = a0 := oz34
theorem of14 {a0 a1 a2 : Int} (h0 : a0 = a1 + a2) (h1 : a2 = 1) : a0 = a1 + 1 := oz169 h0 h1
theorem of15 {a0 a1 a2 : Int} (h0 : a0 = a1 + a2) (h1 : a2 = 1) : (31 - a0) < (31 - a1) := oz234 h0 h1
theorem of16 {a0 a1 : Int} (h0 : a0 < a1) (h1 : a1 = 31) : (1 : Int) ≤ (31 - a0) := oz235 h0 h1
theorem of17 {a0 : Int} (h0 : a0 = 0) : (0 : Int) ≤ a0 := oz46 h0
theorem of18 {a0 a1 a2 a3 : Int} (h0 : a0 = 0) (h1 : (a1 = 18 → (0 : Int) ≤ a2 ∧ a2 ≤ 5)) (h2 : a1 = a0 + a3) : a3 = 18 → (0 : Int) ≤ a2 ∧ a2 ≤ 5 := oz383 h0 h1 h2
theorem of19 {a0 a1 a2 a3 : Int} (h0 : a0 = 0) (h1 : (19 ≤ a1 → a1 ≤ 24 → (0 : Int) ≤ a2 ∧ a2 ≤ 7)) (h2 : a1 = a0 + a3) : 19 ≤ a3 → a3 ≤ 24 → (0 : Int) ≤ a2 ∧ a2 ≤ 7 := oz384 h0 h1 h2
theorem of20 {a0 : Int} (h0 : a0 = 0) : a0 = 0 := oz236 h0
theorem of21 {a0 a1 : Int} (h0 : a0 < a1) (h1 : a1 = 64) : a0 < 64 := oz237 h0 h1
theorem of22 {a0 a1 a2 : Int} (h0 : a0 < a1) (h1 : a1 = 64) (h2 : a2 = 1) : a0 + a2 ≤ 2147483647 := oz238 h0 h1 h2
theorem of23 {a0 a1 a2 : Int} (h0 : a0 = a1 + a2) (h1 : a2 = 1) : (64 - a0) < (64 - a1) := oz239 h0 h1
theorem of24 {a0 a1 : Int} (h0 : a0 < a1) (h1 : a1 = 64) : (1 : Int) ≤ (64 - a0) := oz240 h0 h1
theorem of30 {a0 : Int} (h0 : a0 ≤ 5) : a0 < 6 := oz19 h0
theorem of34 {a0 : Int} (h0 : (0 : Int) ≤ a0) (h1 : a0 ≤ 5) : ((0 : Int) ≤ a0) ∧ (a0 ≤ 5) := oz35 h0 h1
theorem of59 {a0 : Int} (h0 : a0 ≤ 20) : a0 < 21 := oz222 h0
theorem of66 {a0 a1 : Int} (h0 : a0 ≤ 8) (h1 : a1 < a0) : a1 < 31 := oz385 h0 h1
theorem of70 {a0 a1 : Int} (h0 : a0 ≤ a1) (h1 : a0 = 0) : (0 : Int) ≤ a1 := oz389 h0 h1
theorem of71 {a0 a1 : Int} (h0 : a0 < a1) (h1 : a1 ≤ 21) : a0 < 21 := oz241 h0 h1
theorem of72 {a0 : Int} (h0 : a0 ≤ 7) : a0 < 31 := oz65 h0
theorem of73 {a0 a1 : Int} (h0 : a0 < a1) (h1 : (0 : Int) ≤ a0) (h2 : a1 ≤ 60) : ((0 : Int) ≤ a0) ∧ (a0 ≤ 59) := oz506 h0 h1 h2
theorem of74 {a0 a1 a2 : Int} (h0 : a0 < a1) (h1 : a1 ≤ 60) (h2 : a2 = 1) : a0 + a2 ≤ 2147483647 := oz307 h0 h1 h2
theorem of75 {a0 a1 a2 : Int} (h0 : a0 = a1 + a2) (h1 : a2 = 1) : (60 - a0) < (60 - a1) := oz507 h0 h1
theorem of76 {a0 a1 : Int} (h0 : a0 < a1) (h1 : a1 ≤ 60) : (1 : Int) ≤ (60 - a0) := oz508 h0 h1
theorem of79 {a0 a1 a2 a3 : Int} (h0 : a0 = a1 + a2) (h1 : a2 = 1) : (a3 - a0) < (a3 - a1) := oz44 h0 h1
theorem of80 {a0 a1 : Int} (h0 : a0 < a1) : (1 : Int) ≤ (a1 - a0) := oz45 h0
theorem of98 {a0 a1 : Int} (h0 : a0 = a1) (h1 : (0 : Int) ≤ a0) (h2 : a1 = (-1)) : False := oz405 h0 h1 h2
theorem of100 {a0 : Int} (h0 : a0 ≤ 7) : a0 ≤ 7 := oz407 h0
theorem of118 {a0 a1 : Int} (h0 : a0 ≤ 8) (h1 : (0 : Int) ≤ a1) (h2 : a1 < a0) : ((0 : Int) ≤ a1) ∧ (a1 ≤ 7) := oz423 h0 h1 h2
theorem of139 {a0 a1 a2 : Int} (h0 : a0 < a1) (h1 : a1 ≤ 8) (h2 : a2 = 1) : a0 + a2 ≤ 2147483647 := oz442 h0 h1 h2
theorem of160 {a0 : Int} (h0 : a0 = 0) : ((0 : Int) ≤ a0) ∧ (a0 ≤ 7) := oz463 h0
theorem of187 {a0 : Int} (h0 : (1 : Int) ≤ a0) : (0 : Int) ≤ a0 := oz489 h0
theorem of188 {a0 a1 : Int} (h0 : a0 < a1) (h1 : a1 ≤ 8) : a0 < 31 := oz490 h0 h1
theorem of189 {a0 a1 : Int} (h0 : (1 : Int) ≤ a0) (h1 : a1 = 1) : (-2147483648 : Int) ≤ a0 + a1 := oz491 h0 h1
theorem of190 {a0 : Int} (h0 : (0 : Int) ≤ a0) (h1 : a0 ≤ 7) : ((0 : Int) ≤ a0) ∧ (a0 ≤ 7) := oz181 h0 h1
theorem of191 {a0 a1 a2 : Int} (h0 : (1 : Int) ≤ a0) (h1 : a1 = a0 + a2) (h2 : a2 = 1) : (1 : Int) ≤ a1 := oz492 h0 h1 h2
theorem of192 {a0 a1 : Int} (h0 : a0 < a1) (h1 : a1 ≤ 8) (h2 : (1 : Int) ≤ a0) : ((0 : Int) ≤ a0) ∧ (a0 ≤ 7) := oz493 h0 h1 h2
theorem of193 {a0 : Int} (h0 : a0 = 1) : (1 : Int) ≤ a0 := oz494 h0
theorem of202 {a0 : Int} (h0 : (0 : Int) ≤ (a0 / 10)) (h1 : (a0 / 10) ≤ 5) : ((0 : Int) ≤ (a0 / 10)) ∧ ((a0 / 10) ≤ 5) := oz503 h0 h1
theorem of203 {a0 : Int} (h0 : (a0 % 10) ≤ 5) : (a0 % 10) ≤ 5 := oz504 h0
theorem of204 {a0 a1 : Int} (h0 : a0 = (a1 / 10)) (h1 : (0 : Int) ≤ a1) (h2 : (a1 / 10) ≤ 5) (h3 : (a1 % 10) ≤ 5) : ((0 : Int) ≤ a0) ∧ (a0 ≤ 5) := oz505 h0 h1 h2 h3
theorem of205 {a0 a1 : Int} (h0 : a0 = (a1 % 10)) (h1 : (a1 % 10) ≤ 5) : ((0 : Int) ≤ a0) ∧ (a0 ≤ 5) := oz509 h0 h1
theorem of206 {a0 a1 : Int} (h0 : a0 < a1) (h1 : a1 ≤ 8) : a0 ≤ 7 := oz512 h0 h1
theorem of207 {a0 a1 a2 a3 a4 : Int} (h0 : a0 = a1) (h1 : a2 = a3 + a4) (h2 : a4 = 1) : (a0 - a2) < (a1 - a3) := oz308 h0 h1 h2
theorem of208 {a0 a1 : Int} (h0 : a0 < a1) (h1 : a1 ≤ 8) : a0 ≤ 8 := oz513 h0 h1
theorem of209 {a0 a1 a2 : Int} (h0 : a0 ≤ a1) (h1 : a2 = (a1 / 100)) (h2 : a0 = 0) : (0 : Int) ≤ a2 := oz535 h0 h1 h2
theorem of210 {a0 a1 : Int} (h0 : a0 = a1) (h1 : a0 ≠ a1) (h2 : a1 = (-1)) : False := oz536 h0 h1 h2
theorem of211 {a0 a1 a2 a3 : Int} (h0 : a0 < a1) (h1 : a1 ≤ a2) (h2 : a2 = 30) (h3 : a3 = 1) : a0 + a3 ≤ 2147483647 := oz537 h0 h1 h2 h3
theorem of212 {a0 a1 a2 : Int} (h0 : a0 < a1) (h1 : a1 ≤ a2) (h2 : a2 = 30) : (1 : Int) ≤ (31 - a0) := oz538 h0 h1 h2
theorem of213 {a0 a1 a2 : Int} (h0 : a0 < a1) (h1 : a2 = a1) (h2 : a0 = 0) : a2 ≠ 0 := oz539 h0 h1 h2
theorem of214 {a0 a1 a2 : Int} (h0 : a0 < a1) (h1 : a2 = a1) (h2 : a0 = 0) : (1 : Int) ≤ a2 := oz540 h0 h1 h2
theorem of215 {a0 a1 a2 a3 : Int} (h0 : a0 < a1) (h1 : a1 = (a2 % 100)) (h2 : a3 = 1) : a0 + a3 ≤ 2147483647 := oz541 h0 h1 h2
theorem of216 {a0 a1 a2 : Int} (h0 : a0 = a1 + a2) (h1 : a2 = 1) : (100 - a0) < (100 - a1) := oz542 h0 h1
theorem of217 {a0 a1 a2 : Int} (h0 : a0 < a1) (h1 : a1 = (a2 % 100)) : (1 : Int) ≤ (100 - a0) := oz543 h0 h1
theorem of218 {a0 a1 a2 a3 : Int} (h0 : a0 < a1) (h1 : a2 = a1) (h2 : a3 = a2) (h3 : a0 = 0) : a3 ≠ 0 := oz544 h0 h1 h2 h3
theorem of219 {a0 a1 a2 a3 : Int} (h0 : a0 < a1) (h1 : a2 = a1) (h2 : a3 = a2) (h3 : a0 = 0) : (1 : Int) ≤ a3 := oz545 h0 h1 h2 h3
theorem of220 {a0 a1 a2 a3 a4 : Int} (h0 : a0 ≤ a1) (h1 : a0 = a2) (h2 : a2 = a3) (h3 : (0 : Int) ≤ a4) (h4 : a4 < a3) (h5 : a1 = 0) : False := oz546 h0 h1 h2 h3 h4 h5
theorem of221 {a0 : Int} (h0 : (1 : Int) ≤ a0) : (1 : Int) ≤ a0 := oz526 h0
theorem of222 {a0 : Int} (h0 : a0 ≤ 5) : a0 ≤ 5 := oz527 h0
theorem of223 {a0 a1 : Int} (h0 : a0 < a1) (h1 : a1 = 6) : a0 ≤ 5 := oz528 h0 h1
theorem of224 {a0 a1 a2 : Int} (h0 : a0 < a1) (h1 : a1 = 6) (h2 : a2 = 1) : a0 + a2 ≤ 2147483647 := oz529 h0 h1 h2
theorem of225 {a0 a1 a2 : Int} (h0 : a0 = a1 + a2) (h1 : a2 = 1) : (6 - a0) < (6 - a1) := oz530 h0 h1
theorem of226 {a0 a1 : Int} (h0 : a0 < a1) (h1 : a1 = 6) : (1 : Int) ≤ (6 - a0) := oz531 h0 h1
theorem of227 {a0 a1 : Int} (h0 : a0 < a1) (h1 : a1 = 6) : a0 ≤ 8 := oz532 h0 h1
noncomputable def yw168_116_139 : kW := ([], [139], [], [])
noncomputable def yw168_116_139_L2 : kW := ([], [139], [], [])
set_option maxRecDepth 100000 in
theorem ke168_116_139 {i : Nat → Int32} {a : Nat → List Int32} {q : Nat → List Int64} {r : Nat → Nat} (hI : kI i a q) (hr : kr r) (x2 : Int32) (hp0 : x2.toInt = 0) : km 1 168 [.ref 116, .ref 139, .int x2] (ks i a q r) (kVN yw168_116_139 i a q r (fun i1 a1 q1 r1 => (True) ∧ a1 139 = a 118)) := by
  have hG := kG_self yw168_116_139 hI hr
  refine km_ofN (q := (mi_h168, mi_c168)) rfl (by decide) (Nat.le_of_ble_eq_true rfl) ?_
  intro P hP
  first | refine fo_goL mi_k168 fz168_0_2_2 [(3, .int 0), (0, .ref 116), (1, .ref 139), (2, .int x2)] [] (by rfl) ?_ | refine fo_goL mi_k168 fz168_19_2_2 [(3, .int 0), (0, .ref 116), (1, .ref 139), (2, .int x2)] [] (by rfl) ?_
  have lp1 : ∀ (nz : Nat) (i1 : Nat → Int32) (a1 : Nat → List Int32) (q1 : Nat → List Int64) (r1 : Nat → Nat) (l3_1 : Int32), kG yw168_116_139_L2 i a q r i1 a1 q1 r1 → (0 : Int) ≤ l3_1.toInt → kCopd (a1 139) (a 118) 0 l3_1.toInt → ((31 - l3_1.toInt)).toNat < nz → ko 1 (mi_h168, mi_c168) P (2, [(3, .int l3_1), (0, .ref 116), (1, .ref 139), (2, .int x2)], [], (0, 0), ks i1 a1 q1 r1) := by
    intro nz
    induction nz with
    | zero =>
      intro _ _ _ _ _ _ _ _ hm
      exact absurd hm (Nat.not_lt_zero _)
    | succ nz ih1 =>
      intro i1 a1 q1 r1 l3_1 hL1 p1_0 O1_0 hm1
      refine fo_goL mi_k168 fz168_2_2_5 [(3, .int l3_1), (0, .ref 116), (1, .ref 139), (2, .int x2)] [.int 31, .int l3_1] rfl ?_
      refine ft_ifS mi_k168 (decide (31 ≤ l3_1)) 25 8 [] (by rfl) (fun c => ?_) (fun c => ?_)
      ·
        have c2 : (31 : Int32).toInt ≤ l3_1.toInt := kd_le c; clear c
        have hG3 := kG_call hG hL1 (by decide +kernel)
        exact ft_ret mi_k168 (by rfl) (hP  _ _ _ _ hG3 ⟨trivial, (show a1 139 = a 118 from (kCopd_end O1_0 (hG3.I.2.1 139) (hG.I.2.1 118) (of0 c2 kof31)))⟩)
      ·
        have c4 : l3_1.toInt < (31 : Int32).toInt := kd_leF c; clear c
        have s5 : (x2 + l3_1).toInt = x2.toInt + l3_1.toInt := kd_add (of1 hp0 p1_0) (of2 c4 hp0 kof31)
        refine fo_goS mi_k168 fz168_8_7_17 [.int l3_1, .ref 118, .int (x2 + l3_1), .ref 139] rfl ?_
        refine ko_iald3 mi_k168.1 (n := 31) (c := 31) (ax := (0, 0, 0, 0, 0)) (mi_k168.2 _ _ (by rfl)) (by rfl) (ksG118 _ _ _ _) (hL1.I.2.1 118) rfl (of3 p1_0) (of4 c4 kof31) ?_
        have r6 : ((l3_1.toInt = 18 → (0 : Int) ≤ ((a1 118).getD l3_1.toNatClampNeg 0).toInt ∧ ((a1 118).getD l3_1.toNatClampNeg 0).toInt ≤ 5)) ∧ ((19 ≤ l3_1.toInt → l3_1.toInt ≤ 24 → (0 : Int) ≤ ((a1 118).getD l3_1.toNatClampNeg 0).toInt ∧ ((a1 118).getD l3_1.toNatClampNeg 0).toInt ≤ 7)) := kE_ncond (p := 118) hL1.I (by decide) (j := l3_1) (of3 p1_0)
        have u7 : ((a1 118).getD l3_1.toNatClampNeg 0).toInt = ((a 118).getD l3_1.toNatClampNeg 0).toInt := congrArg (fun z : List Int32 => (z.getD l3_1.toNatClampNeg 0).toInt) (hL1.fa 118 rfl)
        refine ko_iast3 mi_k168.1 (n := 31) (c := 31) (ax := (0, 0, 0, 0, 0)) (mi_k168.2 _ _ (by rfl)) (by rfl) (ksG139 _ _ _ _) (ksA139 _ _ _ _) (hL1.I.2.1 139) rfl (of5 hp0 p1_0 s5) (of6 c4 hp0 s5 kof31) ?_
        intro a8 ea8 fa8
        have hJ8 := kG_a3 hL1 139 rfl ea8 fa8 (kE_nset (p := 139) (by decide) (of5 hp0 p1_0 s5) (of7 hp0 r6.1 s5) (of8 hp0 r6.2 s5))
        have s9 : (l3_1 + 1).toInt = l3_1.toInt + (1 : Int32).toInt := kd_add (of9 p1_0 kof1) (of10 c4 kof31 kof1)
        first | refine fo_goL mi_k168 fz168_0_2_2 [(3, .int (l3_1 + 1)), (0, .ref 116), (1, .ref 139), (2, .int x2)] [] (by rfl) ?_ | refine fo_goL mi_k168 fz168_19_2_2 [(3, .int (l3_1 + 1)), (0, .ref 116), (1, .ref 139), (2, .int x2)] [] (by rfl) ?_
        exact ih1 _ _ _ _ _ hJ8 (of11 p1_0 s9 kof1) (kCopd_step O1_0 (hL1.I.2.1 139) (of3 p1_0) (of4 c4 kof31) (of12 hp0 s5) of13 (of6 c4 hp0 s5 kof31) (of14 s9 kof1) (hL1.fa 118 rfl) ea8 rfl) (kj_meas (of15 s9 kof1) (of16 c4 kof31) hm1)
  exact lp1 _ _ _ _ _ _ (kG_self _ hG.I hG.R) (of17 kof0) (kCopd_zero kof0) (Nat.lt_succ_self _)
noncomputable def yw169_116_139 : kW := ([], [118], [], [])
noncomputable def yw169_116_139_L2 : kW := ([], [118], [], [])
set_option maxRecDepth 100000 in
theorem ke169_116_139 {i : Nat → Int32} {a : Nat → List Int32} {q : Nat → List Int64} {r : Nat → Nat} (hI : kI i a q) (hr : kr r) (x2 : Int32) (hp0 : x2.toInt = 0) : km 1 169 [.ref 116, .ref 139, .int x2] (ks i a q r) (kVN yw169_116_139 i a q r (fun i1 a1 q1 r1 => (True) ∧ a1 118 = a 139)) := by
  have hG := kG_self yw169_116_139 hI hr
  refine km_ofN (q := (mi_h169, mi_c169)) rfl (by decide) (Nat.le_of_ble_eq_true rfl) ?_
  intro P hP
  first | refine fo_goL mi_k169 fz169_0_2_2 [(3, .int 0), (0, .ref 116), (1, .ref 139), (2, .int x2)] [] (by rfl) ?_ | refine fo_goL mi_k169 fz169_19_2_2 [(3, .int 0), (0, .ref 116), (1, .ref 139), (2, .int x2)] [] (by rfl) ?_
  have lp1 : ∀ (nz : Nat) (i1 : Nat → Int32) (a1 : Nat → List Int32) (q1 : Nat → List Int64) (r1 : Nat → Nat) (l3_1 : Int32), kG yw169_116_139_L2 i a q r i1 a1 q1 r1 → (0 : Int) ≤ l3_1.toInt → kCopb (a1 118) (a 139) 0 l3_1.toInt → ((31 - l3_1.toInt)).toNat < nz → ko 1 (mi_h169, mi_c169) P (2, [(3, .int l3_1), (0, .ref 116), (1, .ref 139), (2, .int x2)], [], (0, 0), ks i1 a1 q1 r1) := by
    intro nz
    induction nz with
    | zero =>
      intro _ _ _ _ _ _ _ _ hm
      exact absurd hm (Nat.not_lt_zero _)
    | succ nz ih1 =>
      intro i1 a1 q1 r1 l3_1 hL1 p1_0 O1_0 hm1
      refine ft_goL mi_k169 2 5 [(3, .int l3_1), (0, .ref 116), (1, .ref 139), (2, .int x2)] [.int 31, .int l3_1] (by rfl) ?_
      refine ft_ifS mi_k169 (decide (31 ≤ l3_1)) 25 8 [] (by rfl) (fun c => ?_) (fun c => ?_)
      ·
        have c2 : (31 : Int32).toInt ≤ l3_1.toInt := kd_le c; clear c
        have hG3 := kG_call hG hL1 (by decide +kernel)
        exact ft_ret mi_k169 (by rfl) (hP  _ _ _ _ hG3 ⟨trivial, (show a1 118 = a 139 from (kCopb_end O1_0 (hG3.I.2.1 118) (hG.I.2.1 139) (of0 c2 kof31)))⟩)
      ·
        have c4 : l3_1.toInt < (31 : Int32).toInt := kd_leF c; clear c
        have s5 : (x2 + l3_1).toInt = x2.toInt + l3_1.toInt := kd_add (of1 hp0 p1_0) (of2 c4 hp0 kof31)
        refine fo_goS mi_k169 fz169_8_7_17 [.int (x2 + l3_1), .ref 139, .int l3_1, .ref 118] rfl ?_
        refine ko_iald3 mi_k169.1 (n := 31) (c := 31) (ax := (0, 0, 0, 0, 0)) (mi_k169.2 _ _ (by rfl)) (by rfl) (ksG139 _ _ _ _) (hL1.I.2.1 139) rfl (of5 hp0 p1_0 s5) (of6 c4 hp0 s5 kof31) ?_
        have r6 : (((x2 + l3_1).toInt = 18 → (0 : Int) ≤ ((a1 139).getD (x2 + l3_1).toNatClampNeg 0).toInt ∧ ((a1 139).getD (x2 + l3_1).toNatClampNeg 0).toInt ≤ 5)) ∧ ((19 ≤ (x2 + l3_1).toInt → (x2 + l3_1).toInt ≤ 24 → (0 : Int) ≤ ((a1 139).getD (x2 + l3_1).toNatClampNeg 0).toInt ∧ ((a1 139).getD (x2 + l3_1).toNatClampNeg 0).toInt ≤ 7)) := kE_ncond (p := 139) hL1.I (by decide) (j := (x2 + l3_1)) (of5 hp0 p1_0 s5)
        refine ko_iast3 mi_k169.1 (n := 31) (c := 31) (ax := (0, 0, 0, 0, 0)) (mi_k169.2 _ _ (by rfl)) (by rfl) (ksG118 _ _ _ _) (ksA118 _ _ _ _) (hL1.I.2.1 118) rfl (of3 p1_0) (of4 c4 kof31) ?_
        intro a7 ea7 fa7
        have hJ7 := kG_a3 hL1 118 rfl ea7 fa7 (kE_nset (p := 118) (by decide) (of3 p1_0) (of18 hp0 r6.1 s5) (of19 hp0 r6.2 s5))
        have s8 : (l3_1 + 1).toInt = l3_1.toInt + (1 : Int32).toInt := kd_add (of9 p1_0 kof1) (of10 c4 kof31 kof1)
        first | refine fo_goL mi_k169 fz169_0_2_2 [(3, .int (l3_1 + 1)), (0, .ref 116), (1, .ref 139), (2, .int x2)] [] (by rfl) ?_ | refine fo_goL mi_k169 fz169_19_2_2 [(3, .int (l3_1 + 1)), (0, .ref 116), (1, .ref 139), (2, .int x2)] [] (by rfl) ?_
        exact ih1 _ _ _ _ _ hJ7 (of11 p1_0 s8 kof1) (kCopb_step O1_0 (hL1.I.2.1 118) (of3 p1_0) (of4 c4 kof31) (of12 hp0 s5) of13 (of4 c4 kof31) (of14 s8 kof1) (hL1.fa 139 rfl) ea7 rfl) (kj_meas (of15 s8 kof1) (of16 c4 kof31) hm1)
  exact lp1 _ _ _ _ _ _ (kG_self _ hG.I hG.R) (of17 kof0) (kCopb_zero kof0) (Nat.lt_succ_self _)
noncomputable def yw171_116 : kW := ([7467], [139, 141], [], [])
noncomputable def yw171_116_L16 : kW := ([], [141], [], [])
set_option maxRecDepth 100000 in
theorem ke171_116 {i : Nat → Int32} {a : Nat → List Int32} {q : Nat → List Int64} {r : Nat → Nat} (hI : kI i a q) (hr : kr r)  : km 3 171 [.ref 116] (ks i a q r) (kVN yw171_116 i a q r (fun i1 a1 q1 r1 => (True) ∧ (a1 139 = a 118 ∧ a1 118 = a 118))) := by
  have hG := kG_self yw171_116 hI hr
  refine km_ofN (q := (mi_h171, mi_c171)) rfl (by decide) (Nat.le_of_ble_eq_true rfl) ?_
  intro P hP
  refine fo_goL mi_k171 fz171_0_4_6 [(0, .ref 116)] [.int 0, .ref 139, .ref 116] rfl ?_
  refine ko_callN mi_k171.1 (pc := 6) (ls := [(0, .ref 116)]) (st := [.int 0, .ref 139, .ref 116]) (h := ks i a q r) (i := (.invokevirtual 263, 3, 168, 0, 9, 0, 413)) (mi_k171.2 _ _ (by rfl)) (ft_invS mi_pq168 (by rfl)) (cy := mi_c168) mi_pq168 rfl (ke168_116_139 hG.I hG.R 0 (of20 kof0)) (by decide) ?_
  intro ig1 ag1 qg1 rg1 kg1 hg1
  have hGg1 := kG_call hG kg1 (by decide +kernel)
  obtain ⟨hg1, og1⟩ := hg1
  have q2 : ag1 139 = a 118 := og1
  have hJ3 := kG_i hGg1 7467 rfl (v := 0) (kd_bd _)
  first | refine fo_go mi_k171 fz171_9_5_16 [(1, .int 0), (0, .ref 116)] [] (ku ig1 7467 0) ag1 qg1 rg1 (by rfl) ?_ | refine ft_goL mi_k171 5 16 [(1, .int 0), (0, .ref 116)] [] (by rfl) ?_ | refine ft_go mi_k171 5 16 [(1, .int 0), (0, .ref 116)] [] (ku ig1 7467 0) ag1 qg1 rg1 (by rfl) ?_
  have lp4 : ∀ (nz : Nat) (i4 : Nat → Int32) (a4 : Nat → List Int32) (q4 : Nat → List Int64) (r4 : Nat → Nat) (l1_4 : Int32), kG yw171_116_L16 (ku ig1 7467 0) ag1 qg1 rg1 i4 a4 q4 r4 → (0 : Int) ≤ l1_4.toInt → a4 139 = a 118 → a4 118 = a 118 → ((64 - l1_4.toInt)).toNat < nz → ko 3 (mi_h171, mi_c171) P (16, [(1, .int l1_4), (0, .ref 116)], [], (0, 0), ks i4 a4 q4 r4) := by
    intro nz
    induction nz with
    | zero =>
      intro _ _ _ _ _ _ _ _ _ hm
      exact absurd hm (Nat.not_lt_zero _)
    | succ nz ih4 =>
      intro i4 a4 q4 r4 l1_4 hL4 p4_0 O4_0 O4_1 hm4
      refine ft_goL mi_k171 2 19 [(1, .int l1_4), (0, .ref 116)] [.int 64, .int l1_4] (by rfl) ?_
      refine ft_ifS mi_k171 (decide (64 ≤ l1_4)) 35 22 [] (by rfl) (fun c => ?_) (fun c => ?_)
      ·
        have c5 : (64 : Int32).toInt ≤ l1_4.toInt := kd_le c; clear c
        have hG6 := kG_call hJ3 hL4 (by decide +kernel)
        exact ft_ret mi_k171 (by rfl) (hP  _ _ _ _ hG6 ⟨trivial, ⟨(show a4 139 = a 118 from (by first | rfl | (simp only [O4_0, sMn, sMx]; done) | (simp only [O4_0, sMn, sMx]; rfl))), (show a4 118 = a 118 from (by first | rfl | (simp only [O4_1, sMn, sMx]; done) | (simp only [O4_1, sMn, sMx]; rfl)))⟩⟩)
      ·
        have c7 : l1_4.toInt < (64 : Int32).toInt := kd_leF c; clear c
        refine fo_goS mi_k171 fz171_22_4_28 [.int 0, .int l1_4, .ref 141] rfl ?_
        refine ko_iast3 mi_k171.1 (n := 64) (c := 64) (ax := (0, 0, 0, 0, 0)) (mi_k171.2 _ _ (by rfl)) (by rfl) (ksG141 _ _ _ _) (ksA141 _ _ _ _) (hL4.I.2.1 141) rfl (of3 p4_0) (of21 c7 kof64) ?_
        intro a8 ea8 fa8
        have hJ8 := kG_a3 hL4 141 rfl ea8 fa8 (kd_bd _)
        have s9 : (l1_4 + 1).toInt = l1_4.toInt + (1 : Int32).toInt := kd_add (of9 p4_0 kof1) (of22 c7 kof64 kof1)
        first | refine ft_goL mi_k171 2 16 [(1, .int (l1_4 + 1)), (0, .ref 116)] [] (by rfl) ?_
        exact ih4 _ _ _ _ _ hJ8 (of11 p4_0 s9 kof1) (by first | rfl | (simp only [fa8 139 (by decide), O4_0, sMn, sMx]; done) | (simp only [fa8 139 (by decide), O4_0, sMn, sMx]; rfl)) (by first | rfl | (simp only [fa8 118 (by decide), O4_1, sMn, sMx]; done) | (simp only [fa8 118 (by decide), O4_1, sMn, sMx]; rfl)) (kj_meas (of23 s9 kof1) (of24 c7 kof64) hm4)
  exact lp4 _ _ _ _ _ _ (kG_self _ hJ3.I hJ3.R) (of17 kof0) (by first | rfl | (simp only [q2, sMn, sMx]; done) | (simp only [q2, sMn, sMx]; rfl)) (by first | rfl | (simp only [kg1.fa 118 rfl, sMn, sMx]; done) | (simp only [kg1.fa 118 rfl, sMn, sMx]; rfl)) (Nat.lt_succ_self _)
noncomputable def yw172_116 : kW := ([7464, 7465, 7466, 7467], [118, 128, 129, 139, 141, 143, 144, 145], [], [])
set_option maxRecDepth 100000 in
theorem ke172_116 {i : Nat → Int32} {a : Nat → List Int32} {q : Nat → List Int64} {r : Nat → Nat} (hI : kI i a q) (hr : kr r) (x1 : Int32) (hp0 : ((0 : Int) ≤ x1.toInt) ∧ (x1.toInt ≤ 7)) (hE_code : kCode i a) : km 13 172 [.ref 116, .int x1] (ks i a q r) (kVI yw172_116 i a q r (fun v i1 a1 q1 r1 => (True) ∧ a1 118 = a 118)) := by
  have hG := kG_self yw172_116 hI hr
  refine km_ofI (q := (mi_h172, mi_c172)) rfl (by decide) (Nat.le_of_ble_eq_true rfl) ?_
  intro P hP
  refine ft_goL mi_k172 1 1 [(0, .ref 116), (1, .int x1)] [.ref 116] (by rfl) ?_
  refine ko_callN mi_k172.1 (pc := 1) (ls := [(0, .ref 116), (1, .int x1)]) (st := [.ref 116]) (h := ks i a q r) (i := (.invokevirtual 267, 3, 171, 0, 9, 0, 412)) (mi_k172.2 _ _ (by rfl)) (ft_invS mi_pq171 (by rfl)) (cy := mi_c171) mi_pq171 rfl (ke171_116 hG.I hG.R ) (by decide) ?_
  intro ig1 ag1 qg1 rg1 kg1 hg1
  have hGg1 := kG_call hG kg1 (by decide +kernel)
  obtain ⟨hg1, og1⟩ := hg1
  have q2 : ag1 139 = a 118 := og1.1
  have q3 : ag1 118 = a 118 := og1.2
  refine ft_goS mi_k172 1 5 [.ref 116] (by rfl) ?_
  refine ko_callN mi_k172.1 (pc := 5) (ls := [(0, .ref 116), (1, .int x1)]) (st := [.ref 116]) (h := ks ig1 ag1 qg1 rg1) (i := (.invokevirtual 270, 3, 170, 0, 9, 0, 414)) (mi_k172.2 _ _ (by rfl)) (ft_invS mi_pq170 (by rfl)) (cy := mi_c170) mi_pq170 rfl (kc170_116 hGg1.I hGg1.R (kCode_of (i1 := ig1) hE_code (hGg1.fi 7432 rfl) (hGg1.fa 120 rfl) (hGg1.fa 121 rfl) (hGg1.fa 122 rfl) (hGg1.fa 123 rfl))) (by decide) ?_
  intro ig4 ag4 qg4 rg4 kg4 hg4
  have hGg4 := kG_call hGg1 kg4 (by decide +kernel)
  refine fo_goS mi_k172 fz172_8_3_13 [.int x1, .ref 118] rfl ?_
  refine ko_iald3 mi_k172.1 (n := 31) (c := 31) (ax := (0, 0, 0, 0, 0)) (mi_k172.2 _ _ (by rfl)) (by rfl) (ksG118 _ _ _ _) (hGg4.I.2.1 118) rfl (of3 hp0.1) (of72 hp0.2) ?_
  have r5 : ((x1.toInt = 18 → (0 : Int) ≤ ((ag4 118).getD x1.toNatClampNeg 0).toInt ∧ ((ag4 118).getD x1.toNatClampNeg 0).toInt ≤ 5)) ∧ ((19 ≤ x1.toInt → x1.toInt ≤ 24 → (0 : Int) ≤ ((ag4 118).getD x1.toNatClampNeg 0).toInt ∧ ((ag4 118).getD x1.toNatClampNeg 0).toInt ≤ 7)) := kE_ncond (p := 118) hGg4.I (by decide) (j := x1) (of3 hp0.1)
  refine fo_goL mi_k172 fz172_14_5_21 [(2, .int ((ag4 118).getD x1.toNatClampNeg 0)), (0, .ref 116), (1, .int x1)] [.int 0, .ref 139, .ref 116] rfl ?_
  refine ko_callN mi_k172.1 (pc := 21) (ls := [(2, .int ((ag4 118).getD x1.toNatClampNeg 0)), (0, .ref 116), (1, .int x1)]) (st := [.int 0, .ref 139, .ref 116]) (h := ks ig4 ag4 qg4 rg4) (i := (.invokevirtual 273, 3, 169, 0, 9, 0, 423)) (mi_k172.2 _ _ (by rfl)) (ft_invS mi_pq169 (by rfl)) (cy := mi_c169) mi_pq169 rfl (ke169_116_139 hGg4.I hGg4.R 0 (of20 kof0)) (by decide) ?_
  intro ig6 ag6 qg6 rg6 kg6 hg6
  have hGg6 := kG_call hGg4 kg6 (by decide +kernel)
  obtain ⟨hg6, og6⟩ := hg6
  have q7 : ag6 118 = ag4 139 := og6
  refine ft_goS mi_k172 1 25 [.int ((ag4 118).getD x1.toNatClampNeg 0)] (by rfl) ?_
  exact ft_ret mi_k172 (by rfl) (hP ((ag4 118).getD x1.toNatClampNeg 0) _ _ _ _ hGg6 ⟨trivial, (show ag6 118 = a 118 from (by first | rfl | (simp only [q7, kg4.fa 139 rfl, q2, sMn, sMx]; done) | (simp only [q7, kg4.fa 139 rfl, q2, sMn, sMx]; rfl)))⟩)
noncomputable def yw192_116 : kW := ([7464, 7465, 7466, 7467], [118, 128, 129, 139, 141, 143, 144, 145], [], [])
set_option maxRecDepth 100000 in
theorem ke192_116 {i : Nat → Int32} {a : Nat → List Int32} {q : Nat → List Int64} {r : Nat → Nat} (hI : kI i a q) (hr : kr r) (x1 : Int32) (hp0 : ((0 : Int) ≤ x1.toInt) ∧ (x1.toInt ≤ 5)) (hE_code : kCode i a) : km 13 192 [.ref 116, .int x1] (ks i a q r) (kVI yw192_116 i a q r (fun v i1 a1 q1 r1 => (True) ∧ a1 118 = a 118)) := by
  have hG := kG_self yw192_116 hI hr
  refine km_ofI (q := (mi_h192, mi_c192)) rfl (by decide) (Nat.le_of_ble_eq_true rfl) ?_
  intro P hP
  refine ft_goL mi_k192 1 1 [(0, .ref 116), (1, .int x1)] [.ref 116] (by rfl) ?_
  refine ko_callN mi_k192.1 (pc := 1) (ls := [(0, .ref 116), (1, .int x1)]) (st := [.ref 116]) (h := ks i a q r) (i := (.invokevirtual 267, 3, 171, 0, 9, 0, 412)) (mi_k192.2 _ _ (by rfl)) (ft_invS mi_pq171 (by rfl)) (cy := mi_c171) mi_pq171 rfl (ke171_116 hG.I hG.R ) (by decide) ?_
  intro ig1 ag1 qg1 rg1 kg1 hg1
  have hGg1 := kG_call hG kg1 (by decide +kernel)
  obtain ⟨hg1, og1⟩ := hg1
  have q2 : ag1 139 = a 118 := og1.1
  have q3 : ag1 118 = a 118 := og1.2
  refine ft_goS mi_k192 1 5 [.ref 116] (by rfl) ?_
  refine ko_callN mi_k192.1 (pc := 5) (ls := [(0, .ref 116), (1, .int x1)]) (st := [.ref 116]) (h := ks ig1 ag1 qg1 rg1) (i := (.invokevirtual 270, 3, 170, 0, 9, 0, 414)) (mi_k192.2 _ _ (by rfl)) (ft_invS mi_pq170 (by rfl)) (cy := mi_c170) mi_pq170 rfl (kc170_116 hGg1.I hGg1.R (kCode_of (i1 := ig1) hE_code (hGg1.fi 7432 rfl) (hGg1.fa 120 rfl) (hGg1.fa 121 rfl) (hGg1.fa 122 rfl) (hGg1.fa 123 rfl))) (by decide) ?_
  intro ig4 ag4 qg4 rg4 kg4 hg4
  have hGg4 := kG_call hGg1 kg4 (by decide +kernel)
  refine ft_goS mi_k192 4 14 [.int 0, .ref 139, .ref 116] (by rfl) ?_
  refine ko_callN mi_k192.1 (pc := 14) (ls := [(0, .ref 116), (1, .int x1)]) (st := [.int 0, .ref 139, .ref 116]) (h := ks ig4 ag4 qg4 rg4) (i := (.invokevirtual 273, 3, 169, 0, 9, 0, 423)) (mi_k192.2 _ _ (by rfl)) (ft_invS mi_pq169 (by rfl)) (cy := mi_c169) mi_pq169 rfl (ke169_116_139 hGg4.I hGg4.R 0 (of20 kof0)) (by decide) ?_
  intro ig5 ag5 qg5 rg5 kg5 hg5
  have hGg5 := kG_call hGg4 kg5 (by decide +kernel)
  obtain ⟨hg5, og5⟩ := hg5
  have q6 : ag5 118 = ag4 139 := og5
  first | refine fo_goL mi_k192 fz192_17_2_19 [(2, .int 0), (0, .ref 116), (1, .int x1)] [] (by rfl) ?_ | refine fo_goL mi_k192 fz192_65_2_19 [(2, .int 0), (0, .ref 116), (1, .int x1)] [] (by rfl) ?_
  have lp7 : ∀ (nz : Nat) (l2_7 : Int32), (0 : Int) ≤ l2_7.toInt → ag5 118 = a 118 → ((60 - l2_7.toInt)).toNat < nz → ko 13 (mi_h192, mi_c192) P (19, [(2, .int l2_7), (0, .ref 116), (1, .int x1)], [], (0, 0), ks ig5 ag5 qg5 rg5) := by
    intro nz
    induction nz with
    | zero =>
      intro _ _ _ hm
      exact absurd hm (Nat.not_lt_zero _)
    | succ nz ih7 =>
      intro l2_7 p7_0 O7_0 hm7
      refine ft_goL mi_k192 4 25 [(2, .int l2_7), (0, .ref 116), (1, .int x1)] [.int x1, .ref 137, .int l2_7] (by rfl) ?_
      refine ko_iald3 mi_k192.1 (n := 6) (c := 6) (ax := (0, 0, 0, 0, 0)) (mi_k192.2 _ _ (by rfl)) (by rfl) (ksG137 _ _ _ _) (hGg5.I.2.1 137) rfl (of3 hp0.1) (of30 hp0.2) ?_
      have r8 : ((0 : Int) ≤ ((ag5 137).getD x1.toNatClampNeg 0).toInt) ∧ (((ag5 137).getD x1.toNatClampNeg 0).toInt ≤ 60) := hGg5.I.2.2.1 137 (x1.toNatClampNeg)
      refine ft_ifS mi_k192 (decide (((ag5 137).getD x1.toNatClampNeg 0) ≤ l2_7)) 71 29 [] (by rfl) (fun c => ?_) (fun c => ?_)
      ·
        have c9 : ((ag5 137).getD x1.toNatClampNeg 0).toInt ≤ l2_7.toInt := kd_le c; clear c
        refine ft_goS mi_k192 1 73 [.int (-2)] (by rfl) ?_
        exact ft_ret mi_k192 (by rfl) (hP (-2) _ _ _ _ hGg5 ⟨trivial, (show ag5 118 = a 118 from (by first | rfl | (simp only [q6, kg4.fa 139 rfl, q2, sMn, sMx]; done) | (simp only [q6, kg4.fa 139 rfl, q2, sMn, sMx]; rfl)))⟩)
      ·
        have c10 : l2_7.toInt < ((ag5 137).getD x1.toNatClampNeg 0).toInt := kd_leF c; clear c
        have fig5_7469 : ((0 : Int) ≤ (ig5 7469).toInt) ∧ ((ig5 7469).toInt ≤ 21) := hGg5.I.1 7469
        refine ft_goS mi_k192 3 34 [.int (ig5 7469), .int l2_7] (by rfl) ?_
        refine ft_ifS mi_k192 (decide ((ig5 7469) ≤ l2_7)) 63 37 [] (by rfl) (fun c => ?_) (fun c => ?_)
        ·
          have c11 : (ig5 7469).toInt ≤ l2_7.toInt := kd_le c; clear c
          refine ft_goS mi_k192 1 64 [.int l2_7] (by rfl) ?_
          exact ft_ret mi_k192 (by rfl) (hP l2_7 _ _ _ _ hGg5 ⟨trivial, (show ag5 118 = a 118 from (by first | rfl | (simp only [q6, kg4.fa 139 rfl, q2, sMn, sMx]; done) | (simp only [q6, kg4.fa 139 rfl, q2, sMn, sMx]; rfl)))⟩)
        ·
          have c12 : l2_7.toInt < (ig5 7469).toInt := kd_leF c; clear c
          refine ft_goS mi_k192 3 40 [.int l2_7, .int x1, .ref 116] (by rfl) ?_
          refine ko_callPI mi_k192.1 (pc := 40) (ls := [(2, .int l2_7), (0, .ref 116), (1, .int x1)]) (st := [.int l2_7, .int x1, .ref 116]) (h := ks ig5 ag5 qg5 rg5) (i := (.invokevirtual 133, 3, 137, 0, 9, 0, 384)) (mi_k192.2 _ _ (by rfl)) (ft_invS mi_pq137 (by rfl)) (cy := mi_c137) mi_pq137 rfl (kc137_116 hGg5.I hGg5.R x1 l2_7 (of34 hp0.1 hp0.2) (of73 c10 p7_0 r8.2)) (by decide) ?_
          intro vg13 hg13
          refine ft_goS mi_k192 1 45 [.int 9, .int vg13] (by rfl) ?_
          refine ft_ifS mi_k192 (vg13 == 9) 65 48 [] (by rfl) (fun c => ?_) (fun c => ?_)
          ·
            have c15 : vg13.toInt = (9 : Int32).toInt := kd_eq c; clear c
            have s16 : (l2_7 + 1).toInt = l2_7.toInt + (1 : Int32).toInt := kd_add (of9 p7_0 kof1) (of74 c10 r8.2 kof1)
            first | refine fo_goL mi_k192 fz192_17_2_19 [(2, .int (l2_7 + 1)), (0, .ref 116), (1, .int x1)] [] (by rfl) ?_ | refine fo_goL mi_k192 fz192_65_2_19 [(2, .int (l2_7 + 1)), (0, .ref 116), (1, .int x1)] [] (by rfl) ?_
            exact ih7 _ (of11 p7_0 s16 kof1) (by first | rfl | (simp only [q6, kg4.fa 139 rfl, q2, sMn, sMx]; done) | (simp only [q6, kg4.fa 139 rfl, q2, sMn, sMx]; rfl)) (kj_meas (of75 s16 kof1) (of76 c10 r8.2) hm7)
          ·
            have c17 : vg13.toInt ≠ (9 : Int32).toInt := kd_eqF c; clear c
            refine ft_goS mi_k192 3 51 [.int l2_7, .int x1, .ref 116] (by rfl) ?_
            refine ko_callPI mi_k192.1 (pc := 51) (ls := [(2, .int l2_7), (0, .ref 116), (1, .int x1)]) (st := [.int l2_7, .int x1, .ref 116]) (h := ks ig5 ag5 qg5 rg5) (i := (.invokevirtual 133, 3, 137, 0, 9, 0, 384)) (mi_k192.2 _ _ (by rfl)) (ft_invS mi_pq137 (by rfl)) (cy := mi_c137) mi_pq137 rfl (kc137_116 hGg5.I hGg5.R x1 l2_7 (of34 hp0.1 hp0.2) (of73 c10 p7_0 r8.2)) (by decide) ?_
            intro vg18 hg18
            refine ft_goS mi_k192 3 59 [.int l2_7, .ref 143, .int vg18] (by rfl) ?_
            refine ko_iald3 mi_k192.1 (n := 21) (c := 21) (ax := (0, 0, 0, 0, 0)) (mi_k192.2 _ _ (by rfl)) (by rfl) (ksG143 _ _ _ _) (hGg5.I.2.1 143) rfl (of3 p7_0) (of71 c12 fig5_7469.2) ?_
            refine ft_ifS mi_k192 (vg18 == ((ag5 143).getD l2_7.toNatClampNeg 0)) 65 63 [] (by rfl) (fun c => ?_) (fun c => ?_)
            ·
              have c20 : vg18.toInt = ((ag5 143).getD l2_7.toNatClampNeg 0).toInt := kd_eq c; clear c
              have s21 : (l2_7 + 1).toInt = l2_7.toInt + (1 : Int32).toInt := kd_add (of9 p7_0 kof1) (of74 c10 r8.2 kof1)
              first | refine fo_goL mi_k192 fz192_17_2_19 [(2, .int (l2_7 + 1)), (0, .ref 116), (1, .int x1)] [] (by rfl) ?_ | refine fo_goL mi_k192 fz192_65_2_19 [(2, .int (l2_7 + 1)), (0, .ref 116), (1, .int x1)] [] (by rfl) ?_
              exact ih7 _ (of11 p7_0 s21 kof1) (by first | rfl | (simp only [q6, kg4.fa 139 rfl, q2, sMn, sMx]; done) | (simp only [q6, kg4.fa 139 rfl, q2, sMn, sMx]; rfl)) (kj_meas (of75 s21 kof1) (of76 c10 r8.2) hm7)
            ·
              have c22 : vg18.toInt ≠ ((ag5 143).getD l2_7.toNatClampNeg 0).toInt := kd_eqF c; clear c
              refine ft_goS mi_k192 1 64 [.int l2_7] (by rfl) ?_
              exact ft_ret mi_k192 (by rfl) (hP l2_7 _ _ _ _ hGg5 ⟨trivial, (show ag5 118 = a 118 from (by first | rfl | (simp only [q6, kg4.fa 139 rfl, q2, sMn, sMx]; done) | (simp only [q6, kg4.fa 139 rfl, q2, sMn, sMx]; rfl)))⟩)
  exact lp7 _ _ (of17 kof0) (by first | rfl | (simp only [q6, kg4.fa 139 rfl, q2, sMn, sMx]; done) | (simp only [q6, kg4.fa 139 rfl, q2, sMn, sMx]; rfl)) (Nat.lt_succ_self _)
noncomputable def yw189_116 : kW := ([7464, 7465, 7466, 7467, 7469], [118, 128, 129, 139, 141, 142, 143, 144, 145, 148], [], [])
set_option maxRecDepth 100000 in
theorem ke189_116 {i : Nat → Int32} {a : Nat → List Int32} {q : Nat → List Int64} {r : Nat → Nat} (hI : kI i a q) (hr : kr r) (x1 : Int32) (x2 : Int32) (hE_code : kCode i a) : km 13 189 [.ref 116, .int x1, .int x2] (ks i a q r) (kVI yw189_116 i a q r (fun v i1 a1 q1 r1 => (True) ∧ a1 118 = a 118)) := by
  have hG := kG_self yw189_116 hI hr
  refine km_ofI (q := (mi_h189, mi_c189)) rfl (by decide) (Nat.le_of_ble_eq_true rfl) ?_
  intro P hP
  refine ft_goL mi_k189 1 1 [(0, .ref 116), (1, .int x1), (2, .int x2)] [.int x1] (by rfl) ?_
  refine ko_callPI mi_k189.1 (pc := 1) (ls := [(0, .ref 116), (1, .int x1), (2, .int x2)]) (st := [.int x1]) (h := ks i a q r) (i := (.invokestatic 127, 3, 133, 0, 9, 0, 382)) (mi_k189.2 _ _ (by rfl)) (ft_invS mi_pq133 (by rfl)) (cy := mi_c133) mi_pq133 rfl (kc133 hG.I hG.R x1) (by decide) ?_
  intro vg1 hg1
  rcases hg1 with ⟨eg1, hg1⟩ | ⟨eg1, hg1⟩
  ·
    subst eg1
    have z2 : ((0 : Int) ≤ x1.toInt) ∧ (x1.toInt ≤ 5) := hg1
    refine ft_goS mi_k189 4 10 [.int 1, .int 0, .int x2] (by rfl) ?_
    refine ko_callPI mi_k189.1 (pc := 10) (ls := [(0, .ref 116), (1, .int x1), (2, .int x2)]) (st := [.int 1, .int 0, .int x2]) (h := ks i a q r) (i := (.invokestatic 119, 3, 131, 0, 9, 0, 379)) (mi_k189.2 _ _ (by rfl)) (ft_invS mi_pq131 (by rfl)) (cy := mi_c131) mi_pq131 rfl (kc131 hG.I hG.R x2 0 1) (by decide) ?_
    intro vg3 hg3
    rcases hg3 with ⟨eg3, hg3⟩ | ⟨eg3, hg3⟩
    ·
      subst eg3
      refine ft_goS mi_k189 3 20 [.int x1, .ref 116] (by rfl) ?_
      refine ko_callPI mi_k189.1 (pc := 20) (ls := [(0, .ref 116), (1, .int x1), (2, .int x2)]) (st := [.int x1, .ref 116]) (h := ks i a q r) (i := (.invokevirtual 276, 3, 173, 0, 9, 0, 410)) (mi_k189.2 _ _ (by rfl)) (ft_invS mi_pq173 (by rfl)) (cy := mi_c173) mi_pq173 rfl (kc173_116 hG.I hG.R x1 (of34 z2.1 z2.2)) (by decide) ?_
      intro vg5 hg5
      refine ft_goL mi_k189 2 25 [(3, .int vg5), (0, .ref 116), (1, .int x1), (2, .int x2)] [.int vg5] (by rfl) ?_
      refine ft_ifS mi_k189 (decide (0 ≤ vg5)) 30 28 [] (by rfl) (fun c => ?_) (fun c => ?_)
      ·
        have c7 : (0 : Int32).toInt ≤ vg5.toInt := kd_le c; clear c
        refine ft_goS mi_k189 2 34 [.int (i 7424)] (by rfl) ?_
        refine ft_ifS mi_k189 ((i 7424) != 0) 40 37 [] (by rfl) (fun c => ?_) (fun c => ?_)
        ·
          have c8 : (i 7424).toInt ≠ (0 : Int32).toInt := kd_ne c; clear c
          refine ft_goS mi_k189 2 42 [.int x1, .ref 116] (by rfl) ?_
          refine ko_callN mi_k189.1 (pc := 42) (ls := [(3, .int vg5), (0, .ref 116), (1, .int x1), (2, .int x2)]) (st := [.int x1, .ref 116]) (h := ks i a q r) (i := (.invokevirtual 279, 3, 174, 0, 9, 0, 411)) (mi_k189.2 _ _ (by rfl)) (ft_invS mi_pq174 (by rfl)) (cy := mi_c174) mi_pq174 rfl (kc174_116 hG.I hG.R x1 (of34 z2.1 z2.2)) (by decide) ?_
          intro ig9 ag9 qg9 rg9 kg9 hg9
          have hGg9 := kG_call hG kg9 (by decide +kernel)
          refine ft_goS mi_k189 1 46 [.ref 116] (by rfl) ?_
          refine ko_callN mi_k189.1 (pc := 46) (ls := [(3, .int vg5), (0, .ref 116), (1, .int x1), (2, .int x2)]) (st := [.ref 116]) (h := ks ig9 ag9 qg9 rg9) (i := (.invokevirtual 267, 3, 171, 0, 9, 0, 412)) (mi_k189.2 _ _ (by rfl)) (ft_invS mi_pq171 (by rfl)) (cy := mi_c171) mi_pq171 rfl (ke171_116 hGg9.I hGg9.R ) (by decide) ?_
          intro ig11 ag11 qg11 rg11 kg11 hg11
          have hGg11 := kG_call hGg9 kg11 (by decide +kernel)
          obtain ⟨hg11, og11⟩ := hg11
          have q12 : ag11 139 = ag9 118 := og11.1
          have q13 : ag11 118 = ag9 118 := og11.2
          refine ft_goS mi_k189 1 50 [.ref 116] (by rfl) ?_
          refine ko_callN mi_k189.1 (pc := 50) (ls := [(3, .int vg5), (0, .ref 116), (1, .int x1), (2, .int x2)]) (st := [.ref 116]) (h := ks ig11 ag11 qg11 rg11) (i := (.invokevirtual 270, 3, 170, 0, 9, 0, 414)) (mi_k189.2 _ _ (by rfl)) (ft_invS mi_pq170 (by rfl)) (cy := mi_c170) mi_pq170 rfl (kc170_116 hGg11.I hGg11.R (kCode_of (i1 := ig11) hE_code (hGg11.fi 7432 rfl) (hGg11.fa 120 rfl) (hGg11.fa 121 rfl) (hGg11.fa 122 rfl) (hGg11.fa 123 rfl))) (by decide) ?_
          intro ig14 ag14 qg14 rg14 kg14 hg14
          have hGg14 := kG_call hGg11 kg14 (by decide +kernel)
          first | refine fo_goL mi_k189 fz189_53_4_59 [(5, .int 1), (4, .int 0), (3, .int vg5), (0, .ref 116), (1, .int x1), (2, .int x2)] [] (by rfl) ?_ | refine fo_goL mi_k189 fz189_101_4_59 [(5, .int 1), (4, .int 0), (3, .int vg5), (0, .ref 116), (1, .int x1), (2, .int x2)] [] (by rfl) ?_ | refine ft_goL mi_k189 4 59 [(5, .int 1), (4, .int 0), (3, .int vg5), (0, .ref 116), (1, .int x1), (2, .int x2)] [] (by rfl) ?_
          have lp15 : ∀ (nz : Nat) (l5_15 : Int32) (l4_15 : Int32), ((0 : Int) ≤ l4_15.toInt) ∧ (l4_15.toInt ≤ 7) → (1 : Int) ≤ l5_15.toInt → ag14 139 = a 118 → (((ig14 7424).toInt - l5_15.toInt)).toNat < nz → ko 13 (mi_h189, mi_c189) P (59, [(5, .int l5_15), (4, .int l4_15), (3, .int vg5), (0, .ref 116), (1, .int x1), (2, .int x2)], [], (0, 0), ks ig14 ag14 qg14 rg14) := by
            intro nz
            induction nz with
            | zero =>
              intro _ _ _ _ _ hm
              exact absurd hm (Nat.not_lt_zero _)
            | succ nz ih15 =>
              intro l5_15 l4_15 p15_0 p15_1 O15_0 hm15
              have fig14_7424 : ((0 : Int) ≤ (ig14 7424).toInt) ∧ ((ig14 7424).toInt ≤ 8) := hGg14.I.1 7424
              refine ft_goL mi_k189 3 65 [(5, .int l5_15), (4, .int l4_15), (3, .int vg5), (0, .ref 116), (1, .int x1), (2, .int x2)] [.int (ig14 7424), .int l5_15] (by rfl) ?_
              refine ft_ifS mi_k189 (decide ((ig14 7424) ≤ l5_15)) 111 68 [] (by rfl) (fun c => ?_) (fun c => ?_)
              ·
                have c16 : (ig14 7424).toInt ≤ l5_15.toInt := kd_le c; clear c
                refine ft_goS mi_k189 4 117 [.int 0, .ref 139, .ref 116] (by rfl) ?_
                refine ko_callN mi_k189.1 (pc := 117) (ls := [(5, .int l5_15), (4, .int l4_15), (3, .int vg5), (0, .ref 116), (1, .int x1), (2, .int x2)]) (st := [.int 0, .ref 139, .ref 116]) (h := ks ig14 ag14 qg14 rg14) (i := (.invokevirtual 273, 3, 169, 0, 9, 0, 423)) (mi_k189.2 _ _ (by rfl)) (ft_invS mi_pq169 (by rfl)) (cy := mi_c169) mi_pq169 rfl (ke169_116_139 hGg14.I hGg14.R 0 (of20 kof0)) (by decide) ?_
                intro ig17 ag17 qg17 rg17 kg17 hg17
                have hGg17 := kG_call hGg14 kg17 (by decide +kernel)
                obtain ⟨hg17, og17⟩ := hg17
                have q18 : ag17 118 = ag14 139 := og17
                refine ft_goS mi_k189 1 121 [.int x2] (by rfl) ?_
                refine ft_ifS mi_k189 (x2 != 0) 131 124 [] (by rfl) (fun c => ?_) (fun c => ?_)
                ·
                  have c19 : x2.toInt ≠ (0 : Int32).toInt := kd_ne c; clear c
                  first | refine ft_goS mi_k189 1 133 [.int l4_15] (by rfl) ?_
                  exact ft_ret mi_k189 (by rfl) (hP l4_15 _ _ _ _ hGg17 ⟨trivial, (show ag17 118 = a 118 from (by first | rfl | (simp only [q18, O15_0, sMn, sMx]; done) | (simp only [q18, O15_0, sMn, sMx]; rfl)))⟩)
                ·
                  have c20 : x2.toInt = (0 : Int32).toInt := kd_neF c; clear c
                  refine ft_goS mi_k189 1 125 [.ref 116] (by rfl) ?_
                  refine ko_callI mi_k189.1 (pc := 125) (ls := [(5, .int l5_15), (4, .int l4_15), (3, .int vg5), (0, .ref 116), (1, .int x1), (2, .int x2)]) (st := [.ref 116]) (h := ks ig17 ag17 qg17 rg17) (i := (.invokevirtual 311, 3, 188, 0, 9, 0, 440)) (mi_k189.2 _ _ (by rfl)) (ft_invS mi_pq188 (by rfl)) (cy := mi_c188) mi_pq188 rfl (kc188_116 hGg17.I hGg17.R ) (by decide) ?_
                  intro vg21 ig21 ag21 qg21 rg21 kg21 hg21
                  have hGg21 := kG_call hGg17 kg21 (by decide +kernel)
                  first | refine ft_goS mi_k189 1 133 [.int vg21] (by rfl) ?_
                  exact ft_ret mi_k189 (by rfl) (hP vg21 _ _ _ _ hGg21 ⟨trivial, (show ag21 118 = a 118 from (by first | rfl | (simp only [kg21.fa 118 rfl, q18, O15_0, sMn, sMx]; done) | (simp only [kg21.fa 118 rfl, q18, O15_0, sMn, sMx]; rfl)))⟩)
              ·
                have c22 : l5_15.toInt < (ig14 7424).toInt := kd_leF c; clear c
                refine ft_goS mi_k189 3 74 [.int l5_15, .ref 118] (by rfl) ?_
                refine ko_iald3 mi_k189.1 (n := 31) (c := 31) (ax := (0, 0, 0, 0, 0)) (mi_k189.2 _ _ (by rfl)) (by rfl) (ksG118 _ _ _ _) (hGg14.I.2.1 118) rfl (of187 p15_1) (of188 c22 fig14_7424.2) ?_
                have r23 : ((l5_15.toInt = 18 → (0 : Int) ≤ ((ag14 118).getD l5_15.toNatClampNeg 0).toInt ∧ ((ag14 118).getD l5_15.toNatClampNeg 0).toInt ≤ 5)) ∧ ((19 ≤ l5_15.toInt → l5_15.toInt ≤ 24 → (0 : Int) ≤ ((ag14 118).getD l5_15.toNatClampNeg 0).toInt ∧ ((ag14 118).getD l5_15.toNatClampNeg 0).toInt ≤ 7)) := kE_ncond (p := 118) hGg14.I (by decide) (j := l5_15) (of187 p15_1)
                refine ft_goS mi_k189 3 81 [.int l5_15, .ref 139, .int ((ag14 118).getD l5_15.toNatClampNeg 0)] (by rfl) ?_
                refine ko_iald3 mi_k189.1 (n := 31) (c := 31) (ax := (0, 0, 0, 0, 0)) (mi_k189.2 _ _ (by rfl)) (by rfl) (ksG139 _ _ _ _) (hGg14.I.2.1 139) rfl (of187 p15_1) (of188 c22 fig14_7424.2) ?_
                have r24 : ((l5_15.toInt = 18 → (0 : Int) ≤ ((ag14 139).getD l5_15.toNatClampNeg 0).toInt ∧ ((ag14 139).getD l5_15.toNatClampNeg 0).toInt ≤ 5)) ∧ ((19 ≤ l5_15.toInt → l5_15.toInt ≤ 24 → (0 : Int) ≤ ((ag14 139).getD l5_15.toNatClampNeg 0).toInt ∧ ((ag14 139).getD l5_15.toNatClampNeg 0).toInt ≤ 7)) := kE_ncond (p := 139) hGg14.I (by decide) (j := l5_15) (of187 p15_1)
                have b25 : ((-2147483648 : Int) ≤ ((ag14 118).getD l5_15.toNatClampNeg 0).toInt) ∧ (((ag14 118).getD l5_15.toNatClampNeg 0).toInt ≤ 2147483647) := kd_bd ((ag14 118).getD l5_15.toNatClampNeg 0)
                have b26 : ((-2147483648 : Int) ≤ ((ag14 139).getD l5_15.toNatClampNeg 0).toInt) ∧ (((ag14 139).getD l5_15.toNatClampNeg 0).toInt ≤ 2147483647) := kd_bd ((ag14 139).getD l5_15.toNatClampNeg 0)
                refine ft_goS mi_k189 4 89 [.int l4_15, .ref 118, .int (((ag14 118).getD l5_15.toNatClampNeg 0) - ((ag14 139).getD l5_15.toNatClampNeg 0))] (by rfl) ?_
                refine ko_iald3 mi_k189.1 (n := 31) (c := 31) (ax := (0, 0, 0, 0, 0)) (mi_k189.2 _ _ (by rfl)) (by rfl) (ksG118 _ _ _ _) (hGg14.I.2.1 118) rfl (of3 p15_0.1) (of72 p15_0.2) ?_
                have r27 : ((l4_15.toInt = 18 → (0 : Int) ≤ ((ag14 118).getD l4_15.toNatClampNeg 0).toInt ∧ ((ag14 118).getD l4_15.toNatClampNeg 0).toInt ≤ 5)) ∧ ((19 ≤ l4_15.toInt → l4_15.toInt ≤ 24 → (0 : Int) ≤ ((ag14 118).getD l4_15.toNatClampNeg 0).toInt ∧ ((ag14 118).getD l4_15.toNatClampNeg 0).toInt ≤ 7)) := kE_ncond (p := 118) hGg14.I (by decide) (j := l4_15) (of3 p15_0.1)
                refine ft_goS mi_k189 3 96 [.int l4_15, .ref 139, .int ((ag14 118).getD l4_15.toNatClampNeg 0), .int (((ag14 118).getD l5_15.toNatClampNeg 0) - ((ag14 139).getD l5_15.toNatClampNeg 0))] (by rfl) ?_
                refine ko_iald3 mi_k189.1 (n := 31) (c := 31) (ax := (0, 0, 0, 0, 0)) (mi_k189.2 _ _ (by rfl)) (by rfl) (ksG139 _ _ _ _) (hGg14.I.2.1 139) rfl (of3 p15_0.1) (of72 p15_0.2) ?_
                have r28 : ((l4_15.toInt = 18 → (0 : Int) ≤ ((ag14 139).getD l4_15.toNatClampNeg 0).toInt ∧ ((ag14 139).getD l4_15.toNatClampNeg 0).toInt ≤ 5)) ∧ ((19 ≤ l4_15.toInt → l4_15.toInt ≤ 24 → (0 : Int) ≤ ((ag14 139).getD l4_15.toNatClampNeg 0).toInt ∧ ((ag14 139).getD l4_15.toNatClampNeg 0).toInt ≤ 7)) := kE_ncond (p := 139) hGg14.I (by decide) (j := l4_15) (of3 p15_0.1)
                have b29 : ((-2147483648 : Int) ≤ ((ag14 118).getD l4_15.toNatClampNeg 0).toInt) ∧ (((ag14 118).getD l4_15.toNatClampNeg 0).toInt ≤ 2147483647) := kd_bd ((ag14 118).getD l4_15.toNatClampNeg 0)
                have b30 : ((-2147483648 : Int) ≤ ((ag14 139).getD l4_15.toNatClampNeg 0).toInt) ∧ (((ag14 139).getD l4_15.toNatClampNeg 0).toInt ≤ 2147483647) := kd_bd ((ag14 139).getD l4_15.toNatClampNeg 0)
                refine ft_goS mi_k189 1 98 [.int (((ag14 118).getD l4_15.toNatClampNeg 0) - ((ag14 139).getD l4_15.toNatClampNeg 0)), .int (((ag14 118).getD l5_15.toNatClampNeg 0) - ((ag14 139).getD l5_15.toNatClampNeg 0))] (by rfl) ?_
                refine ft_ifS mi_k189 (decide ((((ag14 118).getD l5_15.toNatClampNeg 0) - ((ag14 139).getD l5_15.toNatClampNeg 0)) ≤ (((ag14 118).getD l4_15.toNatClampNeg 0) - ((ag14 139).getD l4_15.toNatClampNeg 0)))) 105 101 [] (by rfl) (fun c => ?_) (fun c => ?_)
                ·
                  have c31 : (((ag14 118).getD l5_15.toNatClampNeg 0) - ((ag14 139).getD l5_15.toNatClampNeg 0)).toInt ≤ (((ag14 118).getD l4_15.toNatClampNeg 0) - ((ag14 139).getD l4_15.toNatClampNeg 0)).toInt := kd_le c; clear c
                  have s32 : (l5_15 + 1).toInt = l5_15.toInt + (1 : Int32).toInt := kd_add (of189 p15_1 kof1) (of139 c22 fig14_7424.2 kof1)
                  first | refine ft_goL mi_k189 2 59 [(5, .int (l5_15 + 1)), (4, .int l4_15), (3, .int vg5), (0, .ref 116), (1, .int x1), (2, .int x2)] [] (by rfl) ?_
                  exact ih15 _ _ (of190 p15_0.1 p15_0.2) (of191 p15_1 s32 kof1) (by first | rfl | (simp only [O15_0, sMn, sMx]; done) | (simp only [O15_0, sMn, sMx]; rfl)) (kj_meas (of79 s32 kof1) (of80 c22) hm15)
                ·
                  have c33 : (((ag14 118).getD l4_15.toNatClampNeg 0) - ((ag14 139).getD l4_15.toNatClampNeg 0)).toInt < (((ag14 118).getD l5_15.toNatClampNeg 0) - ((ag14 139).getD l5_15.toNatClampNeg 0)).toInt := kd_leF c; clear c
                  have s34 : (l5_15 + 1).toInt = l5_15.toInt + (1 : Int32).toInt := kd_add (of189 p15_1 kof1) (of139 c22 fig14_7424.2 kof1)
                  first | refine fo_goL mi_k189 fz189_53_4_59 [(5, .int (l5_15 + 1)), (4, .int l5_15), (3, .int vg5), (0, .ref 116), (1, .int x1), (2, .int x2)] [] (by rfl) ?_ | refine fo_goL mi_k189 fz189_101_4_59 [(5, .int (l5_15 + 1)), (4, .int l5_15), (3, .int vg5), (0, .ref 116), (1, .int x1), (2, .int x2)] [] (by rfl) ?_ | refine ft_goL mi_k189 4 59 [(5, .int (l5_15 + 1)), (4, .int l5_15), (3, .int vg5), (0, .ref 116), (1, .int x1), (2, .int x2)] [] (by rfl) ?_
                  exact ih15 _ _ (of192 c22 fig14_7424.2 p15_1) (of191 p15_1 s34 kof1) (by first | rfl | (simp only [O15_0, sMn, sMx]; done) | (simp only [O15_0, sMn, sMx]; rfl)) (kj_meas (of79 s34 kof1) (of80 c22) hm15)
          exact lp15 _ _ _ (of160 kof0) (of193 kof1) (by first | rfl | (simp only [kg14.fa 139 rfl, q12, kg9.fa 118 rfl, sMn, sMx]; done) | (simp only [kg14.fa 139 rfl, q12, kg9.fa 118 rfl, sMn, sMx]; rfl)) (Nat.lt_succ_self _)
        ·
          have c35 : (i 7424).toInt = (0 : Int32).toInt := kd_neF c; clear c
          refine ft_goS mi_k189 1 39 [.int (-2)] (by rfl) ?_
          exact ft_ret mi_k189 (by rfl) (hP (-2) _ _ _ _ hG ⟨trivial, (show a 118 = a 118 from rfl)⟩)
      ·
        have c36 : vg5.toInt < (0 : Int32).toInt := kd_leF c; clear c
        refine ft_goS mi_k189 1 29 [.int vg5] (by rfl) ?_
        exact ft_ret mi_k189 (by rfl) (hP vg5 _ _ _ _ hG ⟨trivial, (show a 118 = a 118 from rfl)⟩)
    ·
      subst eg3
      first | refine ft_goS mi_k189 2 17 [.int (-1)] (by rfl) ?_
      exact ft_ret mi_k189 (by rfl) (hP (-1) _ _ _ _ hG ⟨trivial, (show a 118 = a 118 from rfl)⟩)
  ·
    subst eg1
    first | refine ft_goS mi_k189 2 17 [.int (-1)] (by rfl) ?_
    exact ft_ret mi_k189 (by rfl) (hP (-1) _ _ _ _ hG ⟨trivial, (show a 118 = a 118 from rfl)⟩)
noncomputable def yw193_116 : kW := ([7464, 7465, 7466, 7467, 7469], [118, 128, 129, 139, 141, 142, 143, 144, 145], [], [])
set_option maxRecDepth 100000 in
theorem ke193_116 {i : Nat → Int32} {a : Nat → List Int32} {q : Nat → List Int64} {r : Nat → Nat} (hI : kI i a q) (hr : kr r) (x1 : Int32) (hE_code : kCode i a) : km 15 193 [.ref 116, .int x1] (ks i a q r) (kVI yw193_116 i a q r (fun v i1 a1 q1 r1 => (True) ∧ a1 118 = a 118)) := by
  have hG := kG_self yw193_116 hI hr
  refine km_ofI (q := (mi_h193, mi_c193)) rfl (by decide) (Nat.le_of_ble_eq_true rfl) ?_
  intro P hP
  refine ft_goL mi_k193 2 2 [(0, .ref 116), (1, .int x1)] [.int x1, .ref 116] (by rfl) ?_
  refine ko_callPI mi_k193.1 (pc := 2) (ls := [(0, .ref 116), (1, .int x1)]) (st := [.int x1, .ref 116]) (h := ks i a q r) (i := (.invokevirtual 314, 3, 190, 0, 9, 0, 442)) (mi_k193.2 _ _ (by rfl)) (ft_invS mi_pq190 (by rfl)) (cy := mi_c190) mi_pq190 rfl (kc190_116 hG.I hG.R x1) (by decide) ?_
  intro vg1 hg1
  rcases hg1 with ⟨eg1, hg1⟩ | ⟨eg1, hg1⟩
  ·
    subst eg1
    have z2 : ((0 : Int) ≤ x1.toInt) ∧ (((0 : Int) ≤ (x1.toInt / 10)) ∧ ((x1.toInt / 10) ≤ 5)) ∧ ((x1.toInt % 10) ≤ 5) := hg1
    refine ft_goS mi_k193 3 12 [.int x1, .ref 116] (by rfl) ?_
    refine ko_callPI mi_k193.1 (pc := 12) (ls := [(0, .ref 116), (1, .int x1)]) (st := [.int x1, .ref 116]) (h := ks i a q r) (i := (.invokevirtual 317, 3, 191, 0, 9, 0, 443)) (mi_k193.2 _ _ (by rfl)) (ft_invS mi_pq191 (by rfl)) (cy := mi_c191) mi_pq191 rfl (kc191_116 hG.I hG.R x1 (of202 z2.2.1.1 z2.2.1.2) (of3 z2.1) (of203 z2.2.2)) (by decide) ?_
    intro vg3 hg3
    refine ft_goL mi_k193 2 17 [(2, .int vg3), (0, .ref 116), (1, .int x1)] [.int vg3] (by rfl) ?_
    refine ft_ifS mi_k193 (decide (0 ≤ vg3)) 22 20 [] (by rfl) (fun c => ?_) (fun c => ?_)
    ·
      have c5 : (0 : Int32).toInt ≤ vg3.toInt := kd_le c; clear c
      have s6 : (x1 / 10).toInt = (x1.toInt / 10) := kd_div 10 kof10 (by decide) (of3 z2.1)
      refine ft_goS mi_k193 4 27 [.int (x1 / 10), .ref 116] (by rfl) ?_
      refine ko_callN mi_k193.1 (pc := 27) (ls := [(2, .int vg3), (0, .ref 116), (1, .int x1)]) (st := [.int (x1 / 10), .ref 116]) (h := ks i a q r) (i := (.invokevirtual 279, 3, 174, 0, 9, 0, 411)) (mi_k193.2 _ _ (by rfl)) (ft_invS mi_pq174 (by rfl)) (cy := mi_c174) mi_pq174 rfl (kc174_116 hG.I hG.R (x1 / 10) (of204 s6 z2.1 z2.2.1.2 z2.2.2)) (by decide) ?_
      intro ig7 ag7 qg7 rg7 kg7 hg7
      have hGg7 := kG_call hG kg7 (by decide +kernel)
      have s9 : (x1 - x1 / 10 * 10).toInt = (x1.toInt % 10) := kd_rem 10 kof10 (by decide) (of3 z2.1)
      refine ft_goS mi_k193 4 35 [.int (x1 - x1 / 10 * 10), .ref 116] (by rfl) ?_
      refine ko_callI mi_k193.1 (pc := 35) (ls := [(2, .int vg3), (0, .ref 116), (1, .int x1)]) (st := [.int (x1 - x1 / 10 * 10), .ref 116]) (h := ks ig7 ag7 qg7 rg7) (i := (.invokevirtual 320, 3, 192, 0, 9, 0, 444)) (mi_k193.2 _ _ (by rfl)) (ft_invS mi_pq192 (by rfl)) (cy := mi_c192) mi_pq192 rfl (ke192_116 hGg7.I hGg7.R (x1 - x1 / 10 * 10) (of205 s9 z2.2.2) (kCode_of (i1 := ig7) hE_code (hGg7.fi 7432 rfl) (hGg7.fa 120 rfl) (hGg7.fa 121 rfl) (hGg7.fa 122 rfl) (hGg7.fa 123 rfl))) (by decide) ?_
      intro vg10 ig10 ag10 qg10 rg10 kg10 hg10
      have hGg10 := kG_call hGg7 kg10 (by decide +kernel)
      obtain ⟨hg10, og10⟩ := hg10
      have q11 : ag10 118 = ag7 118 := og10
      exact ft_ret mi_k193 (by rfl) (hP vg10 _ _ _ _ hGg10 ⟨trivial, (show ag10 118 = a 118 from (by first | rfl | (simp only [q11, kg7.fa 118 rfl, sMn, sMx]; done) | (simp only [q11, kg7.fa 118 rfl, sMn, sMx]; rfl)))⟩)
    ·
      have c12 : vg3.toInt < (0 : Int32).toInt := kd_leF c; clear c
      refine ft_goS mi_k193 1 21 [.int vg3] (by rfl) ?_
      exact ft_ret mi_k193 (by rfl) (hP vg3 _ _ _ _ hG ⟨trivial, (show a 118 = a 118 from rfl)⟩)
  ·
    subst eg1
    refine ft_goS mi_k193 2 9 [.int (-1)] (by rfl) ?_
    exact ft_ret mi_k193 (by rfl) (hP (-1) _ _ _ _ hG ⟨trivial, (show a 118 = a 118 from rfl)⟩)
noncomputable def yw195_116 : kW := ([7464, 7465, 7466, 7467], [118, 128, 129, 139, 141, 142, 143, 144, 145], [], [])
noncomputable def yw195_116_L13 : kW := ([7464, 7465, 7466, 7467], [118, 128, 129, 139, 141, 142, 143, 144, 145], [], [])
set_option maxRecDepth 100000 in
theorem ke195_116 {i : Nat → Int32} {a : Nat → List Int32} {q : Nat → List Int64} {r : Nat → Nat} (hI : kI i a q) (hr : kr r) (x1 : Int32) (x2 : Int32) (hp0 : ((0 : Int) ≤ x1.toInt) ∧ (x1.toInt ≤ 5)) (hp1 : ((0 : Int) ≤ x2.toInt) ∧ (x2.toInt ≤ 20)) (hE_code : kCode i a) : km 15 195 [.ref 116, .int x1, .int x2] (ks i a q r) (kVI yw195_116 i a q r (fun v i1 a1 q1 r1 => (True) ∧ a1 118 = a 118)) := by
  have hG := kG_self yw195_116 hI hr
  refine km_ofI (q := (mi_h195, mi_c195)) rfl (by decide) (Nat.le_of_ble_eq_true rfl) ?_
  intro P hP
  refine ft_goL mi_k195 3 5 [(0, .ref 116), (1, .int x1), (2, .int x2)] [.int x2, .ref 142] (by rfl) ?_
  refine ko_iald3 mi_k195.1 (n := 21) (c := 21) (ax := (0, 0, 0, 0, 0)) (mi_k195.2 _ _ (by rfl)) (by rfl) (ksG142 _ _ _ _) (hG.I.2.1 142) rfl (of3 hp1.1) (of59 hp1.2) ?_
  have r1 : ((0 : Int) ≤ ((a 142).getD x2.toNatClampNeg 0).toInt) ∧ (((a 142).getD x2.toNatClampNeg 0).toInt ≤ 7) := hG.I.2.2.1 142 (x2.toNatClampNeg)
  first | refine fo_goL mi_k195 fz195_6_5_13 [(5, .int 0), (4, .int 0), (3, .int ((a 142).getD x2.toNatClampNeg 0)), (0, .ref 116), (1, .int x1), (2, .int x2)] [] (by rfl) ?_ | refine ft_goL mi_k195 5 13 [(5, .int 0), (4, .int 0), (3, .int ((a 142).getD x2.toNatClampNeg 0)), (0, .ref 116), (1, .int x1), (2, .int x2)] [] (by rfl) ?_
  have lp2 : ∀ (nz : Nat) (i2 : Nat → Int32) (a2 : Nat → List Int32) (q2 : Nat → List Int64) (r2 : Nat → Nat) (l5_2 : Int32) (l4_2 : Int32), kG yw195_116_L13 i a q r i2 a2 q2 r2 → (0 : Int) ≤ l5_2.toInt → a2 118 = a 118 → (((i2 7424).toInt - l5_2.toInt)).toNat < nz → ko 15 (mi_h195, mi_c195) P (13, [(5, .int l5_2), (4, .int l4_2), (3, .int ((a 142).getD x2.toNatClampNeg 0)), (0, .ref 116), (1, .int x1), (2, .int x2)], [], (0, 0), ks i2 a2 q2 r2) := by
    intro nz
    induction nz with
    | zero =>
      intro _ _ _ _ _ _ _ _ _ hm
      exact absurd hm (Nat.not_lt_zero _)
    | succ nz ih2 =>
      intro i2 a2 q2 r2 l5_2 l4_2 hL2 p2_0 O2_0 hm2
      have fi2_7424 : ((0 : Int) ≤ (i2 7424).toInt) ∧ ((i2 7424).toInt ≤ 8) := hL2.I.1 7424
      refine ft_goL mi_k195 3 19 [(5, .int l5_2), (4, .int l4_2), (3, .int ((a 142).getD x2.toNatClampNeg 0)), (0, .ref 116), (1, .int x1), (2, .int x2)] [.int (i2 7424), .int l5_2] (by rfl) ?_
      refine ft_ifS mi_k195 (decide ((i2 7424) ≤ l5_2)) 55 22 [] (by rfl) (fun c => ?_) (fun c => ?_)
      ·
        have c3 : (i2 7424).toInt ≤ l5_2.toInt := kd_le c; clear c
        have hG4 := kG_call hG hL2 (by decide +kernel)
        refine ft_goS mi_k195 4 61 [.int ((a 142).getD x2.toNatClampNeg 0), .int x2, .ref 142] (by rfl) ?_
        refine ko_iast3 mi_k195.1 (n := 21) (c := 21) (ax := (0, 0, 0, 0, 0)) (mi_k195.2 _ _ (by rfl)) (by rfl) (ksG142 _ _ _ _) (ksA142 _ _ _ _) (hG4.I.2.1 142) rfl (of3 hp1.1) (of59 hp1.2) ?_
        intro a5 ea5 fa5
        have hJ5 := kG_a3 hG4 142 rfl ea5 fa5 ⟨(of3 r1.1), (of100 r1.2)⟩
        refine ft_goS mi_k195 1 64 [.int l4_2] (by rfl) ?_
        exact ft_ret mi_k195 (by rfl) (hP l4_2 _ _ _ _ hJ5 ⟨trivial, (show a5 118 = a 118 from (by first | rfl | (simp only [fa5 118 (by decide), O2_0, sMn, sMx]; done) | (simp only [fa5 118 (by decide), O2_0, sMn, sMx]; rfl)))⟩)
      ·
        have c6 : l5_2.toInt < (i2 7424).toInt := kd_leF c; clear c
        refine ft_goS mi_k195 4 29 [.int l5_2, .int x2, .ref 142] (by rfl) ?_
        refine ko_iast3 mi_k195.1 (n := 21) (c := 21) (ax := (0, 0, 0, 0, 0)) (mi_k195.2 _ _ (by rfl)) (by rfl) (ksG142 _ _ _ _) (ksA142 _ _ _ _) (hL2.I.2.1 142) rfl (of3 hp1.1) (of59 hp1.2) ?_
        intro a7 ea7 fa7
        have hJ7 := kG_a3 hL2 142 rfl ea7 fa7 ⟨(of3 p2_0), (of206 c6 fi2_7424.2)⟩
        refine ft_goS mi_k195 2 32 [.int x1, .ref 116] (by rfl) ?_
        have hG8 := kG_call hG hJ7 (by decide +kernel)
        refine ko_callI mi_k195.1 (pc := 32) (ls := [(5, .int l5_2), (4, .int l4_2), (3, .int ((a 142).getD x2.toNatClampNeg 0)), (0, .ref 116), (1, .int x1), (2, .int x2)]) (st := [.int x1, .ref 116]) (h := ks i2 a7 q2 r2) (i := (.invokevirtual 320, 3, 192, 0, 9, 0, 444)) (mi_k195.2 _ _ (by rfl)) (ft_invS mi_pq192 (by rfl)) (cy := mi_c192) mi_pq192 rfl (ke192_116 hJ7.I hJ7.R x1 (of34 hp0.1 hp0.2) (kCode_of (i1 := i2) hE_code (hG8.fi 7432 rfl) (hG8.fa 120 rfl) (hG8.fa 121 rfl) (hG8.fa 122 rfl) (hG8.fa 123 rfl))) (by decide) ?_
        intro vg9 ig9 ag9 qg9 rg9 kg9 hg9
        have hGg9 := kG_call hJ7 kg9 (by decide +kernel)
        obtain ⟨hg9, og9⟩ := hg9
        have q10 : ag9 118 = a7 118 := og9
        refine ft_goS mi_k195 1 37 [.int (-2), .int vg9] (by rfl) ?_
        refine ft_ifS mi_k195 (vg9 != (-2)) 49 40 [] (by rfl) (fun c => ?_) (fun c => ?_)
        ·
          have c11 : vg9.toInt ≠ ((-2) : Int32).toInt := kd_ne c; clear c
          have s12 : (l5_2 + 1).toInt = l5_2.toInt + (1 : Int32).toInt := kd_add (of9 p2_0 kof1) (of139 c6 fi2_7424.2 kof1)
          first | refine ft_goL mi_k195 2 13 [(5, .int (l5_2 + 1)), (4, .int l4_2), (3, .int ((a 142).getD x2.toNatClampNeg 0)), (0, .ref 116), (1, .int x1), (2, .int x2)] [] (by rfl) ?_
          have efig9_7424 : (ig9 7424).toInt = (i2 7424).toInt := kg9.ti 7424 rfl
          exact ih2 _ _ _ _ _ _ hGg9 (of11 p2_0 s12 kof1) (by first | rfl | (simp only [q10, fa7 118 (by decide), O2_0, sMn, sMx]; done) | (simp only [q10, fa7 118 (by decide), O2_0, sMn, sMx]; rfl)) (kj_meas (of207 efig9_7424 s12 kof1) (of80 c6) hm2)
        ·
          have c13 : vg9.toInt = ((-2) : Int32).toInt := kd_neF c; clear c
          have s14 : ((1 : Int) ≤ (1 <<< (l5_2 &&& 31)).toInt) ∧ ((1 <<< (l5_2 &&& 31)).toInt ≤ 256) := kd_shl1 (of3 p2_0) (of208 c6 fi2_7424.2)
          have s15 : (l5_2 + 1).toInt = l5_2.toInt + (1 : Int32).toInt := kd_add (of9 p2_0 kof1) (of139 c6 fi2_7424.2 kof1)
          first | refine ft_goL mi_k195 8 13 [(5, .int (l5_2 + 1)), (4, .int (l4_2 ||| (1 <<< (l5_2 &&& 31)))), (3, .int ((a 142).getD x2.toNatClampNeg 0)), (0, .ref 116), (1, .int x1), (2, .int x2)] [] (by rfl) ?_
          have efig9_7424 : (ig9 7424).toInt = (i2 7424).toInt := kg9.ti 7424 rfl
          exact ih2 _ _ _ _ _ _ hGg9 (of11 p2_0 s15 kof1) (by first | rfl | (simp only [q10, fa7 118 (by decide), O2_0, sMn, sMx]; done) | (simp only [q10, fa7 118 (by decide), O2_0, sMn, sMx]; rfl)) (kj_meas (of207 efig9_7424 s15 kof1) (of80 c6) hm2)
  exact lp2 _ _ _ _ _ _ _ (kG_self _ hG.I hG.R) (of17 kof0) rfl (Nat.lt_succ_self _)
noncomputable def yw201_116 : kW := ([7464, 7465, 7466, 7467], [118, 128, 129, 139, 141], [], [])
noncomputable def yw201_116_L71 : kW := ([7464, 7465, 7466, 7467], [118, 128, 129, 141], [], [])
noncomputable def yw201_116_L91 : kW := ([7464, 7465, 7466, 7467], [118, 128, 129, 141], [], [])
set_option maxRecDepth 100000 in
theorem ke201_116 {i : Nat → Int32} {a : Nat → List Int32} {q : Nat → List Int64} {r : Nat → Nat} (hI : kI i a q) (hr : kr r) (x1 : Int32) (x2 : Int32) (x3 : Int32) (hE_code : kCode i a) : km 11 201 [.ref 116, .int x1, .int x2, .int x3] (ks i a q r) (kVI yw201_116 i a q r (fun v i1 a1 q1 r1 => (True) ∧ a1 118 = a 118)) := by
  have hG := kG_self yw201_116 hI hr
  refine km_ofI (q := (mi_h201, mi_c201)) rfl (by decide) (Nat.le_of_ble_eq_true rfl) ?_
  intro P hP
  refine ft_goL mi_k201 1 1 [(0, .ref 116), (1, .int x1), (2, .int x2), (3, .int x3)] [.int x2] (by rfl) ?_
  refine ft_ifS mi_k201 (decide (x2 < 0)) 56 4 [] (by rfl) (fun c => ?_) (fun c => ?_)
  ·
    have c1 : x2.toInt < (0 : Int32).toInt := kd_lt c; clear c
    refine ft_goS mi_k201 1 57 [.int (-1)] (by rfl) ?_
    exact ft_ret mi_k201 (by rfl) (hP (-1) _ _ _ _ hG ⟨trivial, (show a 118 = a 118 from rfl)⟩)
  ·
    have c2 : (0 : Int32).toInt ≤ x2.toInt := kd_ltF c; clear c
    have s3 : (x2 / 10000).toInt = (x2.toInt / 10000) := kd_div 10000 kof10000 (by decide) (of70 c2 kof0)
    refine fo_goS mi_k201 fz201_4_5_12 [.int 30, .int 1, .int (x2 / 10000)] rfl ?_
    refine ko_callPI mi_k201.1 (pc := 12) (ls := [(0, .ref 116), (1, .int x1), (2, .int x2), (3, .int x3)]) (st := [.int 30, .int 1, .int (x2 / 10000)]) (h := ks i a q r) (i := (.invokestatic 119, 3, 131, 0, 9, 0, 379)) (mi_k201.2 _ _ (by rfl)) (ft_invS mi_pq131 (by rfl)) (cy := mi_c131) mi_pq131 rfl (kc131 hG.I hG.R (x2 / 10000) 1 30) (by decide) ?_
    intro vg4 hg4
    rcases hg4 with ⟨eg4, hg4⟩ | ⟨eg4, hg4⟩
    ·
      subst eg4
      have z5 : ((1 : Int32).toInt ≤ (x2 / 10000).toInt) ∧ ((x2 / 10000).toInt ≤ (30 : Int32).toInt) := hg4
      have s6 : (x2 / 100).toInt = (x2.toInt / 100) := kd_div 100 kof100 (by decide) (of70 c2 kof0)
      have s7 : ((x2 / 100) - (x2 / 100) / 100 * 100).toInt = ((x2 / 100).toInt % 100) := kd_rem 100 kof100 (by decide) (of209 c2 s6 kof0)
      refine fo_goS mi_k201 fz201_15_8_28 [.int 60, .int 1, .int ((x2 / 100) - (x2 / 100) / 100 * 100)] rfl ?_
      refine ko_callPI mi_k201.1 (pc := 28) (ls := [(0, .ref 116), (1, .int x1), (2, .int x2), (3, .int x3)]) (st := [.int 60, .int 1, .int ((x2 / 100) - (x2 / 100) / 100 * 100)]) (h := ks i a q r) (i := (.invokestatic 119, 3, 131, 0, 9, 0, 379)) (mi_k201.2 _ _ (by rfl)) (ft_invS mi_pq131 (by rfl)) (cy := mi_c131) mi_pq131 rfl (kc131 hG.I hG.R ((x2 / 100) - (x2 / 100) / 100 * 100) 1 60) (by decide) ?_
      intro vg8 hg8
      rcases hg8 with ⟨eg8, hg8⟩ | ⟨eg8, hg8⟩
      ·
        subst eg8
        have s10 : (x2 - x2 / 100 * 100).toInt = (x2.toInt % 100) := kd_rem 100 kof100 (by decide) (of70 c2 kof0)
        refine fo_goS mi_k201 fz201_31_5_40 [.int 12, .int (x2 - x2 / 100 * 100)] rfl ?_
        refine ft_ifS mi_k201 (decide (12 < (x2 - x2 / 100 * 100))) 56 43 [] (by rfl) (fun c => ?_) (fun c => ?_)
        ·
          have c11 : (12 : Int32).toInt < (x2 - x2 / 100 * 100).toInt := kd_lt c; clear c
          refine ft_goS mi_k201 1 57 [.int (-1)] (by rfl) ?_
          exact ft_ret mi_k201 (by rfl) (hP (-1) _ _ _ _ hG ⟨trivial, (show a 118 = a 118 from rfl)⟩)
        ·
          have c12 : (x2 - x2 / 100 * 100).toInt ≤ (12 : Int32).toInt := kd_ltF c; clear c
          refine ft_goS mi_k201 2 45 [.int (-1), .int x3] (by rfl) ?_
          refine ft_ifS mi_k201 (x3 == (-1)) 58 48 [] (by rfl) (fun c => ?_) (fun c => ?_)
          ·
            have c13 : x3.toInt = ((-1) : Int32).toInt := kd_eq c; clear c
            refine ft_goS mi_k201 1 59 [.ref 116] (by rfl) ?_
            refine ko_callN mi_k201.1 (pc := 59) (ls := [(0, .ref 116), (1, .int x1), (2, .int x2), (3, .int x3)]) (st := [.ref 116]) (h := ks i a q r) (i := (.invokevirtual 267, 3, 171, 0, 9, 0, 412)) (mi_k201.2 _ _ (by rfl)) (ft_invS mi_pq171 (by rfl)) (cy := mi_c171) mi_pq171 rfl (ke171_116 hG.I hG.R ) (by decide) ?_
            intro ig14 ag14 qg14 rg14 kg14 hg14
            have hGg14 := kG_call hG kg14 (by decide +kernel)
            obtain ⟨hg14, og14⟩ := hg14
            have q15 : ag14 139 = a 118 := og14.1
            have q16 : ag14 118 = a 118 := og14.2
            first | refine fo_goL mi_k201 fz201_62_6_71 [(6, .int 0), (5, .int 0), (4, .int x1), (0, .ref 116), (1, .int x1), (2, .int x2), (3, .int x3)] [] (by rfl) ?_ | refine ft_goL mi_k201 6 71 [(6, .int 0), (5, .int 0), (4, .int x1), (0, .ref 116), (1, .int x1), (2, .int x2), (3, .int x3)] [] (by rfl) ?_
            have lp17 : ∀ (nz : Nat) (i17 : Nat → Int32) (a17 : Nat → List Int32) (q17 : Nat → List Int64) (r17 : Nat → Nat) (l6_17 : Int32) (l5_17 : Int32) (l4_17 : Int32), kG yw201_116_L71 ig14 ag14 qg14 rg14 i17 a17 q17 r17 → (0 : Int) ≤ l6_17.toInt → a17 118 = a 118 → a17 139 = a 118 → ((31 - l6_17.toInt)).toNat < nz → ko 11 (mi_h201, mi_c201) P (71, [(6, .int l6_17), (5, .int l5_17), (4, .int l4_17), (0, .ref 116), (1, .int x1), (2, .int x2), (3, .int x3)], [], (0, 0), ks i17 a17 q17 r17) := by
              intro nz
              induction nz with
              | zero =>
                intro _ _ _ _ _ _ _ _ _ _ _ hm
                exact absurd hm (Nat.not_lt_zero _)
              | succ nz ih17 =>
                intro i17 a17 q17 r17 l6_17 l5_17 l4_17 hL17 p17_0 O17_0 O17_1 hm17
                refine fo_goL mi_k201 fz201_71_4_78 [(6, .int l6_17), (5, .int l5_17), (4, .int l4_17), (0, .ref 116), (1, .int x1), (2, .int x2), (3, .int x3)] [.int (x2 / 10000), .int l6_17] rfl ?_
                refine ft_ifS mi_k201 (decide ((x2 / 10000) ≤ l6_17)) 186 81 [] (by rfl) (fun c => ?_) (fun c => ?_)
                ·
                  have c18 : (x2 / 10000).toInt ≤ l6_17.toInt := kd_le c; clear c
                  have hG19 := kG_call hGg14 hL17 (by decide +kernel)
                  refine fo_goS mi_k201 fz201_186_2_188 [.int (-1), .int x3] rfl ?_
                  refine ft_ifS mi_k201 (x3 != (-1)) 198 191 [] (by rfl) (fun c => ?_) (fun c => ?_)
                  ·
                    have c20 : x3.toInt ≠ ((-1) : Int32).toInt := kd_ne c; clear c
                    exact (of210 c13 c20 kofm1).elim
                  ·
                    have c21 : x3.toInt = ((-1) : Int32).toInt := kd_neF c; clear c
                    first | refine fo_goS mi_k201 fz201_191_3_200 [.int (i17 7467)] (by rfl) ?_ | refine ft_goS mi_k201 3 200 [.int (i17 7467)] (by rfl) ?_
                    exact ft_ret mi_k201 (by rfl) (hP (i17 7467) _ _ _ _ hG19 ⟨trivial, (show a17 118 = a 118 from (by first | rfl | (simp only [O17_0, sMn, sMx]; done) | (simp only [O17_0, sMn, sMx]; rfl)))⟩)
                ·
                  have c22 : l6_17.toInt < (x2 / 10000).toInt := kd_leF c; clear c
                  refine ft_goS mi_k201 2 85 [.int (i17 7424)] (by rfl) ?_
                  refine ft_ifS mi_k201 (decide ((i17 7424) ≤ 0)) 186 88 [] (by rfl) (fun c => ?_) (fun c => ?_)
                  ·
                    have c23 : (i17 7424).toInt ≤ (0 : Int32).toInt := kd_le c; clear c
                    have hG24 := kG_call hGg14 hL17 (by decide +kernel)
                    refine fo_goS mi_k201 fz201_186_2_188 [.int (-1), .int x3] rfl ?_
                    refine ft_ifS mi_k201 (x3 != (-1)) 198 191 [] (by rfl) (fun c => ?_) (fun c => ?_)
                    ·
                      have c25 : x3.toInt ≠ ((-1) : Int32).toInt := kd_ne c; clear c
                      exact (of210 c13 c25 kofm1).elim
                    ·
                      have c26 : x3.toInt = ((-1) : Int32).toInt := kd_neF c; clear c
                      first | refine fo_goS mi_k201 fz201_191_3_200 [.int (i17 7467)] (by rfl) ?_ | refine ft_goS mi_k201 3 200 [.int (i17 7467)] (by rfl) ?_
                      exact ft_ret mi_k201 (by rfl) (hP (i17 7467) _ _ _ _ hG24 ⟨trivial, (show a17 118 = a 118 from (by first | rfl | (simp only [O17_0, sMn, sMx]; done) | (simp only [O17_0, sMn, sMx]; rfl)))⟩)
                  ·
                    have c27 : (0 : Int32).toInt < (i17 7424).toInt := kd_leF c; clear c
                    first | refine ft_goL mi_k201 2 91 [(7, .int 0), (6, .int l6_17), (5, .int l5_17), (4, .int l4_17), (0, .ref 116), (1, .int x1), (2, .int x2), (3, .int x3)] [] (by rfl) ?_
                    have lp28 : ∀ (nz : Nat) (i28 : Nat → Int32) (a28 : Nat → List Int32) (q28 : Nat → List Int64) (r28 : Nat → Nat) (l7_28 : Int32) (l4_28 : Int32), kG yw201_116_L91 i17 a17 q17 r17 i28 a28 q28 r28 → (0 : Int) ≤ l7_28.toInt → a28 139 = a 118 → ((100 - l7_28.toInt)).toNat < nz → ko 11 (mi_h201, mi_c201) P (91, [(7, .int l7_28), (6, .int l6_17), (5, .int l5_17), (4, .int l4_28), (0, .ref 116), (1, .int x1), (2, .int x2), (3, .int x3)], [], (0, 0), ks i28 a28 q28 r28) := by
                      intro nz
                      induction nz with
                      | zero =>
                        intro _ _ _ _ _ _ _ _ _ hm
                        exact absurd hm (Nat.not_lt_zero _)
                      | succ nz ih28 =>
                        intro i28 a28 q28 r28 l7_28 l4_28 hL28 p28_0 O28_0 hm28
                        refine fo_goL mi_k201 fz201_91_6_100 [(7, .int l7_28), (6, .int l6_17), (5, .int l5_17), (4, .int l4_28), (0, .ref 116), (1, .int x1), (2, .int x2), (3, .int x3)] [.int ((x2 / 100) - (x2 / 100) / 100 * 100), .int l7_28] rfl ?_
                        refine ft_ifS mi_k201 (decide (((x2 / 100) - (x2 / 100) / 100 * 100) ≤ l7_28)) 155 103 [] (by rfl) (fun c => ?_) (fun c => ?_)
                        ·
                          have c29 : ((x2 / 100) - (x2 / 100) / 100 * 100).toInt ≤ l7_28.toInt := kd_le c; clear c
                          have hG30 := kG_call hL17 hL28 (by decide +kernel)
                          refine ft_goS mi_k201 2 157 [.int (-1), .int x3] (by rfl) ?_
                          refine ft_ifS mi_k201 (x3 == (-1)) 171 160 [] (by rfl) (fun c => ?_) (fun c => ?_)
                          ·
                            have c31 : x3.toInt = ((-1) : Int32).toInt := kd_eq c; clear c
                            refine ft_goS mi_k201 4 177 [.int 0, .ref 139, .ref 116] (by rfl) ?_
                            refine ko_callN mi_k201.1 (pc := 177) (ls := [(7, .int l7_28), (6, .int l6_17), (5, .int l5_17), (4, .int l4_28), (0, .ref 116), (1, .int x1), (2, .int x2), (3, .int x3)]) (st := [.int 0, .ref 139, .ref 116]) (h := ks i28 a28 q28 r28) (i := (.invokevirtual 273, 3, 169, 0, 9, 0, 423)) (mi_k201.2 _ _ (by rfl)) (ft_invS mi_pq169 (by rfl)) (cy := mi_c169) mi_pq169 rfl (ke169_116_139 hG30.I hG30.R 0 (of20 kof0)) (by decide) ?_
                            intro ig32 ag32 qg32 rg32 kg32 hg32
                            have hGg32 := kG_call hG30 kg32 (by decide +kernel)
                            obtain ⟨hg32, og32⟩ := hg32
                            have q33 : ag32 118 = a28 139 := og32
                            have s34 : (l6_17 + 1).toInt = l6_17.toInt + (1 : Int32).toInt := kd_add (of9 p17_0 kof1) (of211 c22 z5.2 kof30 kof1)
                            first | refine ft_goL mi_k201 2 71 [(6, .int (l6_17 + 1)), (7, .int l7_28), (5, .int l5_17), (4, .int l4_28), (0, .ref 116), (1, .int x1), (2, .int x2), (3, .int x3)] [] (by rfl) ?_
                            refine ko_perm [(6, .int (l6_17 + 1)), (5, .int l5_17), (4, .int l4_28), (0, .ref 116), (1, .int x1), (2, .int x2), (3, .int x3)] (List.forall_mem_cons.mpr ⟨(List.Mem.head _), (List.forall_mem_cons.mpr ⟨(List.Mem.tail _ (List.Mem.tail _ (List.Mem.head _))), (List.forall_mem_cons.mpr ⟨(List.Mem.tail _ (List.Mem.tail _ (List.Mem.tail _ (List.Mem.head _)))), (List.forall_mem_cons.mpr ⟨(List.Mem.tail _ (List.Mem.tail _ (List.Mem.tail _ (List.Mem.tail _ (List.Mem.head _))))), (List.forall_mem_cons.mpr ⟨(List.Mem.tail _ (List.Mem.tail _ (List.Mem.tail _ (List.Mem.tail _ (List.Mem.tail _ (List.Mem.head _)))))), (List.forall_mem_cons.mpr ⟨(List.Mem.tail _ (List.Mem.tail _ (List.Mem.tail _ (List.Mem.tail _ (List.Mem.tail _ (List.Mem.tail _ (List.Mem.head _))))))), (List.forall_mem_cons.mpr ⟨(List.Mem.tail _ (List.Mem.tail _ (List.Mem.tail _ (List.Mem.tail _ (List.Mem.tail _ (List.Mem.tail _ (List.Mem.tail _ (List.Mem.head _)))))))), (fun _ h => absurd h List.not_mem_nil)⟩)⟩)⟩)⟩)⟩)⟩)⟩) ?_
                            exact ih17 _ _ _ _ _ _ _ hGg32 (of11 p17_0 s34 kof1) (by first | rfl | (simp only [q33, O28_0, sMn, sMx]; done) | (simp only [q33, O28_0, sMn, sMx]; rfl)) (by first | rfl | (simp only [kg32.fa 139 rfl, O28_0, sMn, sMx]; done) | (simp only [kg32.fa 139 rfl, O28_0, sMn, sMx]; rfl)) (kj_meas (of15 s34 kof1) (of212 c22 z5.2 kof30) hm17)
                          ·
                            have c35 : x3.toInt ≠ ((-1) : Int32).toInt := kd_eqF c; clear c
                            exact (of210 c13 c35 kofm1).elim
                        ·
                          have c36 : l7_28.toInt < ((x2 / 100) - (x2 / 100) / 100 * 100).toInt := kd_leF c; clear c
                          have b37 : ((-2147483648 : Int) ≤ l4_28.toInt) ∧ (l4_28.toInt ≤ 2147483647) := kd_bd l4_28
                          have b38 : ((-2147483648 : Int) ≤ (l4_28 * 1103515245).toInt) ∧ ((l4_28 * 1103515245).toInt ≤ 2147483647) := kd_bd (l4_28 * 1103515245)
                          have s39 : (0 : Int) ≤ ((((l4_28 * 1103515245) + 12345).toUInt32 >>> ((16 : Int32).toUInt32 &&& Int32.toUInt32 31)).toInt32).toInt := kd_ushr 16 (by decide) (by decide) (by decide)
                          have s40 : (((((l4_28 * 1103515245) + 12345).toUInt32 >>> ((16 : Int32).toUInt32 &&& Int32.toUInt32 31)).toInt32) - ((((l4_28 * 1103515245) + 12345).toUInt32 >>> ((16 : Int32).toUInt32 &&& Int32.toUInt32 31)).toInt32) / 12 * 12).toInt = (((((l4_28 * 1103515245) + 12345).toUInt32 >>> ((16 : Int32).toUInt32 &&& Int32.toUInt32 31)).toInt32).toInt % 12) := kd_rem 12 kof12 (by decide) (of3 s39)
                          refine ft_goL mi_k201 14 127 [(4, .int ((l4_28 * 1103515245) + 12345)), (7, .int l7_28), (6, .int l6_17), (5, .int l5_17), (0, .ref 116), (1, .int x1), (2, .int x2), (3, .int x3)] [.int (x2 - x2 / 100 * 100), .int (((((l4_28 * 1103515245) + 12345).toUInt32 >>> ((16 : Int32).toUInt32 &&& Int32.toUInt32 31)).toInt32) - ((((l4_28 * 1103515245) + 12345).toUInt32 >>> ((16 : Int32).toUInt32 &&& Int32.toUInt32 31)).toInt32) / 12 * 12)] (by rfl) ?_
                          refine ft_ifS mi_k201 (decide ((x2 - x2 / 100 * 100) ≤ (((((l4_28 * 1103515245) + 12345).toUInt32 >>> ((16 : Int32).toUInt32 &&& Int32.toUInt32 31)).toInt32) - ((((l4_28 * 1103515245) + 12345).toUInt32 >>> ((16 : Int32).toUInt32 &&& Int32.toUInt32 31)).toInt32) / 12 * 12))) 134 130 [] (by rfl) (fun c => ?_) (fun c => ?_)
                          ·
                            have c41 : (x2 - x2 / 100 * 100).toInt ≤ (((((l4_28 * 1103515245) + 12345).toUInt32 >>> ((16 : Int32).toUInt32 &&& Int32.toUInt32 31)).toInt32) - ((((l4_28 * 1103515245) + 12345).toUInt32 >>> ((16 : Int32).toUInt32 &&& Int32.toUInt32 31)).toInt32) / 12 * 12).toInt := kd_le c; clear c
                            have s42 : (0 : Int) ≤ ((((l4_28 * 1103515245) + 12345).toUInt32 >>> ((8 : Int32).toUInt32 &&& Int32.toUInt32 31)).toInt32).toInt := kd_ushr 8 (by decide) (by decide) (by decide)
                            have fi28_7424 : ((0 : Int) ≤ (i28 7424).toInt) ∧ ((i28 7424).toInt ≤ 8) := hL28.I.1 7424
                            have efi28_7424 : (i28 7424).toInt = (i17 7424).toInt := hL28.ti 7424 rfl
                            refine ft_goS mi_k201 6 144 [.int (i28 7424), .int ((((l4_28 * 1103515245) + 12345).toUInt32 >>> ((8 : Int32).toUInt32 &&& Int32.toUInt32 31)).toInt32), .ref 116] (by rfl) ?_
                            have s43 : ((0 : Int) ≤ (((((l4_28 * 1103515245) + 12345).toUInt32 >>> ((8 : Int32).toUInt32 &&& Int32.toUInt32 31)).toInt32) - ((((l4_28 * 1103515245) + 12345).toUInt32 >>> ((8 : Int32).toUInt32 &&& Int32.toUInt32 31)).toInt32) / (i28 7424) * (i28 7424)).toInt) ∧ ((((((l4_28 * 1103515245) + 12345).toUInt32 >>> ((8 : Int32).toUInt32 &&& Int32.toUInt32 31)).toInt32) - ((((l4_28 * 1103515245) + 12345).toUInt32 >>> ((8 : Int32).toUInt32 &&& Int32.toUInt32 31)).toInt32) / (i28 7424) * (i28 7424)).toInt < (i28 7424).toInt) := kd_remv (of214 c27 efi28_7424 kof0) (of3 s42)
                            refine ko_irem mi_k201.1 (ax := (0, 0, 0, 0, 0)) (mi_k201.2 _ _ (by rfl)) (of213 c27 efi28_7424 kof0) ?_
                            have hG44 := kG_call hL17 hL28 (by decide +kernel)
                            have hG45 := kG_call hGg14 hG44 (by decide +kernel)
                            refine ko_callI mi_k201.1 (pc := 145) (ls := [(4, .int ((l4_28 * 1103515245) + 12345)), (7, .int l7_28), (6, .int l6_17), (5, .int l5_17), (0, .ref 116), (1, .int x1), (2, .int x2), (3, .int x3)]) (st := [.int (((((l4_28 * 1103515245) + 12345).toUInt32 >>> ((8 : Int32).toUInt32 &&& Int32.toUInt32 31)).toInt32) - ((((l4_28 * 1103515245) + 12345).toUInt32 >>> ((8 : Int32).toUInt32 &&& Int32.toUInt32 31)).toInt32) / (i28 7424) * (i28 7424)), .ref 116]) (h := ks i28 a28 q28 r28) (i := (.invokevirtual 260, 3, 166, 0, 9, 0, 415)) (mi_k201.2 _ _ (by rfl)) (ft_invS mi_pq166 (by rfl)) (cy := mi_c166) mi_pq166 rfl (kc166_116 hL28.I hL28.R (((((l4_28 * 1103515245) + 12345).toUInt32 >>> ((8 : Int32).toUInt32 &&& Int32.toUInt32 31)).toInt32) - ((((l4_28 * 1103515245) + 12345).toUInt32 >>> ((8 : Int32).toUInt32 &&& Int32.toUInt32 31)).toInt32) / (i28 7424) * (i28 7424)) (of118 fi28_7424.2 s43.1 s43.2) (kCode_of (i1 := i28) hE_code (hG45.fi 7432 rfl) (hG45.fa 120 rfl) (hG45.fa 121 rfl) (hG45.fa 122 rfl) (hG45.fa 123 rfl))) (by decide) ?_
                            intro vg46 ig46 ag46 qg46 rg46 kg46 hg46
                            have hGg46 := kG_call hL28 kg46 (by decide +kernel)
                            rcases hg46 with ⟨eg46, hg46⟩ | ⟨eg46, hg46⟩
                            ·
                              subst eg46
                              have s47 : (l7_28 + 1).toInt = l7_28.toInt + (1 : Int32).toInt := kd_add (of9 p28_0 kof1) (of215 c36 s7 kof1)
                              first | refine fo_goL mi_k201 fz201_85_3_91 [(7, .int (l7_28 + 1)), (4, .int ((l4_28 * 1103515245) + 12345)), (6, .int l6_17), (5, .int l5_17), (0, .ref 116), (1, .int x1), (2, .int x2), (3, .int x3)] [] (by rfl) ?_ | refine fo_goL mi_k201 fz201_148_3_91 [(7, .int (l7_28 + 1)), (4, .int ((l4_28 * 1103515245) + 12345)), (6, .int l6_17), (5, .int l5_17), (0, .ref 116), (1, .int x1), (2, .int x2), (3, .int x3)] [] (by rfl) ?_
                              refine ko_perm [(7, .int (l7_28 + 1)), (6, .int l6_17), (5, .int l5_17), (4, .int ((l4_28 * 1103515245) + 12345)), (0, .ref 116), (1, .int x1), (2, .int x2), (3, .int x3)] (List.forall_mem_cons.mpr ⟨(List.Mem.head _), (List.forall_mem_cons.mpr ⟨(List.Mem.tail _ (List.Mem.tail _ (List.Mem.head _))), (List.forall_mem_cons.mpr ⟨(List.Mem.tail _ (List.Mem.tail _ (List.Mem.tail _ (List.Mem.head _)))), (List.forall_mem_cons.mpr ⟨(List.Mem.tail _ (List.Mem.head _)), (List.forall_mem_cons.mpr ⟨(List.Mem.tail _ (List.Mem.tail _ (List.Mem.tail _ (List.Mem.tail _ (List.Mem.head _))))), (List.forall_mem_cons.mpr ⟨(List.Mem.tail _ (List.Mem.tail _ (List.Mem.tail _ (List.Mem.tail _ (List.Mem.tail _ (List.Mem.head _)))))), (List.forall_mem_cons.mpr ⟨(List.Mem.tail _ (List.Mem.tail _ (List.Mem.tail _ (List.Mem.tail _ (List.Mem.tail _ (List.Mem.tail _ (List.Mem.head _))))))), (List.forall_mem_cons.mpr ⟨(List.Mem.tail _ (List.Mem.tail _ (List.Mem.tail _ (List.Mem.tail _ (List.Mem.tail _ (List.Mem.tail _ (List.Mem.tail _ (List.Mem.head _)))))))), (fun _ h => absurd h List.not_mem_nil)⟩)⟩)⟩)⟩)⟩)⟩)⟩)⟩) ?_
                              exact ih28 _ _ _ _ _ _ hGg46 (of11 p28_0 s47 kof1) (by first | rfl | (simp only [kg46.fa 139 rfl, O28_0, sMn, sMx]; done) | (simp only [kg46.fa 139 rfl, O28_0, sMn, sMx]; rfl)) (kj_meas (of216 s47 kof1) (of217 c36 s7) hm28)
                            ·
                              subst eg46
                              have s48 : (l7_28 + 1).toInt = l7_28.toInt + (1 : Int32).toInt := kd_add (of9 p28_0 kof1) (of215 c36 s7 kof1)
                              first | refine fo_goL mi_k201 fz201_85_3_91 [(7, .int (l7_28 + 1)), (4, .int ((l4_28 * 1103515245) + 12345)), (6, .int l6_17), (5, .int l5_17), (0, .ref 116), (1, .int x1), (2, .int x2), (3, .int x3)] [] (by rfl) ?_ | refine fo_goL mi_k201 fz201_148_3_91 [(7, .int (l7_28 + 1)), (4, .int ((l4_28 * 1103515245) + 12345)), (6, .int l6_17), (5, .int l5_17), (0, .ref 116), (1, .int x1), (2, .int x2), (3, .int x3)] [] (by rfl) ?_
                              refine ko_perm [(7, .int (l7_28 + 1)), (6, .int l6_17), (5, .int l5_17), (4, .int ((l4_28 * 1103515245) + 12345)), (0, .ref 116), (1, .int x1), (2, .int x2), (3, .int x3)] (List.forall_mem_cons.mpr ⟨(List.Mem.head _), (List.forall_mem_cons.mpr ⟨(List.Mem.tail _ (List.Mem.tail _ (List.Mem.head _))), (List.forall_mem_cons.mpr ⟨(List.Mem.tail _ (List.Mem.tail _ (List.Mem.tail _ (List.Mem.head _)))), (List.forall_mem_cons.mpr ⟨(List.Mem.tail _ (List.Mem.head _)), (List.forall_mem_cons.mpr ⟨(List.Mem.tail _ (List.Mem.tail _ (List.Mem.tail _ (List.Mem.tail _ (List.Mem.head _))))), (List.forall_mem_cons.mpr ⟨(List.Mem.tail _ (List.Mem.tail _ (List.Mem.tail _ (List.Mem.tail _ (List.Mem.tail _ (List.Mem.head _)))))), (List.forall_mem_cons.mpr ⟨(List.Mem.tail _ (List.Mem.tail _ (List.Mem.tail _ (List.Mem.tail _ (List.Mem.tail _ (List.Mem.tail _ (List.Mem.head _))))))), (List.forall_mem_cons.mpr ⟨(List.Mem.tail _ (List.Mem.tail _ (List.Mem.tail _ (List.Mem.tail _ (List.Mem.tail _ (List.Mem.tail _ (List.Mem.tail _ (List.Mem.head _)))))))), (fun _ h => absurd h List.not_mem_nil)⟩)⟩)⟩)⟩)⟩)⟩)⟩)⟩) ?_
                              exact ih28 _ _ _ _ _ _ hGg46 (of11 p28_0 s48 kof1) (by first | rfl | (simp only [kg46.fa 139 rfl, O28_0, sMn, sMx]; done) | (simp only [kg46.fa 139 rfl, O28_0, sMn, sMx]; rfl)) (kj_meas (of216 s48 kof1) (of217 c36 s7) hm28)
                          ·
                            have c49 : (((((l4_28 * 1103515245) + 12345).toUInt32 >>> ((16 : Int32).toUInt32 &&& Int32.toUInt32 31)).toInt32) - ((((l4_28 * 1103515245) + 12345).toUInt32 >>> ((16 : Int32).toUInt32 &&& Int32.toUInt32 31)).toInt32) / 12 * 12).toInt < (x2 - x2 / 100 * 100).toInt := kd_leF c; clear c
                            refine ft_goS mi_k201 1 131 [.ref 116] (by rfl) ?_
                            refine ko_callN mi_k201.1 (pc := 131) (ls := [(4, .int ((l4_28 * 1103515245) + 12345)), (7, .int l7_28), (6, .int l6_17), (5, .int l5_17), (0, .ref 116), (1, .int x1), (2, .int x2), (3, .int x3)]) (st := [.ref 116]) (h := ks i28 a28 q28 r28) (i := (.invokevirtual 282, 3, 167, 0, 9, 0, 426)) (mi_k201.2 _ _ (by rfl)) (ft_invS mi_pq167 (by rfl)) (cy := mi_c167) mi_pq167 rfl (kc167_116 hL28.I hL28.R ) (by decide) ?_
                            intro ig50 ag50 qg50 rg50 kg50 hg50
                            have hGg50 := kG_call hL28 kg50 (by decide +kernel)
                            have s51 : (0 : Int) ≤ ((((l4_28 * 1103515245) + 12345).toUInt32 >>> ((8 : Int32).toUInt32 &&& Int32.toUInt32 31)).toInt32).toInt := kd_ushr 8 (by decide) (by decide) (by decide)
                            have fig50_7424 : ((0 : Int) ≤ (ig50 7424).toInt) ∧ ((ig50 7424).toInt ≤ 8) := hGg50.I.1 7424
                            have efi28_7424 : (i28 7424).toInt = (i17 7424).toInt := hL28.ti 7424 rfl
                            have efig50_7424 : (ig50 7424).toInt = (i28 7424).toInt := kg50.ti 7424 rfl
                            refine ft_goS mi_k201 6 144 [.int (ig50 7424), .int ((((l4_28 * 1103515245) + 12345).toUInt32 >>> ((8 : Int32).toUInt32 &&& Int32.toUInt32 31)).toInt32), .ref 116] (by rfl) ?_
                            have s52 : ((0 : Int) ≤ (((((l4_28 * 1103515245) + 12345).toUInt32 >>> ((8 : Int32).toUInt32 &&& Int32.toUInt32 31)).toInt32) - ((((l4_28 * 1103515245) + 12345).toUInt32 >>> ((8 : Int32).toUInt32 &&& Int32.toUInt32 31)).toInt32) / (ig50 7424) * (ig50 7424)).toInt) ∧ ((((((l4_28 * 1103515245) + 12345).toUInt32 >>> ((8 : Int32).toUInt32 &&& Int32.toUInt32 31)).toInt32) - ((((l4_28 * 1103515245) + 12345).toUInt32 >>> ((8 : Int32).toUInt32 &&& Int32.toUInt32 31)).toInt32) / (ig50 7424) * (ig50 7424)).toInt < (ig50 7424).toInt) := kd_remv (of219 c27 efi28_7424 efig50_7424 kof0) (of3 s51)
                            refine ko_irem mi_k201.1 (ax := (0, 0, 0, 0, 0)) (mi_k201.2 _ _ (by rfl)) (of218 c27 efi28_7424 efig50_7424 kof0) ?_
                            have hG53 := kG_call hL17 hGg50 (by decide +kernel)
                            have hG54 := kG_call hGg14 hG53 (by decide +kernel)
                            refine ko_callI mi_k201.1 (pc := 145) (ls := [(4, .int ((l4_28 * 1103515245) + 12345)), (7, .int l7_28), (6, .int l6_17), (5, .int l5_17), (0, .ref 116), (1, .int x1), (2, .int x2), (3, .int x3)]) (st := [.int (((((l4_28 * 1103515245) + 12345).toUInt32 >>> ((8 : Int32).toUInt32 &&& Int32.toUInt32 31)).toInt32) - ((((l4_28 * 1103515245) + 12345).toUInt32 >>> ((8 : Int32).toUInt32 &&& Int32.toUInt32 31)).toInt32) / (ig50 7424) * (ig50 7424)), .ref 116]) (h := ks ig50 ag50 qg50 rg50) (i := (.invokevirtual 260, 3, 166, 0, 9, 0, 415)) (mi_k201.2 _ _ (by rfl)) (ft_invS mi_pq166 (by rfl)) (cy := mi_c166) mi_pq166 rfl (kc166_116 hGg50.I hGg50.R (((((l4_28 * 1103515245) + 12345).toUInt32 >>> ((8 : Int32).toUInt32 &&& Int32.toUInt32 31)).toInt32) - ((((l4_28 * 1103515245) + 12345).toUInt32 >>> ((8 : Int32).toUInt32 &&& Int32.toUInt32 31)).toInt32) / (ig50 7424) * (ig50 7424)) (of118 fig50_7424.2 s52.1 s52.2) (kCode_of (i1 := ig50) hE_code (hG54.fi 7432 rfl) (hG54.fa 120 rfl) (hG54.fa 121 rfl) (hG54.fa 122 rfl) (hG54.fa 123 rfl))) (by decide) ?_
                            intro vg55 ig55 ag55 qg55 rg55 kg55 hg55
                            have hGg55 := kG_call hGg50 kg55 (by decide +kernel)
                            rcases hg55 with ⟨eg55, hg55⟩ | ⟨eg55, hg55⟩
                            ·
                              subst eg55
                              have s56 : (l7_28 + 1).toInt = l7_28.toInt + (1 : Int32).toInt := kd_add (of9 p28_0 kof1) (of215 c36 s7 kof1)
                              first | refine fo_goL mi_k201 fz201_85_3_91 [(7, .int (l7_28 + 1)), (4, .int ((l4_28 * 1103515245) + 12345)), (6, .int l6_17), (5, .int l5_17), (0, .ref 116), (1, .int x1), (2, .int x2), (3, .int x3)] [] (by rfl) ?_ | refine fo_goL mi_k201 fz201_148_3_91 [(7, .int (l7_28 + 1)), (4, .int ((l4_28 * 1103515245) + 12345)), (6, .int l6_17), (5, .int l5_17), (0, .ref 116), (1, .int x1), (2, .int x2), (3, .int x3)] [] (by rfl) ?_
                              refine ko_perm [(7, .int (l7_28 + 1)), (6, .int l6_17), (5, .int l5_17), (4, .int ((l4_28 * 1103515245) + 12345)), (0, .ref 116), (1, .int x1), (2, .int x2), (3, .int x3)] (List.forall_mem_cons.mpr ⟨(List.Mem.head _), (List.forall_mem_cons.mpr ⟨(List.Mem.tail _ (List.Mem.tail _ (List.Mem.head _))), (List.forall_mem_cons.mpr ⟨(List.Mem.tail _ (List.Mem.tail _ (List.Mem.tail _ (List.Mem.head _)))), (List.forall_mem_cons.mpr ⟨(List.Mem.tail _ (List.Mem.head _)), (List.forall_mem_cons.mpr ⟨(List.Mem.tail _ (List.Mem.tail _ (List.Mem.tail _ (List.Mem.tail _ (List.Mem.head _))))), (List.forall_mem_cons.mpr ⟨(List.Mem.tail _ (List.Mem.tail _ (List.Mem.tail _ (List.Mem.tail _ (List.Mem.tail _ (List.Mem.head _)))))), (List.forall_mem_cons.mpr ⟨(List.Mem.tail _ (List.Mem.tail _ (List.Mem.tail _ (List.Mem.tail _ (List.Mem.tail _ (List.Mem.tail _ (List.Mem.head _))))))), (List.forall_mem_cons.mpr ⟨(List.Mem.tail _ (List.Mem.tail _ (List.Mem.tail _ (List.Mem.tail _ (List.Mem.tail _ (List.Mem.tail _ (List.Mem.tail _ (List.Mem.head _)))))))), (fun _ h => absurd h List.not_mem_nil)⟩)⟩)⟩)⟩)⟩)⟩)⟩)⟩) ?_
                              exact ih28 _ _ _ _ _ _ hGg55 (of11 p28_0 s56 kof1) (by first | rfl | (simp only [kg55.fa 139 rfl, kg50.fa 139 rfl, O28_0, sMn, sMx]; done) | (simp only [kg55.fa 139 rfl, kg50.fa 139 rfl, O28_0, sMn, sMx]; rfl)) (kj_meas (of216 s56 kof1) (of217 c36 s7) hm28)
                            ·
                              subst eg55
                              have s57 : (l7_28 + 1).toInt = l7_28.toInt + (1 : Int32).toInt := kd_add (of9 p28_0 kof1) (of215 c36 s7 kof1)
                              first | refine fo_goL mi_k201 fz201_85_3_91 [(7, .int (l7_28 + 1)), (4, .int ((l4_28 * 1103515245) + 12345)), (6, .int l6_17), (5, .int l5_17), (0, .ref 116), (1, .int x1), (2, .int x2), (3, .int x3)] [] (by rfl) ?_ | refine fo_goL mi_k201 fz201_148_3_91 [(7, .int (l7_28 + 1)), (4, .int ((l4_28 * 1103515245) + 12345)), (6, .int l6_17), (5, .int l5_17), (0, .ref 116), (1, .int x1), (2, .int x2), (3, .int x3)] [] (by rfl) ?_
                              refine ko_perm [(7, .int (l7_28 + 1)), (6, .int l6_17), (5, .int l5_17), (4, .int ((l4_28 * 1103515245) + 12345)), (0, .ref 116), (1, .int x1), (2, .int x2), (3, .int x3)] (List.forall_mem_cons.mpr ⟨(List.Mem.head _), (List.forall_mem_cons.mpr ⟨(List.Mem.tail _ (List.Mem.tail _ (List.Mem.head _))), (List.forall_mem_cons.mpr ⟨(List.Mem.tail _ (List.Mem.tail _ (List.Mem.tail _ (List.Mem.head _)))), (List.forall_mem_cons.mpr ⟨(List.Mem.tail _ (List.Mem.head _)), (List.forall_mem_cons.mpr ⟨(List.Mem.tail _ (List.Mem.tail _ (List.Mem.tail _ (List.Mem.tail _ (List.Mem.head _))))), (List.forall_mem_cons.mpr ⟨(List.Mem.tail _ (List.Mem.tail _ (List.Mem.tail _ (List.Mem.tail _ (List.Mem.tail _ (List.Mem.head _)))))), (List.forall_mem_cons.mpr ⟨(List.Mem.tail _ (List.Mem.tail _ (List.Mem.tail _ (List.Mem.tail _ (List.Mem.tail _ (List.Mem.tail _ (List.Mem.head _))))))), (List.forall_mem_cons.mpr ⟨(List.Mem.tail _ (List.Mem.tail _ (List.Mem.tail _ (List.Mem.tail _ (List.Mem.tail _ (List.Mem.tail _ (List.Mem.tail _ (List.Mem.head _)))))))), (fun _ h => absurd h List.not_mem_nil)⟩)⟩)⟩)⟩)⟩)⟩)⟩)⟩) ?_
                              exact ih28 _ _ _ _ _ _ hGg55 (of11 p28_0 s57 kof1) (by first | rfl | (simp only [kg55.fa 139 rfl, kg50.fa 139 rfl, O28_0, sMn, sMx]; done) | (simp only [kg55.fa 139 rfl, kg50.fa 139 rfl, O28_0, sMn, sMx]; rfl)) (kj_meas (of216 s57 kof1) (of217 c36 s7) hm28)
                    exact lp28 _ _ _ _ _ _ _ (kG_self _ hL17.I hL17.R) (of17 kof0) (by first | rfl | (simp only [O17_1, sMn, sMx]; done) | (simp only [O17_1, sMn, sMx]; rfl)) (Nat.lt_succ_self _)
            exact lp17 _ _ _ _ _ _ _ _ (kG_self _ hGg14.I hGg14.R) (of17 kof0) (by first | rfl | (simp only [q16, sMn, sMx]; done) | (simp only [q16, sMn, sMx]; rfl)) (by first | rfl | (simp only [q15, sMn, sMx]; done) | (simp only [q15, sMn, sMx]; rfl)) (Nat.lt_succ_self _)
          ·
            have c58 : x3.toInt ≠ ((-1) : Int32).toInt := kd_eqF c; clear c
            refine ft_goS mi_k201 2 50 [.int x3, .ref 116] (by rfl) ?_
            refine ko_callPI mi_k201.1 (pc := 50) (ls := [(0, .ref 116), (1, .int x1), (2, .int x2), (3, .int x3)]) (st := [.int x3, .ref 116]) (h := ks i a q r) (i := (.invokevirtual 137, 3, 132, 0, 9, 0, 387)) (mi_k201.2 _ _ (by rfl)) (ft_invS mi_pq132 (by rfl)) (cy := mi_c132) mi_pq132 rfl (kc132_116 hG.I hG.R x3) (by decide) ?_
            intro vg59 hg59
            rcases hg59 with ⟨eg59, hg59⟩ | ⟨eg59, hg59⟩
            ·
              subst eg59
              have fi_7424 : ((0 : Int) ≤ (i 7424).toInt) ∧ ((i 7424).toInt ≤ 8) := hG.I.1 7424
              have z60 : ((0 : Int) ≤ x3.toInt) ∧ (x3.toInt < (i 7424).toInt) := hg59
              first | refine ft_goS mi_k201 2 59 [.ref 116] (by rfl) ?_
              refine ko_callN mi_k201.1 (pc := 59) (ls := [(0, .ref 116), (1, .int x1), (2, .int x2), (3, .int x3)]) (st := [.ref 116]) (h := ks i a q r) (i := (.invokevirtual 267, 3, 171, 0, 9, 0, 412)) (mi_k201.2 _ _ (by rfl)) (ft_invS mi_pq171 (by rfl)) (cy := mi_c171) mi_pq171 rfl (ke171_116 hG.I hG.R ) (by decide) ?_
              intro ig61 ag61 qg61 rg61 kg61 hg61
              have hGg61 := kG_call hG kg61 (by decide +kernel)
              obtain ⟨hg61, og61⟩ := hg61
              have q62 : ag61 139 = a 118 := og61.1
              have q63 : ag61 118 = a 118 := og61.2
              first | refine fo_goL mi_k201 fz201_62_6_71 [(6, .int 0), (5, .int 0), (4, .int x1), (0, .ref 116), (1, .int x1), (2, .int x2), (3, .int x3)] [] (by rfl) ?_ | refine ft_goL mi_k201 6 71 [(6, .int 0), (5, .int 0), (4, .int x1), (0, .ref 116), (1, .int x1), (2, .int x2), (3, .int x3)] [] (by rfl) ?_
              have lp64 : ∀ (nz : Nat) (i64 : Nat → Int32) (a64 : Nat → List Int32) (q64 : Nat → List Int64) (r64 : Nat → Nat) (l6_64 : Int32) (l5_64 : Int32) (l4_64 : Int32), kG yw201_116_L71 ig61 ag61 qg61 rg61 i64 a64 q64 r64 → (0 : Int) ≤ l6_64.toInt → a64 118 = a 118 → a64 139 = a 118 → ((31 - l6_64.toInt)).toNat < nz → ko 11 (mi_h201, mi_c201) P (71, [(6, .int l6_64), (5, .int l5_64), (4, .int l4_64), (0, .ref 116), (1, .int x1), (2, .int x2), (3, .int x3)], [], (0, 0), ks i64 a64 q64 r64) := by
                intro nz
                induction nz with
                | zero =>
                  intro _ _ _ _ _ _ _ _ _ _ _ hm
                  exact absurd hm (Nat.not_lt_zero _)
                | succ nz ih64 =>
                  intro i64 a64 q64 r64 l6_64 l5_64 l4_64 hL64 p64_0 O64_0 O64_1 hm64
                  refine fo_goL mi_k201 fz201_71_4_78 [(6, .int l6_64), (5, .int l5_64), (4, .int l4_64), (0, .ref 116), (1, .int x1), (2, .int x2), (3, .int x3)] [.int (x2 / 10000), .int l6_64] rfl ?_
                  refine ft_ifS mi_k201 (decide ((x2 / 10000) ≤ l6_64)) 186 81 [] (by rfl) (fun c => ?_) (fun c => ?_)
                  ·
                    have c65 : (x2 / 10000).toInt ≤ l6_64.toInt := kd_le c; clear c
                    have hG66 := kG_call hGg61 hL64 (by decide +kernel)
                    refine fo_goS mi_k201 fz201_186_2_188 [.int (-1), .int x3] rfl ?_
                    refine ft_ifS mi_k201 (x3 != (-1)) 198 191 [] (by rfl) (fun c => ?_) (fun c => ?_)
                    ·
                      have c67 : x3.toInt ≠ ((-1) : Int32).toInt := kd_ne c; clear c
                      first | refine ft_goS mi_k201 1 200 [.int l5_64] (by rfl) ?_
                      exact ft_ret mi_k201 (by rfl) (hP l5_64 _ _ _ _ hG66 ⟨trivial, (show a64 118 = a 118 from (by first | rfl | (simp only [O64_0, sMn, sMx]; done) | (simp only [O64_0, sMn, sMx]; rfl)))⟩)
                    ·
                      have c68 : x3.toInt = ((-1) : Int32).toInt := kd_neF c; clear c
                      exact (of98 c68 z60.1 kofm1).elim
                  ·
                    have c69 : l6_64.toInt < (x2 / 10000).toInt := kd_leF c; clear c
                    have efig61_7424 : (ig61 7424).toInt = (i 7424).toInt := kg61.ti 7424 rfl
                    have efi64_7424 : (i64 7424).toInt = (ig61 7424).toInt := hL64.ti 7424 rfl
                    refine ft_goS mi_k201 2 85 [.int (i64 7424)] (by rfl) ?_
                    refine ft_ifS mi_k201 (decide ((i64 7424) ≤ 0)) 186 88 [] (by rfl) (fun c => ?_) (fun c => ?_)
                    ·
                      have c70 : (i64 7424).toInt ≤ (0 : Int32).toInt := kd_le c; clear c
                      exact (of220 c70 efi64_7424 efig61_7424 z60.1 z60.2 kof0).elim
                    ·
                      have c71 : (0 : Int32).toInt < (i64 7424).toInt := kd_leF c; clear c
                      first | refine ft_goL mi_k201 2 91 [(7, .int 0), (6, .int l6_64), (5, .int l5_64), (4, .int l4_64), (0, .ref 116), (1, .int x1), (2, .int x2), (3, .int x3)] [] (by rfl) ?_
                      have lp72 : ∀ (nz : Nat) (i72 : Nat → Int32) (a72 : Nat → List Int32) (q72 : Nat → List Int64) (r72 : Nat → Nat) (l7_72 : Int32) (l4_72 : Int32), kG yw201_116_L91 i64 a64 q64 r64 i72 a72 q72 r72 → (0 : Int) ≤ l7_72.toInt → a72 139 = a 118 → ((100 - l7_72.toInt)).toNat < nz → ko 11 (mi_h201, mi_c201) P (91, [(7, .int l7_72), (6, .int l6_64), (5, .int l5_64), (4, .int l4_72), (0, .ref 116), (1, .int x1), (2, .int x2), (3, .int x3)], [], (0, 0), ks i72 a72 q72 r72) := by
                        intro nz
                        induction nz with
                        | zero =>
                          intro _ _ _ _ _ _ _ _ _ hm
                          exact absurd hm (Nat.not_lt_zero _)
                        | succ nz ih72 =>
                          intro i72 a72 q72 r72 l7_72 l4_72 hL72 p72_0 O72_0 hm72
                          refine fo_goL mi_k201 fz201_91_6_100 [(7, .int l7_72), (6, .int l6_64), (5, .int l5_64), (4, .int l4_72), (0, .ref 116), (1, .int x1), (2, .int x2), (3, .int x3)] [.int ((x2 / 100) - (x2 / 100) / 100 * 100), .int l7_72] rfl ?_
                          refine ft_ifS mi_k201 (decide (((x2 / 100) - (x2 / 100) / 100 * 100) ≤ l7_72)) 155 103 [] (by rfl) (fun c => ?_) (fun c => ?_)
                          ·
                            have c73 : ((x2 / 100) - (x2 / 100) / 100 * 100).toInt ≤ l7_72.toInt := kd_le c; clear c
                            have hG74 := kG_call hL64 hL72 (by decide +kernel)
                            refine ft_goS mi_k201 2 157 [.int (-1), .int x3] (by rfl) ?_
                            refine ft_ifS mi_k201 (x3 == (-1)) 171 160 [] (by rfl) (fun c => ?_) (fun c => ?_)
                            ·
                              have c75 : x3.toInt = ((-1) : Int32).toInt := kd_eq c; clear c
                              exact (of98 c75 z60.1 kofm1).elim
                            ·
                              have c76 : x3.toInt ≠ ((-1) : Int32).toInt := kd_eqF c; clear c
                              refine ft_goS mi_k201 4 167 [.int x3, .ref 118, .int l5_64] (by rfl) ?_
                              refine ko_iald3 mi_k201.1 (n := 31) (c := 31) (ax := (0, 0, 0, 0, 0)) (mi_k201.2 _ _ (by rfl)) (by rfl) (ksG118 _ _ _ _) (hG74.I.2.1 118) rfl (of3 z60.1) (of66 fi_7424.2 z60.2) ?_
                              have r77 : ((x3.toInt = 18 → (0 : Int) ≤ ((a72 118).getD x3.toNatClampNeg 0).toInt ∧ ((a72 118).getD x3.toNatClampNeg 0).toInt ≤ 5)) ∧ ((19 ≤ x3.toInt → x3.toInt ≤ 24 → (0 : Int) ≤ ((a72 118).getD x3.toNatClampNeg 0).toInt ∧ ((a72 118).getD x3.toNatClampNeg 0).toInt ≤ 7)) := kE_ncond (p := 118) hG74.I (by decide) (j := x3) (of3 z60.1)
                              have b78 : ((-2147483648 : Int) ≤ l5_64.toInt) ∧ (l5_64.toInt ≤ 2147483647) := kd_bd l5_64
                              have b79 : ((-2147483648 : Int) ≤ ((a72 118).getD x3.toNatClampNeg 0).toInt) ∧ (((a72 118).getD x3.toNatClampNeg 0).toInt ≤ 2147483647) := kd_bd ((a72 118).getD x3.toNatClampNeg 0)
                              first | refine fo_goL mi_k201 fz201_168_6_177 [(5, .int (l5_64 + ((a72 118).getD x3.toNatClampNeg 0))), (7, .int l7_72), (6, .int l6_64), (4, .int l4_72), (0, .ref 116), (1, .int x1), (2, .int x2), (3, .int x3)] [.int 0, .ref 139, .ref 116] (by rfl) ?_ | refine ft_goS mi_k201 6 177 [.int 0, .ref 139, .ref 116] (by rfl) ?_
                              refine ko_callN mi_k201.1 (pc := 177) (ls := [(5, .int (l5_64 + ((a72 118).getD x3.toNatClampNeg 0))), (7, .int l7_72), (6, .int l6_64), (4, .int l4_72), (0, .ref 116), (1, .int x1), (2, .int x2), (3, .int x3)]) (st := [.int 0, .ref 139, .ref 116]) (h := ks i72 a72 q72 r72) (i := (.invokevirtual 273, 3, 169, 0, 9, 0, 423)) (mi_k201.2 _ _ (by rfl)) (ft_invS mi_pq169 (by rfl)) (cy := mi_c169) mi_pq169 rfl (ke169_116_139 hG74.I hG74.R 0 (of20 kof0)) (by decide) ?_
                              intro ig80 ag80 qg80 rg80 kg80 hg80
                              have hGg80 := kG_call hG74 kg80 (by decide +kernel)
                              obtain ⟨hg80, og80⟩ := hg80
                              have q81 : ag80 118 = a72 139 := og80
                              have s82 : (l6_64 + 1).toInt = l6_64.toInt + (1 : Int32).toInt := kd_add (of9 p64_0 kof1) (of211 c69 z5.2 kof30 kof1)
                              first | refine ft_goL mi_k201 2 71 [(6, .int (l6_64 + 1)), (5, .int (l5_64 + ((a72 118).getD x3.toNatClampNeg 0))), (7, .int l7_72), (4, .int l4_72), (0, .ref 116), (1, .int x1), (2, .int x2), (3, .int x3)] [] (by rfl) ?_
                              refine ko_perm [(6, .int (l6_64 + 1)), (5, .int (l5_64 + ((a72 118).getD x3.toNatClampNeg 0))), (4, .int l4_72), (0, .ref 116), (1, .int x1), (2, .int x2), (3, .int x3)] (List.forall_mem_cons.mpr ⟨(List.Mem.head _), (List.forall_mem_cons.mpr ⟨(List.Mem.tail _ (List.Mem.head _)), (List.forall_mem_cons.mpr ⟨(List.Mem.tail _ (List.Mem.tail _ (List.Mem.tail _ (List.Mem.head _)))), (List.forall_mem_cons.mpr ⟨(List.Mem.tail _ (List.Mem.tail _ (List.Mem.tail _ (List.Mem.tail _ (List.Mem.head _))))), (List.forall_mem_cons.mpr ⟨(List.Mem.tail _ (List.Mem.tail _ (List.Mem.tail _ (List.Mem.tail _ (List.Mem.tail _ (List.Mem.head _)))))), (List.forall_mem_cons.mpr ⟨(List.Mem.tail _ (List.Mem.tail _ (List.Mem.tail _ (List.Mem.tail _ (List.Mem.tail _ (List.Mem.tail _ (List.Mem.head _))))))), (List.forall_mem_cons.mpr ⟨(List.Mem.tail _ (List.Mem.tail _ (List.Mem.tail _ (List.Mem.tail _ (List.Mem.tail _ (List.Mem.tail _ (List.Mem.tail _ (List.Mem.head _)))))))), (fun _ h => absurd h List.not_mem_nil)⟩)⟩)⟩)⟩)⟩)⟩)⟩) ?_
                              exact ih64 _ _ _ _ _ _ _ hGg80 (of11 p64_0 s82 kof1) (by first | rfl | (simp only [q81, O72_0, sMn, sMx]; done) | (simp only [q81, O72_0, sMn, sMx]; rfl)) (by first | rfl | (simp only [kg80.fa 139 rfl, O72_0, sMn, sMx]; done) | (simp only [kg80.fa 139 rfl, O72_0, sMn, sMx]; rfl)) (kj_meas (of15 s82 kof1) (of212 c69 z5.2 kof30) hm64)
                          ·
                            have c83 : l7_72.toInt < ((x2 / 100) - (x2 / 100) / 100 * 100).toInt := kd_leF c; clear c
                            have b84 : ((-2147483648 : Int) ≤ l4_72.toInt) ∧ (l4_72.toInt ≤ 2147483647) := kd_bd l4_72
                            have b85 : ((-2147483648 : Int) ≤ (l4_72 * 1103515245).toInt) ∧ ((l4_72 * 1103515245).toInt ≤ 2147483647) := kd_bd (l4_72 * 1103515245)
                            have s86 : (0 : Int) ≤ ((((l4_72 * 1103515245) + 12345).toUInt32 >>> ((16 : Int32).toUInt32 &&& Int32.toUInt32 31)).toInt32).toInt := kd_ushr 16 (by decide) (by decide) (by decide)
                            have s87 : (((((l4_72 * 1103515245) + 12345).toUInt32 >>> ((16 : Int32).toUInt32 &&& Int32.toUInt32 31)).toInt32) - ((((l4_72 * 1103515245) + 12345).toUInt32 >>> ((16 : Int32).toUInt32 &&& Int32.toUInt32 31)).toInt32) / 12 * 12).toInt = (((((l4_72 * 1103515245) + 12345).toUInt32 >>> ((16 : Int32).toUInt32 &&& Int32.toUInt32 31)).toInt32).toInt % 12) := kd_rem 12 kof12 (by decide) (of3 s86)
                            refine ft_goL mi_k201 14 127 [(4, .int ((l4_72 * 1103515245) + 12345)), (7, .int l7_72), (6, .int l6_64), (5, .int l5_64), (0, .ref 116), (1, .int x1), (2, .int x2), (3, .int x3)] [.int (x2 - x2 / 100 * 100), .int (((((l4_72 * 1103515245) + 12345).toUInt32 >>> ((16 : Int32).toUInt32 &&& Int32.toUInt32 31)).toInt32) - ((((l4_72 * 1103515245) + 12345).toUInt32 >>> ((16 : Int32).toUInt32 &&& Int32.toUInt32 31)).toInt32) / 12 * 12)] (by rfl) ?_
                            refine ft_ifS mi_k201 (decide ((x2 - x2 / 100 * 100) ≤ (((((l4_72 * 1103515245) + 12345).toUInt32 >>> ((16 : Int32).toUInt32 &&& Int32.toUInt32 31)).toInt32) - ((((l4_72 * 1103515245) + 12345).toUInt32 >>> ((16 : Int32).toUInt32 &&& Int32.toUInt32 31)).toInt32) / 12 * 12))) 134 130 [] (by rfl) (fun c => ?_) (fun c => ?_)
                            ·
                              have c88 : (x2 - x2 / 100 * 100).toInt ≤ (((((l4_72 * 1103515245) + 12345).toUInt32 >>> ((16 : Int32).toUInt32 &&& Int32.toUInt32 31)).toInt32) - ((((l4_72 * 1103515245) + 12345).toUInt32 >>> ((16 : Int32).toUInt32 &&& Int32.toUInt32 31)).toInt32) / 12 * 12).toInt := kd_le c; clear c
                              have s89 : (0 : Int) ≤ ((((l4_72 * 1103515245) + 12345).toUInt32 >>> ((8 : Int32).toUInt32 &&& Int32.toUInt32 31)).toInt32).toInt := kd_ushr 8 (by decide) (by decide) (by decide)
                              have fi72_7424 : ((0 : Int) ≤ (i72 7424).toInt) ∧ ((i72 7424).toInt ≤ 8) := hL72.I.1 7424
                              have efi72_7424 : (i72 7424).toInt = (i64 7424).toInt := hL72.ti 7424 rfl
                              refine ft_goS mi_k201 6 144 [.int (i72 7424), .int ((((l4_72 * 1103515245) + 12345).toUInt32 >>> ((8 : Int32).toUInt32 &&& Int32.toUInt32 31)).toInt32), .ref 116] (by rfl) ?_
                              have s90 : ((0 : Int) ≤ (((((l4_72 * 1103515245) + 12345).toUInt32 >>> ((8 : Int32).toUInt32 &&& Int32.toUInt32 31)).toInt32) - ((((l4_72 * 1103515245) + 12345).toUInt32 >>> ((8 : Int32).toUInt32 &&& Int32.toUInt32 31)).toInt32) / (i72 7424) * (i72 7424)).toInt) ∧ ((((((l4_72 * 1103515245) + 12345).toUInt32 >>> ((8 : Int32).toUInt32 &&& Int32.toUInt32 31)).toInt32) - ((((l4_72 * 1103515245) + 12345).toUInt32 >>> ((8 : Int32).toUInt32 &&& Int32.toUInt32 31)).toInt32) / (i72 7424) * (i72 7424)).toInt < (i72 7424).toInt) := kd_remv (of214 c71 efi72_7424 kof0) (of3 s89)
                              refine ko_irem mi_k201.1 (ax := (0, 0, 0, 0, 0)) (mi_k201.2 _ _ (by rfl)) (of213 c71 efi72_7424 kof0) ?_
                              have hG91 := kG_call hL64 hL72 (by decide +kernel)
                              have hG92 := kG_call hGg61 hG91 (by decide +kernel)
                              refine ko_callI mi_k201.1 (pc := 145) (ls := [(4, .int ((l4_72 * 1103515245) + 12345)), (7, .int l7_72), (6, .int l6_64), (5, .int l5_64), (0, .ref 116), (1, .int x1), (2, .int x2), (3, .int x3)]) (st := [.int (((((l4_72 * 1103515245) + 12345).toUInt32 >>> ((8 : Int32).toUInt32 &&& Int32.toUInt32 31)).toInt32) - ((((l4_72 * 1103515245) + 12345).toUInt32 >>> ((8 : Int32).toUInt32 &&& Int32.toUInt32 31)).toInt32) / (i72 7424) * (i72 7424)), .ref 116]) (h := ks i72 a72 q72 r72) (i := (.invokevirtual 260, 3, 166, 0, 9, 0, 415)) (mi_k201.2 _ _ (by rfl)) (ft_invS mi_pq166 (by rfl)) (cy := mi_c166) mi_pq166 rfl (kc166_116 hL72.I hL72.R (((((l4_72 * 1103515245) + 12345).toUInt32 >>> ((8 : Int32).toUInt32 &&& Int32.toUInt32 31)).toInt32) - ((((l4_72 * 1103515245) + 12345).toUInt32 >>> ((8 : Int32).toUInt32 &&& Int32.toUInt32 31)).toInt32) / (i72 7424) * (i72 7424)) (of118 fi72_7424.2 s90.1 s90.2) (kCode_of (i1 := i72) hE_code (hG92.fi 7432 rfl) (hG92.fa 120 rfl) (hG92.fa 121 rfl) (hG92.fa 122 rfl) (hG92.fa 123 rfl))) (by decide) ?_
                              intro vg93 ig93 ag93 qg93 rg93 kg93 hg93
                              have hGg93 := kG_call hL72 kg93 (by decide +kernel)
                              rcases hg93 with ⟨eg93, hg93⟩ | ⟨eg93, hg93⟩
                              ·
                                subst eg93
                                have s94 : (l7_72 + 1).toInt = l7_72.toInt + (1 : Int32).toInt := kd_add (of9 p72_0 kof1) (of215 c83 s7 kof1)
                                first | refine fo_goL mi_k201 fz201_85_3_91 [(7, .int (l7_72 + 1)), (4, .int ((l4_72 * 1103515245) + 12345)), (6, .int l6_64), (5, .int l5_64), (0, .ref 116), (1, .int x1), (2, .int x2), (3, .int x3)] [] (by rfl) ?_ | refine fo_goL mi_k201 fz201_148_3_91 [(7, .int (l7_72 + 1)), (4, .int ((l4_72 * 1103515245) + 12345)), (6, .int l6_64), (5, .int l5_64), (0, .ref 116), (1, .int x1), (2, .int x2), (3, .int x3)] [] (by rfl) ?_
                                refine ko_perm [(7, .int (l7_72 + 1)), (6, .int l6_64), (5, .int l5_64), (4, .int ((l4_72 * 1103515245) + 12345)), (0, .ref 116), (1, .int x1), (2, .int x2), (3, .int x3)] (List.forall_mem_cons.mpr ⟨(List.Mem.head _), (List.forall_mem_cons.mpr ⟨(List.Mem.tail _ (List.Mem.tail _ (List.Mem.head _))), (List.forall_mem_cons.mpr ⟨(List.Mem.tail _ (List.Mem.tail _ (List.Mem.tail _ (List.Mem.head _)))), (List.forall_mem_cons.mpr ⟨(List.Mem.tail _ (List.Mem.head _)), (List.forall_mem_cons.mpr ⟨(List.Mem.tail _ (List.Mem.tail _ (List.Mem.tail _ (List.Mem.tail _ (List.Mem.head _))))), (List.forall_mem_cons.mpr ⟨(List.Mem.tail _ (List.Mem.tail _ (List.Mem.tail _ (List.Mem.tail _ (List.Mem.tail _ (List.Mem.head _)))))), (List.forall_mem_cons.mpr ⟨(List.Mem.tail _ (List.Mem.tail _ (List.Mem.tail _ (List.Mem.tail _ (List.Mem.tail _ (List.Mem.tail _ (List.Mem.head _))))))), (List.forall_mem_cons.mpr ⟨(List.Mem.tail _ (List.Mem.tail _ (List.Mem.tail _ (List.Mem.tail _ (List.Mem.tail _ (List.Mem.tail _ (List.Mem.tail _ (List.Mem.head _)))))))), (fun _ h => absurd h List.not_mem_nil)⟩)⟩)⟩)⟩)⟩)⟩)⟩)⟩) ?_
                                exact ih72 _ _ _ _ _ _ hGg93 (of11 p72_0 s94 kof1) (by first | rfl | (simp only [kg93.fa 139 rfl, O72_0, sMn, sMx]; done) | (simp only [kg93.fa 139 rfl, O72_0, sMn, sMx]; rfl)) (kj_meas (of216 s94 kof1) (of217 c83 s7) hm72)
                              ·
                                subst eg93
                                have s95 : (l7_72 + 1).toInt = l7_72.toInt + (1 : Int32).toInt := kd_add (of9 p72_0 kof1) (of215 c83 s7 kof1)
                                first | refine fo_goL mi_k201 fz201_85_3_91 [(7, .int (l7_72 + 1)), (4, .int ((l4_72 * 1103515245) + 12345)), (6, .int l6_64), (5, .int l5_64), (0, .ref 116), (1, .int x1), (2, .int x2), (3, .int x3)] [] (by rfl) ?_ | refine fo_goL mi_k201 fz201_148_3_91 [(7, .int (l7_72 + 1)), (4, .int ((l4_72 * 1103515245) + 12345)), (6, .int l6_64), (5, .int l5_64), (0, .ref 116), (1, .int x1), (2, .int x2), (3, .int x3)] [] (by rfl) ?_
                                refine ko_perm [(7, .int (l7_72 + 1)), (6, .int l6_64), (5, .int l5_64), (4, .int ((l4_72 * 1103515245) + 12345)), (0, .ref 116), (1, .int x1), (2, .int x2), (3, .int x3)] (List.forall_mem_cons.mpr ⟨(List.Mem.head _), (List.forall_mem_cons.mpr ⟨(List.Mem.tail _ (List.Mem.tail _ (List.Mem.head _))), (List.forall_mem_cons.mpr ⟨(List.Mem.tail _ (List.Mem.tail _ (List.Mem.tail _ (List.Mem.head _)))), (List.forall_mem_cons.mpr ⟨(List.Mem.tail _ (List.Mem.head _)), (List.forall_mem_cons.mpr ⟨(List.Mem.tail _ (List.Mem.tail _ (List.Mem.tail _ (List.Mem.tail _ (List.Mem.head _))))), (List.forall_mem_cons.mpr ⟨(List.Mem.tail _ (List.Mem.tail _ (List.Mem.tail _ (List.Mem.tail _ (List.Mem.tail _ (List.Mem.head _)))))), (List.forall_mem_cons.mpr ⟨(List.Mem.tail _ (List.Mem.tail _ (List.Mem.tail _ (List.Mem.tail _ (List.Mem.tail _ (List.Mem.tail _ (List.Mem.head _))))))), (List.forall_mem_cons.mpr ⟨(List.Mem.tail _ (List.Mem.tail _ (List.Mem.tail _ (List.Mem.tail _ (List.Mem.tail _ (List.Mem.tail _ (List.Mem.tail _ (List.Mem.head _)))))))), (fun _ h => absurd h List.not_mem_nil)⟩)⟩)⟩)⟩)⟩)⟩)⟩)⟩) ?_
                                exact ih72 _ _ _ _ _ _ hGg93 (of11 p72_0 s95 kof1) (by first | rfl | (simp only [kg93.fa 139 rfl, O72_0, sMn, sMx]; done) | (simp only [kg93.fa 139 rfl, O72_0, sMn, sMx]; rfl)) (kj_meas (of216 s95 kof1) (of217 c83 s7) hm72)
                            ·
                              have c96 : (((((l4_72 * 1103515245) + 12345).toUInt32 >>> ((16 : Int32).toUInt32 &&& Int32.toUInt32 31)).toInt32) - ((((l4_72 * 1103515245) + 12345).toUInt32 >>> ((16 : Int32).toUInt32 &&& Int32.toUInt32 31)).toInt32) / 12 * 12).toInt < (x2 - x2 / 100 * 100).toInt := kd_leF c; clear c
                              refine ft_goS mi_k201 1 131 [.ref 116] (by rfl) ?_
                              refine ko_callN mi_k201.1 (pc := 131) (ls := [(4, .int ((l4_72 * 1103515245) + 12345)), (7, .int l7_72), (6, .int l6_64), (5, .int l5_64), (0, .ref 116), (1, .int x1), (2, .int x2), (3, .int x3)]) (st := [.ref 116]) (h := ks i72 a72 q72 r72) (i := (.invokevirtual 282, 3, 167, 0, 9, 0, 426)) (mi_k201.2 _ _ (by rfl)) (ft_invS mi_pq167 (by rfl)) (cy := mi_c167) mi_pq167 rfl (kc167_116 hL72.I hL72.R ) (by decide) ?_
                              intro ig97 ag97 qg97 rg97 kg97 hg97
                              have hGg97 := kG_call hL72 kg97 (by decide +kernel)
                              have s98 : (0 : Int) ≤ ((((l4_72 * 1103515245) + 12345).toUInt32 >>> ((8 : Int32).toUInt32 &&& Int32.toUInt32 31)).toInt32).toInt := kd_ushr 8 (by decide) (by decide) (by decide)
                              have fig97_7424 : ((0 : Int) ≤ (ig97 7424).toInt) ∧ ((ig97 7424).toInt ≤ 8) := hGg97.I.1 7424
                              have efi72_7424 : (i72 7424).toInt = (i64 7424).toInt := hL72.ti 7424 rfl
                              have efig97_7424 : (ig97 7424).toInt = (i72 7424).toInt := kg97.ti 7424 rfl
                              refine ft_goS mi_k201 6 144 [.int (ig97 7424), .int ((((l4_72 * 1103515245) + 12345).toUInt32 >>> ((8 : Int32).toUInt32 &&& Int32.toUInt32 31)).toInt32), .ref 116] (by rfl) ?_
                              have s99 : ((0 : Int) ≤ (((((l4_72 * 1103515245) + 12345).toUInt32 >>> ((8 : Int32).toUInt32 &&& Int32.toUInt32 31)).toInt32) - ((((l4_72 * 1103515245) + 12345).toUInt32 >>> ((8 : Int32).toUInt32 &&& Int32.toUInt32 31)).toInt32) / (ig97 7424) * (ig97 7424)).toInt) ∧ ((((((l4_72 * 1103515245) + 12345).toUInt32 >>> ((8 : Int32).toUInt32 &&& Int32.toUInt32 31)).toInt32) - ((((l4_72 * 1103515245) + 12345).toUInt32 >>> ((8 : Int32).toUInt32 &&& Int32.toUInt32 31)).toInt32) / (ig97 7424) * (ig97 7424)).toInt < (ig97 7424).toInt) := kd_remv (of219 c71 efi72_7424 efig97_7424 kof0) (of3 s98)
                              refine ko_irem mi_k201.1 (ax := (0, 0, 0, 0, 0)) (mi_k201.2 _ _ (by rfl)) (of218 c71 efi72_7424 efig97_7424 kof0) ?_
                              have hG100 := kG_call hL64 hGg97 (by decide +kernel)
                              have hG101 := kG_call hGg61 hG100 (by decide +kernel)
                              refine ko_callI mi_k201.1 (pc := 145) (ls := [(4, .int ((l4_72 * 1103515245) + 12345)), (7, .int l7_72), (6, .int l6_64), (5, .int l5_64), (0, .ref 116), (1, .int x1), (2, .int x2), (3, .int x3)]) (st := [.int (((((l4_72 * 1103515245) + 12345).toUInt32 >>> ((8 : Int32).toUInt32 &&& Int32.toUInt32 31)).toInt32) - ((((l4_72 * 1103515245) + 12345).toUInt32 >>> ((8 : Int32).toUInt32 &&& Int32.toUInt32 31)).toInt32) / (ig97 7424) * (ig97 7424)), .ref 116]) (h := ks ig97 ag97 qg97 rg97) (i := (.invokevirtual 260, 3, 166, 0, 9, 0, 415)) (mi_k201.2 _ _ (by rfl)) (ft_invS mi_pq166 (by rfl)) (cy := mi_c166) mi_pq166 rfl (kc166_116 hGg97.I hGg97.R (((((l4_72 * 1103515245) + 12345).toUInt32 >>> ((8 : Int32).toUInt32 &&& Int32.toUInt32 31)).toInt32) - ((((l4_72 * 1103515245) + 12345).toUInt32 >>> ((8 : Int32).toUInt32 &&& Int32.toUInt32 31)).toInt32) / (ig97 7424) * (ig97 7424)) (of118 fig97_7424.2 s99.1 s99.2) (kCode_of (i1 := ig97) hE_code (hG101.fi 7432 rfl) (hG101.fa 120 rfl) (hG101.fa 121 rfl) (hG101.fa 122 rfl) (hG101.fa 123 rfl))) (by decide) ?_
                              intro vg102 ig102 ag102 qg102 rg102 kg102 hg102
                              have hGg102 := kG_call hGg97 kg102 (by decide +kernel)
                              rcases hg102 with ⟨eg102, hg102⟩ | ⟨eg102, hg102⟩
                              ·
                                subst eg102
                                have s103 : (l7_72 + 1).toInt = l7_72.toInt + (1 : Int32).toInt := kd_add (of9 p72_0 kof1) (of215 c83 s7 kof1)
                                first | refine fo_goL mi_k201 fz201_85_3_91 [(7, .int (l7_72 + 1)), (4, .int ((l4_72 * 1103515245) + 12345)), (6, .int l6_64), (5, .int l5_64), (0, .ref 116), (1, .int x1), (2, .int x2), (3, .int x3)] [] (by rfl) ?_ | refine fo_goL mi_k201 fz201_148_3_91 [(7, .int (l7_72 + 1)), (4, .int ((l4_72 * 1103515245) + 12345)), (6, .int l6_64), (5, .int l5_64), (0, .ref 116), (1, .int x1), (2, .int x2), (3, .int x3)] [] (by rfl) ?_
                                refine ko_perm [(7, .int (l7_72 + 1)), (6, .int l6_64), (5, .int l5_64), (4, .int ((l4_72 * 1103515245) + 12345)), (0, .ref 116), (1, .int x1), (2, .int x2), (3, .int x3)] (List.forall_mem_cons.mpr ⟨(List.Mem.head _), (List.forall_mem_cons.mpr ⟨(List.Mem.tail _ (List.Mem.tail _ (List.Mem.head _))), (List.forall_mem_cons.mpr ⟨(List.Mem.tail _ (List.Mem.tail _ (List.Mem.tail _ (List.Mem.head _)))), (List.forall_mem_cons.mpr ⟨(List.Mem.tail _ (List.Mem.head _)), (List.forall_mem_cons.mpr ⟨(List.Mem.tail _ (List.Mem.tail _ (List.Mem.tail _ (List.Mem.tail _ (List.Mem.head _))))), (List.forall_mem_cons.mpr ⟨(List.Mem.tail _ (List.Mem.tail _ (List.Mem.tail _ (List.Mem.tail _ (List.Mem.tail _ (List.Mem.head _)))))), (List.forall_mem_cons.mpr ⟨(List.Mem.tail _ (List.Mem.tail _ (List.Mem.tail _ (List.Mem.tail _ (List.Mem.tail _ (List.Mem.tail _ (List.Mem.head _))))))), (List.forall_mem_cons.mpr ⟨(List.Mem.tail _ (List.Mem.tail _ (List.Mem.tail _ (List.Mem.tail _ (List.Mem.tail _ (List.Mem.tail _ (List.Mem.tail _ (List.Mem.head _)))))))), (fun _ h => absurd h List.not_mem_nil)⟩)⟩)⟩)⟩)⟩)⟩)⟩)⟩) ?_
                                exact ih72 _ _ _ _ _ _ hGg102 (of11 p72_0 s103 kof1) (by first | rfl | (simp only [kg102.fa 139 rfl, kg97.fa 139 rfl, O72_0, sMn, sMx]; done) | (simp only [kg102.fa 139 rfl, kg97.fa 139 rfl, O72_0, sMn, sMx]; rfl)) (kj_meas (of216 s103 kof1) (of217 c83 s7) hm72)
                              ·
                                subst eg102
                                have s104 : (l7_72 + 1).toInt = l7_72.toInt + (1 : Int32).toInt := kd_add (of9 p72_0 kof1) (of215 c83 s7 kof1)
                                first | refine fo_goL mi_k201 fz201_85_3_91 [(7, .int (l7_72 + 1)), (4, .int ((l4_72 * 1103515245) + 12345)), (6, .int l6_64), (5, .int l5_64), (0, .ref 116), (1, .int x1), (2, .int x2), (3, .int x3)] [] (by rfl) ?_ | refine fo_goL mi_k201 fz201_148_3_91 [(7, .int (l7_72 + 1)), (4, .int ((l4_72 * 1103515245) + 12345)), (6, .int l6_64), (5, .int l5_64), (0, .ref 116), (1, .int x1), (2, .int x2), (3, .int x3)] [] (by rfl) ?_
                                refine ko_perm [(7, .int (l7_72 + 1)), (6, .int l6_64), (5, .int l5_64), (4, .int ((l4_72 * 1103515245) + 12345)), (0, .ref 116), (1, .int x1), (2, .int x2), (3, .int x3)] (List.forall_mem_cons.mpr ⟨(List.Mem.head _), (List.forall_mem_cons.mpr ⟨(List.Mem.tail _ (List.Mem.tail _ (List.Mem.head _))), (List.forall_mem_cons.mpr ⟨(List.Mem.tail _ (List.Mem.tail _ (List.Mem.tail _ (List.Mem.head _)))), (List.forall_mem_cons.mpr ⟨(List.Mem.tail _ (List.Mem.head _)), (List.forall_mem_cons.mpr ⟨(List.Mem.tail _ (List.Mem.tail _ (List.Mem.tail _ (List.Mem.tail _ (List.Mem.head _))))), (List.forall_mem_cons.mpr ⟨(List.Mem.tail _ (List.Mem.tail _ (List.Mem.tail _ (List.Mem.tail _ (List.Mem.tail _ (List.Mem.head _)))))), (List.forall_mem_cons.mpr ⟨(List.Mem.tail _ (List.Mem.tail _ (List.Mem.tail _ (List.Mem.tail _ (List.Mem.tail _ (List.Mem.tail _ (List.Mem.head _))))))), (List.forall_mem_cons.mpr ⟨(List.Mem.tail _ (List.Mem.tail _ (List.Mem.tail _ (List.Mem.tail _ (List.Mem.tail _ (List.Mem.tail _ (List.Mem.tail _ (List.Mem.head _)))))))), (fun _ h => absurd h List.not_mem_nil)⟩)⟩)⟩)⟩)⟩)⟩)⟩)⟩) ?_
                                exact ih72 _ _ _ _ _ _ hGg102 (of11 p72_0 s104 kof1) (by first | rfl | (simp only [kg102.fa 139 rfl, kg97.fa 139 rfl, O72_0, sMn, sMx]; done) | (simp only [kg102.fa 139 rfl, kg97.fa 139 rfl, O72_0, sMn, sMx]; rfl)) (kj_meas (of216 s104 kof1) (of217 c83 s7) hm72)
                      exact lp72 _ _ _ _ _ _ _ (kG_self _ hL64.I hL64.R) (of17 kof0) (by first | rfl | (simp only [O64_1, sMn, sMx]; done) | (simp only [O64_1, sMn, sMx]; rfl)) (Nat.lt_succ_self _)
              exact lp64 _ _ _ _ _ _ _ _ (kG_self _ hGg61.I hGg61.R) (of17 kof0) (by first | rfl | (simp only [q63, sMn, sMx]; done) | (simp only [q63, sMn, sMx]; rfl)) (by first | rfl | (simp only [q62, sMn, sMx]; done) | (simp only [q62, sMn, sMx]; rfl)) (Nat.lt_succ_self _)
            ·
              subst eg59
              first | refine fo_goS mi_k201 fz201_1_2_57 [.int (-1)] (by rfl) ?_ | refine fo_goS mi_k201 fz201_15_2_57 [.int (-1)] (by rfl) ?_ | refine fo_goS mi_k201 fz201_31_2_57 [.int (-1)] (by rfl) ?_ | refine fo_goS mi_k201 fz201_53_2_57 [.int (-1)] (by rfl) ?_ | refine ft_goS mi_k201 2 57 [.int (-1)] (by rfl) ?_
              exact ft_ret mi_k201 (by rfl) (hP (-1) _ _ _ _ hG ⟨trivial, (show a 118 = a 118 from rfl)⟩)
      ·
        subst eg8
        first | refine fo_goS mi_k201 fz201_1_2_57 [.int (-1)] (by rfl) ?_ | refine fo_goS mi_k201 fz201_15_2_57 [.int (-1)] (by rfl) ?_ | refine fo_goS mi_k201 fz201_31_2_57 [.int (-1)] (by rfl) ?_ | refine fo_goS mi_k201 fz201_53_2_57 [.int (-1)] (by rfl) ?_ | refine ft_goS mi_k201 2 57 [.int (-1)] (by rfl) ?_
        exact ft_ret mi_k201 (by rfl) (hP (-1) _ _ _ _ hG ⟨trivial, (show a 118 = a 118 from rfl)⟩)
    ·
      subst eg4
      first | refine fo_goS mi_k201 fz201_1_2_57 [.int (-1)] (by rfl) ?_ | refine fo_goS mi_k201 fz201_15_2_57 [.int (-1)] (by rfl) ?_ | refine fo_goS mi_k201 fz201_31_2_57 [.int (-1)] (by rfl) ?_ | refine fo_goS mi_k201 fz201_53_2_57 [.int (-1)] (by rfl) ?_ | refine ft_goS mi_k201 2 57 [.int (-1)] (by rfl) ?_
      exact ft_ret mi_k201 (by rfl) (hP (-1) _ _ _ _ hG ⟨trivial, (show a 118 = a 118 from rfl)⟩)
noncomputable def yw194_116 : kW := ([7426, 7464, 7465, 7466, 7467], [118, 128, 129, 139, 141, 143, 144, 145], [], [])
noncomputable def yw194_116_L10 : kW := ([7426, 7464, 7465, 7466, 7467], [118, 128, 129, 139, 141, 143, 144, 145], [], [])
set_option maxRecDepth 100000 in
theorem ke194_116 {i : Nat → Int32} {a : Nat → List Int32} {q : Nat → List Int64} {r : Nat → Nat} (hI : kI i a q) (hr : kr r) (x1 : Int32) (hp0 : ((0 : Int) ≤ x1.toInt) ∧ (x1.toInt ≤ 5)) (hE_code : kCode i a) : km 15 194 [.ref 116, .int x1] (ks i a q r) (kVI yw194_116 i a q r (fun v i1 a1 q1 r1 => ((i1 7426).toInt = (i 7426).toInt) ∧ a1 118 = a 118)) := by
  have hG := kG_self yw194_116 hI hr
  refine km_ofI (q := (mi_h194, mi_c194)) rfl (by decide) (Nat.le_of_ble_eq_true rfl) ?_
  intro P hP
  have fi_7426 : ((1 : Int) ≤ (i 7426).toInt) ∧ ((i 7426).toInt ≤ 5) := hG.I.1 7426
  first | refine fo_goL mi_k194 fz194_0_7_10 [(4, .int 1), (3, .int 0), (2, .int (i 7426)), (0, .ref 116), (1, .int x1)] [] (by rfl) ?_ | refine ft_goL mi_k194 7 10 [(4, .int 1), (3, .int 0), (2, .int (i 7426)), (0, .ref 116), (1, .int x1)] [] (by rfl) ?_
  have lp1 : ∀ (nz : Nat) (i1 : Nat → Int32) (a1 : Nat → List Int32) (q1 : Nat → List Int64) (r1 : Nat → Nat) (l4_1 : Int32) (l3_1 : Int32), kG yw194_116_L10 i a q r i1 a1 q1 r1 → (1 : Int) ≤ l4_1.toInt → a1 118 = a 118 → ((6 - l4_1.toInt)).toNat < nz → ko 15 (mi_h194, mi_c194) P (10, [(4, .int l4_1), (3, .int l3_1), (2, .int (i 7426)), (0, .ref 116), (1, .int x1)], [], (0, 0), ks i1 a1 q1 r1) := by
    intro nz
    induction nz with
    | zero =>
      intro _ _ _ _ _ _ _ _ _ hm
      exact absurd hm (Nat.not_lt_zero _)
    | succ nz ih1 =>
      intro i1 a1 q1 r1 l4_1 l3_1 hL1 p1_0 O1_0 hm1
      refine ft_goL mi_k194 2 14 [(4, .int l4_1), (3, .int l3_1), (2, .int (i 7426)), (0, .ref 116), (1, .int x1)] [.int 6, .int l4_1] (by rfl) ?_
      refine ft_ifS mi_k194 (decide (6 ≤ l4_1)) 46 17 [] (by rfl) (fun c => ?_) (fun c => ?_)
      ·
        have c2 : (6 : Int32).toInt ≤ l4_1.toInt := kd_le c; clear c
        have hG3 := kG_call hG hL1 (by decide +kernel)
        have hJ4 := kG_i hG3 7426 rfl (v := (i 7426)) ⟨(of221 fi_7426.1), (of222 fi_7426.2)⟩
        refine ft_goI mi_k194 4 52 [.int l3_1] (ku i1 7426 (i 7426)) (by rfl) ?_
        exact ft_ret mi_k194 (by rfl) (hP l3_1 _ _ _ _ hJ4 ⟨of13, (show a1 118 = a 118 from (by first | rfl | (simp only [O1_0, sMn, sMx]; done) | (simp only [O1_0, sMn, sMx]; rfl)))⟩)
      ·
        have c5 : l4_1.toInt < (6 : Int32).toInt := kd_leF c; clear c
        have hJ6 := kG_i hL1 7426 rfl (v := l4_1) ⟨(of221 p1_0), (of223 c5 kof6)⟩
        first | refine fo_goI mi_k194 fz194_17_5_25 [.int x1, .ref 116] (ku i1 7426 l4_1) (by rfl) ?_ | refine ft_go mi_k194 5 25 [(4, .int l4_1), (3, .int l3_1), (2, .int (i 7426)), (0, .ref 116), (1, .int x1)] [.int x1, .ref 116] (ku i1 7426 l4_1) a1 q1 r1 (by rfl) ?_
        have hG7 := kG_call hG hJ6 (by decide +kernel)
        refine ko_callI mi_k194.1 (pc := 25) (ls := [(4, .int l4_1), (3, .int l3_1), (2, .int (i 7426)), (0, .ref 116), (1, .int x1)]) (st := [.int x1, .ref 116]) (h := ks (ku i1 7426 l4_1) a1 q1 r1) (i := (.invokevirtual 320, 3, 192, 0, 9, 0, 444)) (mi_k194.2 _ _ (by rfl)) (ft_invS mi_pq192 (by rfl)) (cy := mi_c192) mi_pq192 rfl (ke192_116 hJ6.I hJ6.R x1 (of34 hp0.1 hp0.2) (kCode_of (i1 := ku i1 7426 l4_1) hE_code (hG7.fi 7432 rfl) (hG7.fa 120 rfl) (hG7.fa 121 rfl) (hG7.fa 122 rfl) (hG7.fa 123 rfl))) (by decide) ?_
        intro vg8 ig8 ag8 qg8 rg8 kg8 hg8
        have hGg8 := kG_call hJ6 kg8 (by decide +kernel)
        obtain ⟨hg8, og8⟩ := hg8
        have q9 : ag8 118 = a1 118 := og8
        refine ft_goS mi_k194 1 30 [.int (-2), .int vg8] (by rfl) ?_
        refine ft_ifS mi_k194 (vg8 != (-2)) 40 33 [] (by rfl) (fun c => ?_) (fun c => ?_)
        ·
          have c10 : vg8.toInt ≠ ((-2) : Int32).toInt := kd_ne c; clear c
          have s11 : (l4_1 + 1).toInt = l4_1.toInt + (1 : Int32).toInt := kd_add (of189 p1_0 kof1) (of224 c5 kof6 kof1)
          first | refine ft_goL mi_k194 2 10 [(4, .int (l4_1 + 1)), (3, .int l3_1), (2, .int (i 7426)), (0, .ref 116), (1, .int x1)] [] (by rfl) ?_
          exact ih1 _ _ _ _ _ _ hGg8 (of191 p1_0 s11 kof1) (by first | rfl | (simp only [q9, O1_0, sMn, sMx]; done) | (simp only [q9, O1_0, sMn, sMx]; rfl)) (kj_meas (of225 s11 kof1) (of226 c5 kof6) hm1)
        ·
          have c12 : vg8.toInt = ((-2) : Int32).toInt := kd_neF c; clear c
          have s13 : ((1 : Int) ≤ (1 <<< (l4_1 &&& 31)).toInt) ∧ ((1 <<< (l4_1 &&& 31)).toInt ≤ 256) := kd_shl1 (of187 p1_0) (of227 c5 kof6)
          have s14 : (1 <<< (l4_1 &&& 31)).toInt ≤ 32 := kd_shl32 (of187 p1_0) (of223 c5 kof6)
          have s15 : (l4_1 + 1).toInt = l4_1.toInt + (1 : Int32).toInt := kd_add (of189 p1_0 kof1) (of224 c5 kof6 kof1)
          first | refine ft_go mi_k194 8 10 [(4, .int (l4_1 + 1)), (3, .int (l3_1 ||| (1 <<< (l4_1 &&& 31)))), (2, .int (i 7426)), (0, .ref 116), (1, .int x1)] [] ig8 ag8 qg8 rg8 (by rfl) ?_ | refine ft_goL mi_k194 8 10 [(4, .int (l4_1 + 1)), (3, .int (l3_1 ||| (1 <<< (l4_1 &&& 31)))), (2, .int (i 7426)), (0, .ref 116), (1, .int x1)] [] (by rfl) ?_
          exact ih1 _ _ _ _ _ _ hGg8 (of191 p1_0 s15 kof1) (by first | rfl | (simp only [q9, O1_0, sMn, sMx]; done) | (simp only [q9, O1_0, sMn, sMx]; rfl)) (kj_meas (of225 s15 kof1) (of226 c5 kof6) hm1)
  exact lp1 _ _ _ _ _ _ _ (kG_self _ hG.I hG.R) (of193 kof1) rfl (Nat.lt_succ_self _)
end
section
/-! THE LAW OF THE REFERENCE AT WORK, PURELY -/
noncomputable def rBoth (k x y : Int32) : Int32 :=
  if k.toInt = 6 then (if x.toInt ≠ 0 ∨ y.toInt ≠ 0 then 1 else 0)
  else if k.toInt = 7 then (if x.toInt ≠ 0 ∧ y.toInt ≠ 0 then 1 else 0)
  else if k.toInt = 8 then (if x.toInt < y.toInt then 1 else 0)
  else if k.toInt = 9 then (if x.toInt = y.toInt then 1 else 0)
  else if k.toInt = 10 then (if y.toInt < x.toInt then 1 else 0)
  else if k.toInt = 11 then x + y
  else if k.toInt = 12 then x - y
  else if k.toInt = 13 then x * y
  else if k.toInt = 14 then (if y.toInt = 0 then 0 else x / y)
  else (if y.toInt = 0 then 0 else x - x / y * y)
noncomputable def wOp (nm : List Int32) (c : Int32) (s : List Int32) : List Int32 :=
  if 18 ≤ c.toInt ∨ c.toInt ≤ 5 then s ++ [if 18 ≤ c.toInt then c - 18 else nm.getD c.toNatClampNeg 0]
  else if c.toInt = 16 ∨ c.toInt = 17 then s.set (s.length - 1) (if c.toInt = 17 then -(s.getD (s.length - 1) 0) else if (s.getD (s.length - 1) 0).toInt = 0 then 1 else 0)
  else (s.set (s.length - 2) (rBoth c (s.getD (s.length - 2) 0) (s.getD (s.length - 1) 0))).take (s.length - 1)
/-- the stack behind n steps from f on -/
noncomputable def wRun (L nm : List Int32) (f : Nat) : Nat → List Int32
  | 0 => []
  | n + 1 => wOp nm (L.getD (f + n) 0) (wRun L nm f n)
noncomputable def wVal (L nm : List Int32) (x y : Int32) : Int32 := (wRun L nm x.toInt.toNat (y.toInt - x.toInt).toNat).getD 0 0
/-- what the lines from j on say -/
noncomputable def wLaw (as sy en L nm : List Int32) : Nat → Nat → Int32
  | 0, _ => 0
  | n + 1, j => if (as.getD j 0).toInt < (sy.getD j 0).toInt ∧ (wVal L nm (as.getD j 0) (sy.getD j 0)).toInt = 0 then wLaw as sy en L nm n (j + 1) else wVal L nm (sy.getD j 0) (en.getD j 0)
noncomputable def rBuyV (told lv w h o : Int32) : Int32 := sMx 0 (sMn 99 (if told.toInt = 0 then 5 * w + h - 2 * o else lv))
theorem wS_start {st L nm : List Int32} {x : Int32} {z : Int32} (hz : z.toInt = 0) : st.take z.toInt.toNat = wRun L nm x.toInt.toNat (x.toInt - x.toInt).toNat := by
  rw [hz, Int.sub_self]
  rfl
theorem wTake {st : List Int32} {k : Nat} {v : Int32} (h : k < st.length) : (st.set k v).take (k + 1) = st.take k ++ [v] := by
  rw [List.take_succ, List.take_set, List.getElem?_set_self h, List.set_eq_of_length_le (by rw [List.length_take]; omega)]
  rfl
theorem wGet {st : List Int32} {k n : Nat} (h : k < n) : (st.take n).getD k 0 = st.getD k 0 := by
  rw [List.getD_eq_getElem?_getD, List.getElem?_take_of_lt h, ← List.getD_eq_getElem?_getD]
section WS
variable {st st1 L nm : List Int32} {f : Int32} {x x1 top top1 c v : Int32}
theorem wS_push (h : st.take top.toInt.toNat = wRun L nm f.toInt.toNat (x.toInt - f.toInt).toNat) (hl : st.length = 200) (h0 : 0 ≤ top.toInt) (h1 : top.toInt < 200) (hf : 0 ≤ f.toInt) (hx : f.toInt ≤ x.toInt) (hc : c = L.getD x.toNatClampNeg 0) (hk : 18 ≤ c.toInt ∨ c.toInt ≤ 5) (hv : v = if 18 ≤ c.toInt then c - 18 else nm.getD c.toNatClampNeg 0) (e : st1 = st.set top.toNatClampNeg v) (ht : top1.toInt = top.toInt + 1) (hx1 : x1.toInt = x.toInt + 1) : st1.take top1.toInt.toNat = wRun L nm f.toInt.toNat (x1.toInt - f.toInt).toNat := by
  have tt := Int32.toNat_toInt top
  have tx := Int32.toNat_toInt x
  rw [show (x1.toInt - f.toInt).toNat = (x.toInt - f.toInt).toNat + 1 by omega]
  unfold wRun
  rw [show f.toInt.toNat + (x.toInt - f.toInt).toNat = x.toNatClampNeg by omega, ← hc, ← h]
  unfold wOp
  rw [if_pos hk, ← hv, e, show top1.toInt.toNat = top.toNatClampNeg + 1 by omega, wTake (by omega), tt]
theorem wS_un {y : Int32} (h : st.take top.toInt.toNat = wRun L nm f.toInt.toNat (x.toInt - f.toInt).toNat) (hl : st.length = 200) (h0 : 1 ≤ top.toInt) (h1 : top.toInt ≤ 200) (hf : 0 ≤ f.toInt) (hx : f.toInt ≤ x.toInt) (hc : c = L.getD x.toNatClampNeg 0) (hk : c.toInt = 16 ∨ c.toInt = 17) (hy : y.toInt = top.toInt - 1) (hv : v = if c.toInt = 17 then -(st.getD y.toNatClampNeg 0) else if (st.getD y.toNatClampNeg 0).toInt = 0 then 1 else 0) (e : st1 = st.set y.toNatClampNeg v) (ht : top1.toInt = top.toInt) (hx1 : x1.toInt = x.toInt + 1) : st1.take top1.toInt.toNat = wRun L nm f.toInt.toNat (x1.toInt - f.toInt).toNat := by
  have tt := Int32.toNat_toInt top
  have tx := Int32.toNat_toInt x
  have ty := Int32.toNat_toInt y
  have hlen : (st.take top.toInt.toNat).length = top.toInt.toNat := by rw [List.length_take]; omega
  rw [show (x1.toInt - f.toInt).toNat = (x.toInt - f.toInt).toNat + 1 by omega]
  unfold wRun
  rw [show f.toInt.toNat + (x.toInt - f.toInt).toNat = x.toNatClampNeg by omega, ← hc, ← h]
  unfold wOp
  rw [if_neg (by omega), if_pos hk, hlen, show top.toInt.toNat - 1 = y.toNatClampNeg by omega, wGet (by omega), ← hv, e, ht, List.take_set]
theorem wS_bin {y z : Int32} (h : st.take top.toInt.toNat = wRun L nm f.toInt.toNat (x.toInt - f.toInt).toNat) (hl : st.length = 200) (h0 : 2 ≤ top.toInt) (h1 : top.toInt ≤ 200) (hf : 0 ≤ f.toInt) (hx : f.toInt ≤ x.toInt) (hc : c = L.getD x.toNatClampNeg 0) (hk : 6 ≤ c.toInt) (hk2 : c.toInt ≤ 15) (hy : y.toInt = top.toInt - 2) (hz : z.toInt = top.toInt - 1) (hv : v = rBoth c (st.getD y.toNatClampNeg 0) (st.getD z.toNatClampNeg 0)) (e : st1 = st.set y.toNatClampNeg v) (ht : top1.toInt = top.toInt - 1) (hx1 : x1.toInt = x.toInt + 1) : st1.take top1.toInt.toNat = wRun L nm f.toInt.toNat (x1.toInt - f.toInt).toNat := by
  have tt := Int32.toNat_toInt top
  have tx := Int32.toNat_toInt x
  have ty := Int32.toNat_toInt y
  have tz := Int32.toNat_toInt z
  have hlen : (st.take top.toInt.toNat).length = top.toInt.toNat := by rw [List.length_take]; omega
  rw [show (x1.toInt - f.toInt).toNat = (x.toInt - f.toInt).toNat + 1 by omega]
  unfold wRun
  rw [show f.toInt.toNat + (x.toInt - f.toInt).toNat = x.toNatClampNeg by omega, ← hc, ← h]
  unfold wOp
  rw [if_neg (by omega), if_neg (by omega), hlen, show top.toInt.toNat - 2 = y.toNatClampNeg by omega, show top.toInt.toNat - 1 = z.toNatClampNeg by omega, wGet (by omega), wGet (by omega), ← hv, ← List.take_set, List.take_take, e, show min z.toNatClampNeg top.toInt.toNat = top1.toInt.toNat by omega]
theorem wS_end {y : Int32} (h : st.take top.toInt.toNat = wRun L nm f.toInt.toNat (x.toInt - f.toInt).toNat) (h1 : 1 ≤ top.toInt) (hy : y.toInt = x.toInt) : st.getD 0 0 = wVal L nm f y := by
  unfold wVal
  rw [hy, ← h, wGet (by omega)]
end WS
theorem kWk_end {L : List Int32} {f t i top : Int} (hs : kSeg L f t) (hw : kWk L f i top) (hi : i = t) : top = 1 := by
  subst hi
  have a := hs.2.2.2
  have b := hw.2.2
  rw [a] at b
  have := Option.some.inj b
  have := hw.1
  omega
theorem wLaw_skip {as sy en L nm : List Int32} {n m : Nat} {j : Nat} {R : Int32} (h : wLaw as sy en L nm m j = R) (hm : m = n + 1) (h1 : (as.getD j 0).toInt < (sy.getD j 0).toInt) (h2 : (wVal L nm (as.getD j 0) (sy.getD j 0)).toInt = 0) : wLaw as sy en L nm n (j + 1) = R := by
  subst hm
  unfold wLaw at h
  rw [if_pos ⟨h1, h2⟩] at h
  exact h
theorem wLaw_say {as sy en L nm : List Int32} {n m : Nat} {j : Nat} {R : Int32} (h : wLaw as sy en L nm m j = R) (hm : m = n + 1) (h1 : ¬ ((as.getD j 0).toInt < (sy.getD j 0).toInt ∧ (wVal L nm (as.getD j 0) (sy.getD j 0)).toInt = 0)) : wVal L nm (sy.getD j 0) (en.getD j 0) = R := by
  subst hm
  unfold wLaw at h
  rw [if_neg h1] at h
  exact h
theorem kNam5 {l : List Int32} {a c d e f : Int32} (h : l.length = 6) : (((((l.set (0 : Int32).toNatClampNeg a).set (2 : Int32).toNatClampNeg c).set (3 : Int32).toNatClampNeg d).set (4 : Int32).toNatClampNeg e).set (5 : Int32).toNatClampNeg f) = [a, l.getD 1 0, c, d, e, f] := by
  match l, h with
  | [_, _, _, _, _, _], _ => rfl
theorem kj_lines {n x : Int} (h : x < n) (h0 : 0 ≤ x) : (n - x).toNat = (n - (x + 1)).toNat + 1 := by omega
section BLN
variable {as as1 sy sy1 sy2 en en1 L nm : List Int32} {x x1 v v0 n R : Int32}
theorem bl_next (h : wLaw as sy en L nm (n.toInt - x.toInt).toNat x.toInt.toNat = R) (hm : (n.toInt - x.toInt).toNat = (n.toInt - (x.toInt + 1)).toNat + 1) (h0 : 0 ≤ x.toInt) (h1 : x1.toInt = x.toInt + 1) (ea : as1 = as) (es : sy1 = sy) (hlt : (as1.getD x.toNatClampNeg 0).toInt < (sy1.getD x.toNatClampNeg 0).toInt) (hv : v = wVal L nm (as1.getD x.toNatClampNeg 0) (sy1.getD x.toNatClampNeg 0)) (hz : v.toInt = 0) (_ : True = True) : wLaw as sy en L nm (n.toInt - x1.toInt).toNat x1.toInt.toNat = R := by
  have tx := Int32.toNat_toInt x
  subst ea
  subst es
  subst hv
  rw [h1, show (x.toInt + 1).toNat = x.toInt.toNat + 1 by omega]
  exact wLaw_skip h hm (by rw [tx]; exact hlt) (by rw [tx]; exact hz)
theorem bl_none (h : wLaw as sy en L nm (n.toInt - x.toInt).toNat x.toInt.toNat = R) (hx : n.toInt ≤ x.toInt) : R = 0 := by
  rw [show (n.toInt - x.toInt).toNat = 0 by omega] at h
  exact h.symm
theorem bl_say0 (h : wLaw as sy en L nm (n.toInt - x.toInt).toNat x.toInt.toNat = R) (hm : (n.toInt - x.toInt).toNat = (n.toInt - (x.toInt + 1)).toNat + 1) (h0 : 0 ≤ x.toInt) (ea : as1 = as) (es : sy1 = sy) (hge : (sy1.getD x.toNatClampNeg 0).toInt ≤ (as1.getD x.toNatClampNeg 0).toInt) (es2 : sy2 = sy) (ee : en1 = en) (hv : v = wVal L nm (sy2.getD x.toNatClampNeg 0) (en1.getD x.toNatClampNeg 0)) : R = v := by
  have tx := Int32.toNat_toInt x
  subst ea
  subst es
  subst es2
  subst ee
  rw [hv, ← tx]
  exact (wLaw_say h hm (by rw [tx]; omega)).symm
theorem bl_say1 (h : wLaw as sy en L nm (n.toInt - x.toInt).toNat x.toInt.toNat = R) (hm : (n.toInt - x.toInt).toNat = (n.toInt - (x.toInt + 1)).toNat + 1) (h0 : 0 ≤ x.toInt) (ea : as1 = as) (es : sy1 = sy) (hv0 : v0 = wVal L nm (as1.getD x.toNatClampNeg 0) (sy1.getD x.toNatClampNeg 0)) (hz : v0.toInt ≠ 0) (es2 : sy2 = sy) (ee : en1 = en) (hv : v = wVal L nm (sy2.getD x.toNatClampNeg 0) (en1.getD x.toNatClampNeg 0)) : R = v := by
  have tx := Int32.toNat_toInt x
  subst ea
  subst es
  subst es2
  subst ee
  subst hv0
  rw [hv, ← tx]
  exact (wLaw_say h hm (by rw [tx]; exact fun z => hz z.2)).symm
end BLN
theorem kSet1 {l : List Int32} {x : Int32} (h : l.length = 6) : (l.set (1 : Int32).toNatClampNeg x).getD 1 0 = x := by
  match l, h with
  | [_, _, _, _, _, _], _ => rfl
end
section
theorem kog0 : (0 : Int32).toInt = 0 := by decide
theorem kog1 : (1 : Int32).toInt = 1 := by decide
theorem kog8 : (8 : Int32).toInt = 8 := by decide
theorem kog9 : (9 : Int32).toInt = 9 := by decide
theorem kog10 : (10 : Int32).toInt = 10 := by decide
theorem kog18 : (18 : Int32).toInt = 18 := by decide
theorem kog5 : (5 : Int32).toInt = 5 := by decide
theorem kog16 : (16 : Int32).toInt = 16 := by decide
theorem kog17 : (17 : Int32).toInt = 17 := by decide
theorem kogm1 : ((-1) : Int32).toInt = (-1) := by decide
theorem kog2 : (2 : Int32).toInt = 2 := by decide
theorem kog3 : (3 : Int32).toInt = 3 := by decide
theorem kog4 : (4 : Int32).toInt = 4 := by decide
theorem og0 {a0 a1 : Int} (h0 : a0 ≠ a1) (h1 : a1 = 0) : a0 ≠ 0 := oz295 h0 h1
theorem og1 {a0 : Int} (h0 : ¬ (a0 = 6)) (h1 : ¬ (a0 = 7)) (h2 : ¬ (a0 = 8)) (h3 : ¬ (a0 = 9)) (h4 : ¬ (a0 = 10)) (h5 : ¬ (a0 = 11)) (h6 : ¬ (a0 = 12)) (h7 : ¬ (a0 = 13)) (h8 : ¬ (a0 = 14)) : a0 < 6 ∨ 14 < a0 := oz296 h0 h1 h2 h3 h4 h5 h6 h7 h8
theorem og2 {a0 : Int} (h0 : a0 = 0) : (0 : Int) ≤ a0 := oz46 h0
theorem og3 {a0 : Int} (h0 : a0 = 0) : a0 < 200 := oz267 h0
theorem og4 {a0 a1 : Int} (h0 : a0 ≤ a1) (h1 : a1 ≤ a0) : a1 = a0 := oy46 h0 h1
theorem og5 {a0 a1 : Int} (h0 : a0 ≤ a1) (h1 : a1 ≤ a0) : a0 = a1 := by omega
theorem og6 {a0 a1 : Int} (h0 : (0 : Int) ≤ a0) (h1 : a0 ≤ a1) : (0 : Int) ≤ a1 := oz268 h0 h1
theorem og7 {a0 a1 : Int} (h0 : a0 < a1) (h1 : a1 ≤ 200) : a0 < 200 := oz269 h0 h1
theorem og8 {a0 a1 : Int} (h0 : a0 < a1) : a0 < a1 := oz270 h0
theorem og9 {a0 a1 : Int} (h0 : (0 : Int) ≤ a0) (h1 : a1 = 1) : (-2147483648 : Int) ≤ a0 + a1 := oz12 h0 h1
theorem og10 {a0 a1 : Int} (h0 : a0 ≤ 200) (h1 : a1 = 1) : a0 + a1 ≤ 2147483647 := oz271 h0 h1
theorem og11 {a0 a1 : Int} (h0 : a0 ≤ a1) (h1 : a1 < a0) (h2 : a0 = 18) : False := oz272 h0 h1 h2
theorem og12 {a0 a1 : Int} (h0 : a0 ≤ a1) (h1 : a0 = 18) : (-2147483648 : Int) ≤ a1 - a0 := oz273 h0 h1
theorem og13 {a0 a1 : Int} (h0 : a0 ≤ 2147483647) (h1 : a1 = 18) : a0 - a1 ≤ 2147483647 := oz274 h0 h1
theorem og14 {a0 : Int} (h0 : (0 : Int) ≤ a0) : (0 : Int) ≤ a0 := oz3 h0
theorem og15 {a0 a1 a2 : Int} (h0 : a0 < a1) (h1 : a1 ≤ 200) (h2 : a2 ≤ a0) : a2 < 200 := oz275 h0 h1 h2
theorem og16 {a0 a1 a2 : Int} (h0 : (0 : Int) ≤ a0) (h1 : a0 ≤ a1) (h2 : a2 = 1) : (-2147483648 : Int) ≤ a1 + a2 := oz276 h0 h1 h2
theorem og17 {a0 a1 a2 : Int} (h0 : a0 < a1) (h1 : a1 ≤ 200) (h2 : a2 = 1) : a0 + a2 ≤ 2147483647 := oz277 h0 h1 h2
theorem og18 {a0 a1 a2 a3 : Int} (h0 : a0 ≤ a1) (h1 : a2 = a1 + a3) (h2 : a3 = 1) : a0 ≤ a2 := oz278 h0 h1 h2
theorem og19 {a0 a1 a2 a3 a4 : Int} (h0 : a0 < a1) (h1 : a1 ≤ 200) (h2 : (0 : Int) ≤ a2) (h3 : a3 = a2 + a4) (h4 : a2 ≤ a0) (h5 : a4 = 1) : ((0 : Int) ≤ a3) ∧ (a3 ≤ 200) := oz279 h0 h1 h2 h3 h4 h5
theorem og20 {a0 a1 a2 a3 : Int} (h0 : a0 < a1) (h1 : a2 = a0 + a3) (h2 : a3 = 1) : a2 ≤ a1 := by omega
theorem og21 {a0 a1 a2 a3 a4 : Int} (h0 : a0 ≤ a1) (h1 : a2 = a3 + a4) (h2 : a0 = 18) (h3 : a4 = 1) : ((18 ≤ a1 ∨ a1 ≤ 5) → a2 = a3 + 1) ∧ ((a1 = 16 ∨ a1 = 17) → a2 = a3) ∧ ((6 ≤ a1 ∧ a1 ≤ 15) → a2 = a3 - 1) := oz280 h0 h1 h2 h3
theorem og22 {a0 a1 a2 : Int} (h0 : a0 = a1 + a2) (h1 : a2 = 1) : a0 = a1 + 1 := oz169 h0 h1
theorem og23 {a0 a1 : Int} (h0 : a0 ≤ a1) : a0 ≤ a1 := oz173 h0
theorem og24 {a0 : Int} (h0 : a0 ≤ 200) : a0 ≤ 200 := oz1293 h0
theorem og25 {a0 a1 : Int} (h0 : a0 ≤ a1) (h1 : a0 = 18) : 18 ≤ a1 ∨ a1 ≤ 5 := by omega
theorem og26 {a0 a1 : Int} (h0 : a0 ≤ a1) (h1 : a0 = 18) : 18 ≤ a1 := by omega
theorem og27 {a0 a1 a2 a3 : Int} (h0 : a0 = a1 + a2) (h1 : a2 = 1) : (a3 - a0) < (a3 - a1) := oz44 h0 h1
theorem og28 {a0 a1 : Int} (h0 : a0 < a1) : (1 : Int) ≤ (a1 - a0) := oz45 h0
theorem og29 {a0 a1 : Int} (h0 : (0 : Int) ≤ a0) (h1 : a1 = 1) : (-2147483648 : Int) ≤ a0 - a1 := oz47 h0 h1
theorem og30 {a0 a1 : Int} (h0 : a0 ≤ 200) (h1 : a1 = 1) : a0 - a1 ≤ 2147483647 := oz281 h0 h1
theorem og31 {a0 a1 a2 a3 a4 a5 : Int} (h0 : a0 < a1) (h1 : a0 = a2) (h2 : a3 = a4 - a5) (h3 : ((a0 = 16 ∨ a0 = 17) → (1 : Int) ≤ a4)) (h4 : a1 = 18) (h5 : a2 = 16) (h6 : a5 = 1) : (0 : Int) ≤ a3 := oz282 h0 h1 h2 h3 h4 h5 h6
theorem og32 {a0 a1 a2 : Int} (h0 : a0 ≤ 200) (h1 : a1 = a0 - a2) (h2 : a2 = 1) : a1 < 200 := oz283 h0 h1 h2
theorem og33 {a0 : Int} (h0 : (0 : Int) ≤ a0) (h1 : a0 ≤ 200) : ((0 : Int) ≤ a0) ∧ (a0 ≤ 200) := oz284 h0 h1
theorem og34 {a0 a1 a2 a3 : Int} (h0 : a0 < a1) (h1 : a0 = a2) (h2 : a1 = 18) (h3 : a2 = 16) : ((18 ≤ a0 ∨ a0 ≤ 5) → a3 = a3 + 1) ∧ ((a0 = 16 ∨ a0 = 17) → a3 = a3) ∧ ((6 ≤ a0 ∧ a0 ≤ 15) → a3 = a3 - 1) := oz285 h0 h1 h2 h3
theorem og35 {a0 a1 : Int} (h0 : a0 = a1) (h1 : a1 = 16) : a0 = 16 ∨ a0 = 17 := by omega
theorem og36 {a0 a1 : Int} (h0 : a0 = a1) (h1 : a1 = 16) : ¬ (a0 = 17) := by omega
theorem og37 {a0 a1 : Int} (h0 : a0 ≠ a1) (h1 : a1 = 0) : ¬ (a0 = 0) := by omega
theorem og38 {a0 a1 a2 a3 : Int} (h0 : a0 < a1) (h1 : a0 = a2) (h2 : ((a0 = 16 ∨ a0 = 17) → (1 : Int) ≤ a3)) (h3 : a1 = 18) (h4 : a2 = 16) : (1 : Int) ≤ a3 := by omega
theorem og39 {a0 a1 a2 : Int} (h0 : a0 = a1 - a2) (h1 : a2 = 1) : a0 = a1 - 1 := by omega
theorem og40 {a0 : Int}  : a0 = a0 := oz34
theorem og41 {a0 a1 : Int} (h0 : a0 = a1) (h1 : a1 = 0) : a0 = 0 := by omega
theorem og42 {a0 a1 a2 : Int} (h0 : a0 = a1) (h1 : a0 = a2) (h2 : a1 = 16) (h3 : a2 = 17) : False := oz286 h0 h1 h2 h3
theorem og43 {a0 a1 : Int} (h0 : (0 : Int) ≤ a0) (h1 : a1 = (-1)) : (-2147483648 : Int) ≤ a0 + a1 := oz287 h0 h1
theorem og44 {a0 a1 : Int} (h0 : a0 ≤ 200) (h1 : a1 = (-1)) : a0 + a1 ≤ 2147483647 := oz288 h0 h1
theorem og45 {a0 a1 a2 a3 : Int} (h0 : (0 : Int) ≤ a0) (h1 : a1 = a0 + a2) (h2 : a2 = (-1)) (h3 : a3 = 1) : (-2147483648 : Int) ≤ a1 - a3 := oz289 h0 h1 h2 h3
theorem og46 {a0 a1 a2 a3 : Int} (h0 : a0 ≤ 200) (h1 : a1 = a0 + a2) (h2 : a2 = (-1)) (h3 : a3 = 1) : a1 - a3 ≤ 2147483647 := oz290 h0 h1 h2 h3
theorem og47 {a0 a1 a2 a3 a4 a5 a6 a7 a8 a9 : Int} (h0 : a0 < a1) (h1 : a2 < a0) (h2 : a0 ≠ a3) (h3 : a0 ≠ a4) (h4 : a5 = a6 + a7) (h5 : a8 = a5 - a9) (h6 : ((6 ≤ a0 ∧ a0 ≤ 15) → (2 : Int) ≤ a6)) (h7 : a1 = 18) (h8 : a2 = 5) (h9 : a3 = 16) (h10 : a4 = 17) (h11 : a7 = (-1)) (h12 : a9 = 1) : (0 : Int) ≤ a8 := oz291 h0 h1 h2 h3 h4 h5 h6 h7 h8 h9 h10 h11 h12
theorem og48 {a0 a1 a2 a3 a4 : Int} (h0 : a0 ≤ 200) (h1 : a1 = a0 + a2) (h2 : a3 = a1 - a4) (h3 : a2 = (-1)) (h4 : a4 = 1) : a3 < 200 := oz292 h0 h1 h2 h3 h4
theorem og49 {a0 a1 a2 a3 a4 a5 : Int} (h0 : a0 < a1) (h1 : a2 < a0) (h2 : a3 = a4 + a5) (h3 : ((a0 = 16 ∨ a0 = 17) → (1 : Int) ≤ a4)) (h4 : ((6 ≤ a0 ∧ a0 ≤ 15) → (2 : Int) ≤ a4)) (h5 : a1 = 18) (h6 : a2 = 5) (h7 : a5 = (-1)) : (0 : Int) ≤ a3 := oz293 h0 h1 h2 h3 h4 h5 h6 h7
theorem og50 {a0 a1 a2 : Int} (h0 : a0 ≤ 200) (h1 : a1 = a0 + a2) (h2 : a2 = (-1)) : a1 < 200 := oz294 h0 h1 h2
theorem og51 {a0 a1 a2 a3 a4 a5 : Int} (h0 : a0 < a1) (h1 : a2 < a0) (h2 : a3 ≤ 200) (h3 : a4 = a3 + a5) (h4 : ((a0 = 16 ∨ a0 = 17) → (1 : Int) ≤ a3)) (h5 : ((6 ≤ a0 ∧ a0 ≤ 15) → (2 : Int) ≤ a3)) (h6 : a1 = 18) (h7 : a2 = 5) (h8 : a5 = (-1)) : ((0 : Int) ≤ a4) ∧ (a4 ≤ 200) := oz297 h0 h1 h2 h3 h4 h5 h6 h7 h8
theorem og52 {a0 a1 a2 a3 a4 a5 a6 a7 : Int} (h0 : a0 < a1) (h1 : a2 < a0) (h2 : a0 ≠ a3) (h3 : a0 ≠ a4) (h4 : a5 = a6 + a7) (h5 : a1 = 18) (h6 : a2 = 5) (h7 : a3 = 16) (h8 : a4 = 17) (h9 : a7 = (-1)) : ((18 ≤ a0 ∨ a0 ≤ 5) → a5 = a6 + 1) ∧ ((a0 = 16 ∨ a0 = 17) → a5 = a6) ∧ ((6 ≤ a0 ∧ a0 ≤ 15) → a5 = a6 - 1) := oz298 h0 h1 h2 h3 h4 h5 h6 h7 h8 h9
theorem og53 {a0 a1 a2 a3 a4 a5 : Int} (h0 : a0 < a1) (h1 : a2 < a0) (h2 : a0 ≠ a3) (h3 : a0 ≠ a4) (h4 : ((6 ≤ a0 ∧ a0 ≤ 15) → (2 : Int) ≤ a5)) (h5 : a1 = 18) (h6 : a2 = 5) (h7 : a3 = 16) (h8 : a4 = 17) : (2 : Int) ≤ a5 := by omega
theorem og54 {a0 a1 : Int} (h0 : a0 < a1) (h1 : a0 = 5) : (6 : Int) ≤ a1 := by omega
theorem og55 {a0 a1 a2 a3 : Int} (h0 : a0 < a1) (h1 : a0 ≠ a2) (h2 : a0 ≠ a3) (h3 : a1 = 18) (h4 : a2 = 16) (h5 : a3 = 17) : a0 ≤ 15 := by omega
theorem og56 {a0 a1 a2 a3 a4 : Int} (h0 : a0 = a1 + a2) (h1 : a3 = a0 - a4) (h2 : a2 = (-1)) (h3 : a4 = 1) : a3 = a1 - 2 := by omega
theorem og57 {a0 a1 a2 : Int} (h0 : a0 = a1 + a2) (h1 : a2 = (-1)) : a0 = a1 - 1 := oy90 h0 h1
theorem og58 {a0 a1 a2 : Int} (h0 : a0 < a1) (h1 : a0 = a2) (h2 : a0 ≠ a2) (h3 : a1 = 18) (h4 : a2 = 17) : False := oz299 h0 h1 h2 h3 h4
theorem og59 {a0 a1 a2 a3 a4 a5 : Int} (h0 : a0 < a1) (h1 : a0 = a2) (h2 : a3 = a4 - a5) (h3 : ((a0 = 16 ∨ a0 = 17) → (1 : Int) ≤ a4)) (h4 : a1 = 18) (h5 : a2 = 17) (h6 : a5 = 1) : (0 : Int) ≤ a3 := oz300 h0 h1 h2 h3 h4 h5 h6
theorem og60 {a0 a1 a2 a3 : Int} (h0 : a0 < a1) (h1 : a0 = a2) (h2 : a1 = 18) (h3 : a2 = 17) : ((18 ≤ a0 ∨ a0 ≤ 5) → a3 = a3 + 1) ∧ ((a0 = 16 ∨ a0 = 17) → a3 = a3) ∧ ((6 ≤ a0 ∧ a0 ≤ 15) → a3 = a3 - 1) := oz301 h0 h1 h2 h3
theorem og61 {a0 a1 a2 : Int} (h0 : a0 < a1) (h1 : a0 = a2) (h2 : a1 = 18) (h3 : a2 = 17) : a0 = 16 ∨ a0 = 17 := by omega
theorem og62 {a0 a1 a2 : Int} (h0 : a0 < a1) (h1 : a0 = a2) (h2 : a1 = 18) (h3 : a2 = 17) : a0 = 17 := by omega
theorem og63 {a0 a1 a2 a3 : Int} (h0 : a0 < a1) (h1 : a0 = a2) (h2 : ((a0 = 16 ∨ a0 = 17) → (1 : Int) ≤ a3)) (h3 : a1 = 18) (h4 : a2 = 17) : (1 : Int) ≤ a3 := by omega
theorem og64 {a0 a1 : Int} (h0 : a0 ≤ a1) (h1 : a1 = 5) : a0 < 6 := oz302 h0 h1
theorem og65 {a0 a1 a2 a3 a4 : Int} (h0 : a0 ≤ a1) (h1 : a2 = a3 + a4) (h2 : a1 = 5) (h3 : a4 = 1) : ((18 ≤ a0 ∨ a0 ≤ 5) → a2 = a3 + 1) ∧ ((a0 = 16 ∨ a0 = 17) → a2 = a3) ∧ ((6 ≤ a0 ∧ a0 ≤ 15) → a2 = a3 - 1) := oz303 h0 h1 h2 h3
theorem og66 {a0 a1 : Int} (h0 : a0 ≤ a1) (h1 : a1 = 5) : 18 ≤ a0 ∨ a0 ≤ 5 := by omega
theorem og67 {a0 a1 : Int} (h0 : a0 < a1) (h1 : a1 = 18) : ¬ (18 ≤ a0) := by omega
theorem og68 {a0 a1 : Int} (h0 : a0 < a1) (h1 : a1 ≤ a0) (h2 : a1 = 18) : False := oz304 h0 h1 h2
theorem og69 {a0 : Int}  : a0 ≤ a0 := oz122
theorem og70 {a0 : Int} (h0 : a0 = 0) : ((0 : Int) ≤ a0) ∧ (a0 ≤ 200) := oz305 h0
theorem og71 {a0 : Int} (h0 : a0 ≤ 7) : a0 < 24 := oz248 h0
theorem og72 {a0 : Int} (h0 : a0 = 0) : a0 < 6 := oz255 h0
theorem og73 {a0 a1 : Int} (h0 : (0 : Int) ≤ a0) (h1 : a1 = 8) : (-2147483648 : Int) ≤ a1 + a0 := oz8 h0 h1
theorem og74 {a0 a1 : Int} (h0 : a0 ≤ 7) (h1 : a1 = 8) : a1 + a0 ≤ 2147483647 := oz249 h0 h1
theorem og75 {a0 a1 a2 : Int} (h0 : (0 : Int) ≤ a0) (h1 : a1 = a2 + a0) (h2 : a2 = 8) : (0 : Int) ≤ a1 := oz10 h0 h1 h2
theorem og76 {a0 a1 a2 : Int} (h0 : a0 ≤ 7) (h1 : a1 = a2 + a0) (h2 : a2 = 8) : a1 < 24 := oz250 h0 h1 h2
theorem og77 {a0 : Int} (h0 : a0 = 2) : (0 : Int) ≤ a0 := oz256 h0
theorem og78 {a0 : Int} (h0 : a0 = 2) : a0 < 6 := oz257 h0
theorem og79 {a0 : Int} (h0 : a0 = 9) : (0 : Int) ≤ a0 := oz258 h0
theorem og80 {a0 : Int} (h0 : a0 = 9) : a0 < 31 := oz259 h0
theorem og81 {a0 : Int} (h0 : a0 = 3) : (0 : Int) ≤ a0 := oz260 h0
theorem og82 {a0 : Int} (h0 : a0 = 3) : a0 < 6 := oz261 h0
theorem og83 {a0 a1 : Int} (h0 : (0 : Int) ≤ a0) (h1 : a1 = 10) : (-2147483648 : Int) ≤ a1 + a0 := oz251 h0 h1
theorem og84 {a0 a1 : Int} (h0 : a0 ≤ 7) (h1 : a1 = 10) : a1 + a0 ≤ 2147483647 := oz252 h0 h1
theorem og85 {a0 a1 a2 : Int} (h0 : (0 : Int) ≤ a0) (h1 : a1 = a2 + a0) (h2 : a2 = 10) : (0 : Int) ≤ a1 := oz253 h0 h1 h2
theorem og86 {a0 a1 a2 : Int} (h0 : a0 ≤ 7) (h1 : a1 = a2 + a0) (h2 : a2 = 10) : a1 < 31 := oz254 h0 h1 h2
theorem og87 {a0 : Int} (h0 : a0 = 4) : (0 : Int) ≤ a0 := oz262 h0
theorem og88 {a0 : Int} (h0 : a0 = 4) : a0 < 6 := oz263 h0
theorem og89 {a0 : Int} (h0 : a0 = 8) : (0 : Int) ≤ a0 := oz85 h0
theorem og90 {a0 : Int} (h0 : a0 = 8) : a0 < 31 := oz86 h0
theorem og91 {a0 : Int} (h0 : a0 = 5) : (0 : Int) ≤ a0 := oz264 h0
theorem og92 {a0 : Int} (h0 : a0 = 5) : a0 < 6 := oz265 h0
theorem og93 {a0 a1 a2 : Int} (h0 : a0 ≤ a1) (h1 : a0 = a2) : a2 ≤ a1 := oz1318 h0 h1
theorem og94 {a0 a1 : Int} (h0 : a0 < a1) (h1 : a1 ≤ 60) : a0 < 60 := oz266 h0 h1
theorem og95 {a0 a1 a2 : Int} (h0 : a0 < a1) (h1 : a1 = a2) : a0 < a2 := od20 h0 h1
theorem og96 {a0 a1 a2 : Int} (h0 : a0 < a1) (h1 : a2 = a1) : a0 < a2 := oz306 h0 h1
theorem og97 {a0 a1 a2 : Int} (h0 : a0 < a1) (h1 : a1 ≤ 60) (h2 : a2 = 1) : a0 + a2 ≤ 2147483647 := oz307 h0 h1 h2
theorem og98 {a0 a1 a2 : Int} (h0 : (0 : Int) ≤ a0) (h1 : a1 = a0 + a2) (h2 : a2 = 1) : (0 : Int) ≤ a1 := oz14 h0 h1 h2
theorem og99 {a0 a1 a2 a3 a4 : Int} (h0 : a0 = a1) (h1 : a2 = a3 + a4) (h2 : a4 = 1) : (a0 - a2) < (a1 - a3) := oz308 h0 h1 h2
theorem og100 {a0 : Int} (h0 : a0 = 1) : (0 : Int) ≤ a0 := oz246 h0
theorem og101 {a0 : Int} (h0 : a0 = 1) : a0 < 6 := oz247 h0
theorem og102 {a0 a1 : Int} (h0 : a0 = a1) (h1 : (0 : Int) ≤ a0) (h2 : a1 = 0) : a0 = 0 := od48 h0 h1 h2
theorem og103 {a0 : Int} (h0 : (0 : Int) ≤ a0) (h1 : a0 ≤ 7) : ((0 : Int) ≤ a0) ∧ (a0 ≤ 7) := oz181 h0 h1
theorem og104 {a0 a1 : Int} (h0 : a0 ≠ a1) (h1 : (0 : Int) ≤ a0) (h2 : a1 = 0) : ¬ (a0 = 0) := od60 h0 h1 h2
set_option maxRecDepth 100000 in
theorem ke160 {i : Nat → Int32} {a : Nat → List Int32} {q : Nat → List Int64} {r : Nat → Nat} (hI : kI i a q) (hr : kr r) (x1 : Int32) (x2 : Int32) (x3 : Int32) : km 1 160 [.int x1, .int x2, .int x3] (ks i a q r) (kPI (ks i a q r) (fun v => (True) ∧ v = rBoth x1 x2 x3)) := by
  have hG := kG_self kW0 hI hr
  refine km_ofPI (q := (mi_h160, mi_c160)) rfl (by decide) (Nat.le_of_ble_eq_true rfl) ?_
  intro P hP
  refine ft_goL mi_k160 1 1 [(0, .int x1), (1, .int x2), (2, .int x3)] [.int x1] (by rfl) ?_
  by_cases w1 : x1.toInt = 6
  ·
    refine ft_swx mi_k160 (pc := 1) (v := 6) (t := 52) (kj_eq w1 (by decide) : x1 = 6) (by decide +kernel) ?_
    refine ft_goS mi_k160 1 53 [.int x2] (by rfl) ?_
    refine ft_ifS mi_k160 (x2 != 0) 60 56 [] (by rfl) (fun c => ?_) (fun c => ?_)
    ·
      have c2 : x2.toInt ≠ (0 : Int32).toInt := kd_ne c; clear c
      first | refine fo_goS mi_k160 fz160_60_2_65 [.int 1] (by rfl) ?_ | refine fo_goS mi_k160 fz160_57_2_65 [.int 1] (by rfl) ?_
      exact ft_ret mi_k160 (by rfl) (hP 1 ⟨trivial, (show (1 : Int32) = rBoth x1 x2 x3 from (by have k0_ : (0 : Int32).toInt = 0 := (by decide); have k6_ : (6 : Int32).toInt = 6 := (by decide); first | (unfold rBoth; rw [if_pos w1]; all_goals first | (split <;> first | rfl | (exfalso; omega)) | rfl) | (unfold rBoth; (repeat' split) <;> first | rfl | (exfalso; omega))))⟩)
    ·
      have c3 : x2.toInt = (0 : Int32).toInt := kd_neF c; clear c
      refine ft_goS mi_k160 1 57 [.int x3] (by rfl) ?_
      refine ft_ifS mi_k160 (x3 == 0) 64 60 [] (by rfl) (fun c => ?_) (fun c => ?_)
      ·
        have c4 : x3.toInt = (0 : Int32).toInt := kd_eq c; clear c
        first | refine ft_goS mi_k160 1 65 [.int 0] (by rfl) ?_
        exact ft_ret mi_k160 (by rfl) (hP 0 ⟨trivial, (show (0 : Int32) = rBoth x1 x2 x3 from (by have k0_ : (0 : Int32).toInt = 0 := (by decide); have k6_ : (6 : Int32).toInt = 6 := (by decide); first | (unfold rBoth; rw [if_pos w1]; all_goals first | (split <;> first | rfl | (exfalso; omega)) | rfl) | (unfold rBoth; (repeat' split) <;> first | rfl | (exfalso; omega))))⟩)
      ·
        have c5 : x3.toInt ≠ (0 : Int32).toInt := kd_eqF c; clear c
        first | refine fo_goS mi_k160 fz160_60_2_65 [.int 1] (by rfl) ?_ | refine fo_goS mi_k160 fz160_57_2_65 [.int 1] (by rfl) ?_
        exact ft_ret mi_k160 (by rfl) (hP 1 ⟨trivial, (show (1 : Int32) = rBoth x1 x2 x3 from (by have k0_ : (0 : Int32).toInt = 0 := (by decide); have k6_ : (6 : Int32).toInt = 6 := (by decide); first | (unfold rBoth; rw [if_pos w1]; all_goals first | (split <;> first | rfl | (exfalso; omega)) | rfl) | (unfold rBoth; (repeat' split) <;> first | rfl | (exfalso; omega))))⟩)
  by_cases w6 : x1.toInt = 7
  ·
    refine ft_swx mi_k160 (pc := 1) (v := 7) (t := 66) (kj_eq w6 (by decide) : x1 = 7) (by decide +kernel) ?_
    refine ft_goS mi_k160 1 67 [.int x2] (by rfl) ?_
    refine ft_ifS mi_k160 (x2 == 0) 78 70 [] (by rfl) (fun c => ?_) (fun c => ?_)
    ·
      have c7 : x2.toInt = (0 : Int32).toInt := kd_eq c; clear c
      first | refine ft_goS mi_k160 1 79 [.int 0] (by rfl) ?_
      exact ft_ret mi_k160 (by rfl) (hP 0 ⟨trivial, (show (0 : Int32) = rBoth x1 x2 x3 from (by have k0_ : (0 : Int32).toInt = 0 := (by decide); have k6_ : (6 : Int32).toInt = 6 := (by decide); first | (unfold rBoth; rw [if_neg w1, if_pos w6]; all_goals first | (split <;> first | rfl | (exfalso; omega)) | rfl) | (unfold rBoth; (repeat' split) <;> first | rfl | (exfalso; omega))))⟩)
    ·
      have c8 : x2.toInt ≠ (0 : Int32).toInt := kd_eqF c; clear c
      refine ft_goS mi_k160 1 71 [.int x3] (by rfl) ?_
      refine ft_ifS mi_k160 (x3 == 0) 78 74 [] (by rfl) (fun c => ?_) (fun c => ?_)
      ·
        have c9 : x3.toInt = (0 : Int32).toInt := kd_eq c; clear c
        first | refine ft_goS mi_k160 1 79 [.int 0] (by rfl) ?_
        exact ft_ret mi_k160 (by rfl) (hP 0 ⟨trivial, (show (0 : Int32) = rBoth x1 x2 x3 from (by have k0_ : (0 : Int32).toInt = 0 := (by decide); have k6_ : (6 : Int32).toInt = 6 := (by decide); first | (unfold rBoth; rw [if_neg w1, if_pos w6]; all_goals first | (split <;> first | rfl | (exfalso; omega)) | rfl) | (unfold rBoth; (repeat' split) <;> first | rfl | (exfalso; omega))))⟩)
      ·
        have c10 : x3.toInt ≠ (0 : Int32).toInt := kd_eqF c; clear c
        first | refine ft_goS mi_k160 2 79 [.int 1] (by rfl) ?_
        exact ft_ret mi_k160 (by rfl) (hP 1 ⟨trivial, (show (1 : Int32) = rBoth x1 x2 x3 from (by have k0_ : (0 : Int32).toInt = 0 := (by decide); have k6_ : (6 : Int32).toInt = 6 := (by decide); first | (unfold rBoth; rw [if_neg w1, if_pos w6]; all_goals first | (split <;> first | rfl | (exfalso; omega)) | rfl) | (unfold rBoth; (repeat' split) <;> first | rfl | (exfalso; omega))))⟩)
  by_cases w11 : x1.toInt = 8
  ·
    refine ft_swx mi_k160 (pc := 1) (v := 8) (t := 80) (kj_eq w11 (by decide) : x1 = 8) (by decide +kernel) ?_
    refine ft_goS mi_k160 2 82 [.int x3, .int x2] (by rfl) ?_
    refine ft_ifS mi_k160 (decide (x3 ≤ x2)) 89 85 [] (by rfl) (fun c => ?_) (fun c => ?_)
    ·
      have c12 : x3.toInt ≤ x2.toInt := kd_le c; clear c
      first | refine ft_goS mi_k160 1 90 [.int 0] (by rfl) ?_
      exact ft_ret mi_k160 (by rfl) (hP 0 ⟨trivial, (show (0 : Int32) = rBoth x1 x2 x3 from (by have k0_ : (0 : Int32).toInt = 0 := (by decide); have k6_ : (6 : Int32).toInt = 6 := (by decide); first | (unfold rBoth; rw [if_neg w1, if_neg w6, if_pos w11]; all_goals first | (split <;> first | rfl | (exfalso; omega)) | rfl) | (unfold rBoth; (repeat' split) <;> first | rfl | (exfalso; omega))))⟩)
    ·
      have c13 : x2.toInt < x3.toInt := kd_leF c; clear c
      first | refine ft_goS mi_k160 2 90 [.int 1] (by rfl) ?_
      exact ft_ret mi_k160 (by rfl) (hP 1 ⟨trivial, (show (1 : Int32) = rBoth x1 x2 x3 from (by have k0_ : (0 : Int32).toInt = 0 := (by decide); have k6_ : (6 : Int32).toInt = 6 := (by decide); first | (unfold rBoth; rw [if_neg w1, if_neg w6, if_pos w11]; all_goals first | (split <;> first | rfl | (exfalso; omega)) | rfl) | (unfold rBoth; (repeat' split) <;> first | rfl | (exfalso; omega))))⟩)
  by_cases w14 : x1.toInt = 9
  ·
    refine ft_swx mi_k160 (pc := 1) (v := 9) (t := 91) (kj_eq w14 (by decide) : x1 = 9) (by decide +kernel) ?_
    refine ft_goS mi_k160 2 93 [.int x3, .int x2] (by rfl) ?_
    refine ft_ifS mi_k160 (x2 != x3) 100 96 [] (by rfl) (fun c => ?_) (fun c => ?_)
    ·
      have c15 : x2.toInt ≠ x3.toInt := kd_ne c; clear c
      first | refine ft_goS mi_k160 1 101 [.int 0] (by rfl) ?_
      exact ft_ret mi_k160 (by rfl) (hP 0 ⟨trivial, (show (0 : Int32) = rBoth x1 x2 x3 from (by have k0_ : (0 : Int32).toInt = 0 := (by decide); have k6_ : (6 : Int32).toInt = 6 := (by decide); first | (unfold rBoth; rw [if_neg w1, if_neg w6, if_neg w11, if_pos w14]; all_goals first | (split <;> first | rfl | (exfalso; omega)) | rfl) | (unfold rBoth; (repeat' split) <;> first | rfl | (exfalso; omega))))⟩)
    ·
      have c16 : x2.toInt = x3.toInt := kd_neF c; clear c
      first | refine ft_goS mi_k160 2 101 [.int 1] (by rfl) ?_
      exact ft_ret mi_k160 (by rfl) (hP 1 ⟨trivial, (show (1 : Int32) = rBoth x1 x2 x3 from (by have k0_ : (0 : Int32).toInt = 0 := (by decide); have k6_ : (6 : Int32).toInt = 6 := (by decide); first | (unfold rBoth; rw [if_neg w1, if_neg w6, if_neg w11, if_pos w14]; all_goals first | (split <;> first | rfl | (exfalso; omega)) | rfl) | (unfold rBoth; (repeat' split) <;> first | rfl | (exfalso; omega))))⟩)
  by_cases w17 : x1.toInt = 10
  ·
    refine ft_swx mi_k160 (pc := 1) (v := 10) (t := 102) (kj_eq w17 (by decide) : x1 = 10) (by decide +kernel) ?_
    refine ft_goS mi_k160 2 104 [.int x3, .int x2] (by rfl) ?_
    refine ft_ifS mi_k160 (decide (x2 ≤ x3)) 111 107 [] (by rfl) (fun c => ?_) (fun c => ?_)
    ·
      have c18 : x2.toInt ≤ x3.toInt := kd_le c; clear c
      first | refine ft_goS mi_k160 1 112 [.int 0] (by rfl) ?_
      exact ft_ret mi_k160 (by rfl) (hP 0 ⟨trivial, (show (0 : Int32) = rBoth x1 x2 x3 from (by have k0_ : (0 : Int32).toInt = 0 := (by decide); have k6_ : (6 : Int32).toInt = 6 := (by decide); first | (unfold rBoth; rw [if_neg w1, if_neg w6, if_neg w11, if_neg w14, if_pos w17]; all_goals first | (split <;> first | rfl | (exfalso; omega)) | rfl) | (unfold rBoth; (repeat' split) <;> first | rfl | (exfalso; omega))))⟩)
    ·
      have c19 : x3.toInt < x2.toInt := kd_leF c; clear c
      first | refine ft_goS mi_k160 2 112 [.int 1] (by rfl) ?_
      exact ft_ret mi_k160 (by rfl) (hP 1 ⟨trivial, (show (1 : Int32) = rBoth x1 x2 x3 from (by have k0_ : (0 : Int32).toInt = 0 := (by decide); have k6_ : (6 : Int32).toInt = 6 := (by decide); first | (unfold rBoth; rw [if_neg w1, if_neg w6, if_neg w11, if_neg w14, if_pos w17]; all_goals first | (split <;> first | rfl | (exfalso; omega)) | rfl) | (unfold rBoth; (repeat' split) <;> first | rfl | (exfalso; omega))))⟩)
  by_cases w20 : x1.toInt = 11
  ·
    refine ko_eq (x1 := (1, [(0, .int x1), (1, .int x2), (2, .int x3)], [.int 11], (0, 0), ks i a q r)) (by rw [(kj_eq w20 (by decide) : x1 = 11)]) ?_
    have b21 : ((-2147483648 : Int) ≤ x2.toInt) ∧ (x2.toInt ≤ 2147483647) := kd_bd x2
    have b22 : ((-2147483648 : Int) ≤ x3.toInt) ∧ (x3.toInt ≤ 2147483647) := kd_bd x3
    refine ft_goS mi_k160 4 116 [.int (x2 + x3)] (by rfl) ?_
    exact ft_ret mi_k160 (by rfl) (hP (x2 + x3) ⟨trivial, (show (x2 + x3) = rBoth x1 x2 x3 from (by have k0_ : (0 : Int32).toInt = 0 := (by decide); have k6_ : (6 : Int32).toInt = 6 := (by decide); first | (unfold rBoth; rw [if_neg w1, if_neg w6, if_neg w11, if_neg w14, if_neg w17, if_pos w20]; all_goals first | (split <;> first | rfl | (exfalso; omega)) | rfl) | (unfold rBoth; (repeat' split) <;> first | rfl | (exfalso; omega))))⟩)
  by_cases w23 : x1.toInt = 12
  ·
    refine ko_eq (x1 := (1, [(0, .int x1), (1, .int x2), (2, .int x3)], [.int 12], (0, 0), ks i a q r)) (by rw [(kj_eq w23 (by decide) : x1 = 12)]) ?_
    have b24 : ((-2147483648 : Int) ≤ x2.toInt) ∧ (x2.toInt ≤ 2147483647) := kd_bd x2
    have b25 : ((-2147483648 : Int) ≤ x3.toInt) ∧ (x3.toInt ≤ 2147483647) := kd_bd x3
    refine ft_goS mi_k160 4 120 [.int (x2 - x3)] (by rfl) ?_
    exact ft_ret mi_k160 (by rfl) (hP (x2 - x3) ⟨trivial, (show (x2 - x3) = rBoth x1 x2 x3 from (by have k0_ : (0 : Int32).toInt = 0 := (by decide); have k6_ : (6 : Int32).toInt = 6 := (by decide); first | (unfold rBoth; rw [if_neg w1, if_neg w6, if_neg w11, if_neg w14, if_neg w17, if_neg w20, if_pos w23]; all_goals first | (split <;> first | rfl | (exfalso; omega)) | rfl) | (unfold rBoth; (repeat' split) <;> first | rfl | (exfalso; omega))))⟩)
  by_cases w26 : x1.toInt = 13
  ·
    refine ft_swx mi_k160 (pc := 1) (v := 13) (t := 121) (kj_eq w26 (by decide) : x1 = 13) (by decide +kernel) ?_
    refine fo_goS mi_k160 fz160_121_3_124 [.int (x2 * x3)] rfl ?_
    exact ft_ret mi_k160 (by rfl) (hP (x2 * x3) ⟨trivial, (show (x2 * x3) = rBoth x1 x2 x3 from (by have k0_ : (0 : Int32).toInt = 0 := (by decide); have k6_ : (6 : Int32).toInt = 6 := (by decide); first | (unfold rBoth; rw [if_neg w1, if_neg w6, if_neg w11, if_neg w14, if_neg w17, if_neg w20, if_neg w23, if_pos w26]; all_goals first | (split <;> first | rfl | (exfalso; omega)) | rfl) | (unfold rBoth; (repeat' split) <;> first | rfl | (exfalso; omega))))⟩)
  by_cases w27 : x1.toInt = 14
  ·
    refine ft_swx mi_k160 (pc := 1) (v := 14) (t := 125) (kj_eq w27 (by decide) : x1 = 14) (by decide +kernel) ?_
    refine ft_goS mi_k160 1 126 [.int x3] (by rfl) ?_
    refine ft_ifS mi_k160 (x3 != 0) 133 129 [] (by rfl) (fun c => ?_) (fun c => ?_)
    ·
      have c28 : x3.toInt ≠ (0 : Int32).toInt := kd_ne c; clear c
      refine ft_goS mi_k160 2 135 [.int x3, .int x2] (by rfl) ?_
      refine ko_idiv mi_k160.1 (ax := (0, 0, 0, 0, 0)) (mi_k160.2 _ _ (by rfl)) (og0 c28 kog0) ?_
      exact ft_ret mi_k160 (by rfl) (hP (x2 / x3) ⟨trivial, (show (x2 / x3) = rBoth x1 x2 x3 from (by have k0_ : (0 : Int32).toInt = 0 := (by decide); have k6_ : (6 : Int32).toInt = 6 := (by decide); first | (unfold rBoth; rw [if_neg w1, if_neg w6, if_neg w11, if_neg w14, if_neg w17, if_neg w20, if_neg w23, if_neg w26, if_pos w27]; all_goals first | (split <;> first | rfl | (exfalso; omega)) | rfl) | (unfold rBoth; (repeat' split) <;> first | rfl | (exfalso; omega))))⟩)
    ·
      have c29 : x3.toInt = (0 : Int32).toInt := kd_neF c; clear c
      first | refine ft_goS mi_k160 2 136 [.int 0] (by rfl) ?_
      exact ft_ret mi_k160 (by rfl) (hP 0 ⟨trivial, (show (0 : Int32) = rBoth x1 x2 x3 from (by have k0_ : (0 : Int32).toInt = 0 := (by decide); have k6_ : (6 : Int32).toInt = 6 := (by decide); first | (unfold rBoth; rw [if_neg w1, if_neg w6, if_neg w11, if_neg w14, if_neg w17, if_neg w20, if_neg w23, if_neg w26, if_pos w27]; all_goals first | (split <;> first | rfl | (exfalso; omega)) | rfl) | (unfold rBoth; (repeat' split) <;> first | rfl | (exfalso; omega))))⟩)
  refine ko_sw (ls := [(0, .int x1), (1, .int x2), (2, .int x3)]) (r := []) (h := ks i a q r) mi_in160 (v := x1) (i := (.tableswitch 136 6 14 #[51, 65, 79, 90, 101, 112, 116, 120, 124], 51, 0, 0, 0, 0, 0)) (by rfl) rfl (og1 w1 w6 w11 w14 w17 w20 w23 w26 w27) 137 (by rfl) ?_
  refine ft_goS mi_k160 1 138 [.int x3] (by rfl) ?_
  refine ft_ifS mi_k160 (x3 != 0) 145 141 [] (by rfl) (fun c => ?_) (fun c => ?_)
  ·
    have c30 : x3.toInt ≠ (0 : Int32).toInt := kd_ne c; clear c
    refine ft_goS mi_k160 2 147 [.int x3, .int x2] (by rfl) ?_
    refine ko_irem mi_k160.1 (ax := (0, 0, 0, 0, 0)) (mi_k160.2 _ _ (by rfl)) (og0 c30 kog0) ?_
    exact ft_ret mi_k160 (by rfl) (hP (x2 - x2 / x3 * x3) ⟨trivial, (show (x2 - x2 / x3 * x3) = rBoth x1 x2 x3 from (by have k0_ : (0 : Int32).toInt = 0 := (by decide); have k6_ : (6 : Int32).toInt = 6 := (by decide); first | (unfold rBoth; rw [if_neg w1, if_neg w6, if_neg w11, if_neg w14, if_neg w17, if_neg w20, if_neg w23, if_neg w26, if_neg w27]; all_goals first | (split <;> first | rfl | (exfalso; omega)) | rfl) | (unfold rBoth; (repeat' split) <;> first | rfl | (exfalso; omega))))⟩)
  ·
    have c31 : x3.toInt = (0 : Int32).toInt := kd_neF c; clear c
    first | refine ft_goS mi_k160 2 148 [.int 0] (by rfl) ?_
    exact ft_ret mi_k160 (by rfl) (hP 0 ⟨trivial, (show (0 : Int32) = rBoth x1 x2 x3 from (by have k0_ : (0 : Int32).toInt = 0 := (by decide); have k6_ : (6 : Int32).toInt = 6 := (by decide); first | (unfold rBoth; rw [if_neg w1, if_neg w6, if_neg w11, if_neg w14, if_neg w17, if_neg w20, if_neg w23, if_neg w26, if_neg w27]; all_goals first | (split <;> first | rfl | (exfalso; omega)) | rfl) | (unfold rBoth; (repeat' split) <;> first | rfl | (exfalso; omega))))⟩)
noncomputable def yw161_116 : kW := ([], [128], [], [])
noncomputable def yw161_116_L5 : kW := ([], [128], [], [])
set_option maxRecDepth 100000 in
theorem ke161_116 {i : Nat → Int32} {a : Nat → List Int32} {q : Nat → List Int64} {r : Nat → Nat} (hI : kI i a q) (hr : kr r) (x1 : Int32) (x2 : Int32) (hS : kSeg (a 123) x1.toInt x2.toInt) : km 3 161 [.ref 116, .int x1, .int x2] (ks i a q r) (kVI yw161_116 i a q r (fun v i1 a1 q1 r1 => (True) ∧ v = wVal (a 123) (a 129) x1 x2)) := by
  have hG := kG_self yw161_116 hI hr
  refine km_ofI (q := (mi_h161, mi_c161)) rfl (by decide) (Nat.le_of_ble_eq_true rfl) ?_
  intro P hP
  have hs1 : (0 : Int) ≤ x1.toInt := hS.1
  have hs2 : x1.toInt ≤ x2.toInt := hS.2.1
  have hs3 : x2.toInt ≤ 200 := hS.2.2.1
  first | refine fo_goL mi_k161 fz161_0_4_5 [(4, .int x1), (3, .int 0), (0, .ref 116), (1, .int x1), (2, .int x2)] [] (by rfl) ?_ | refine ft_goL mi_k161 4 5 [(4, .int x1), (3, .int 0), (0, .ref 116), (1, .int x1), (2, .int x2)] [] (by rfl) ?_
  have lp4 : ∀ (nz : Nat) (i4 : Nat → Int32) (a4 : Nat → List Int32) (q4 : Nat → List Int64) (r4 : Nat → Nat) (l4_4 : Int32) (l3_4 : Int32), kG yw161_116_L5 i a q r i4 a4 q4 r4 → x1.toInt ≤ l4_4.toInt → ((0 : Int) ≤ l3_4.toInt) ∧ (l3_4.toInt ≤ 200) → l4_4.toInt ≤ x2.toInt → kWk (a4 123) x1.toInt l4_4.toInt l3_4.toInt → (a4 128).take l3_4.toInt.toNat = wRun (a 123) (a 129) x1.toInt.toNat (l4_4.toInt - x1.toInt).toNat → ((x2.toInt - l4_4.toInt)).toNat < nz → ko 3 (mi_h161, mi_c161) P (5, [(4, .int l4_4), (3, .int l3_4), (0, .ref 116), (1, .int x1), (2, .int x2)], [], (0, 0), ks i4 a4 q4 r4) := by
    intro nz
    induction nz with
    | zero =>
      intro _ _ _ _ _ _ _ _ _ _ _ _ hm
      exact absurd hm (Nat.not_lt_zero _)
    | succ nz ih4 =>
      intro i4 a4 q4 r4 l4_4 l3_4 hL4 p4_0 p4_1 p4_2 O4_0 O4_1 hm4
      have hS5 : kSeg (a4 123) x1.toInt x2.toInt := kSeg_cast hS (hL4.fa 123 rfl)
      refine ft_goL mi_k161 2 8 [(4, .int l4_4), (3, .int l3_4), (0, .ref 116), (1, .int x1), (2, .int x2)] [.int x2, .int l4_4] (by rfl) ?_
      refine ft_ifS mi_k161 (decide (x2 ≤ l4_4)) 163 11 [] (by rfl) (fun c => ?_) (fun c => ?_)
      ·
        have c6 : x2.toInt ≤ l4_4.toInt := kd_le c; clear c
        have hG7 := kG_call hG hL4 (by decide +kernel)
        refine fo_goS mi_k161 fz161_163_3_168 [.int 0, .ref 128] rfl ?_
        refine ko_iald3 mi_k161.1 (n := 200) (c := 200) (ax := (0, 0, 0, 0, 0)) (mi_k161.2 _ _ (by rfl)) (by rfl) (ksG128 _ _ _ _) (hG7.I.2.1 128) rfl (og2 kog0) (og3 kog0) ?_
        exact ft_ret mi_k161 (by rfl) (hP ((a4 128).getD (0 : Int32).toNatClampNeg 0) _ _ _ _ hG7 ⟨trivial, (show ((a4 128).getD (0 : Int32).toNatClampNeg 0) = wVal (a 123) (a 129) x1 x2 from (wS_end O4_1 (Int.le_of_eq (kWk_end hS5 O4_0 (og4 c6 p4_2)).symm) (og5 c6 p4_2)))⟩)
      ·
        have c8 : l4_4.toInt < x2.toInt := kd_leF c; clear c
        refine fo_goS mi_k161 fz161_11_3_17 [.int l4_4, .ref 123] rfl ?_
        refine ko_iald3 mi_k161.1 (n := 200) (c := 200) (ax := (0, 0, 0, 0, 0)) (mi_k161.2 _ _ (by rfl)) (by rfl) (ksG123 _ _ _ _) (hL4.I.2.1 123) rfl (og6 hs1 p4_0) (og7 c8 hs3) ?_
        have wf9 : ((0 : Int) ≤ ((a4 123).getD l4_4.toNatClampNeg 0).toInt) ∧ (((((a4 123).getD l4_4.toNatClampNeg 0).toInt = 16 ∨ ((a4 123).getD l4_4.toNatClampNeg 0).toInt = 17) → (1 : Int) ≤ l3_4.toInt)) ∧ (((6 ≤ ((a4 123).getD l4_4.toNatClampNeg 0).toInt ∧ ((a4 123).getD l4_4.toNatClampNeg 0).toInt ≤ 15) → (2 : Int) ≤ l3_4.toInt)) ∧ (l3_4.toInt ≤ l4_4.toInt) := kWk_facts hS5 O4_0 rfl (og8 c8)
        refine fo_goL mi_k161 fz161_18_3_24 [(5, .int ((a4 123).getD l4_4.toNatClampNeg 0)), (4, .int l4_4), (3, .int l3_4), (0, .ref 116), (1, .int x1), (2, .int x2)] [.int 18, .int ((a4 123).getD l4_4.toNatClampNeg 0)] rfl ?_
        refine ft_ifS mi_k161 (decide (18 ≤ ((a4 123).getD l4_4.toNatClampNeg 0))) 33 27 [] (by rfl) (fun c => ?_) (fun c => ?_)
        ·
          have c10 : (18 : Int32).toInt ≤ ((a4 123).getD l4_4.toNatClampNeg 0).toInt := kd_le c; clear c
          have s11 : (l3_4 + 1).toInt = l3_4.toInt + (1 : Int32).toInt := kd_add (og9 p4_1.1 kog1) (og10 p4_1.2 kog1)
          refine fo_goL mi_k161 fz161_33_6_45 [(3, .int (l3_4 + 1)), (5, .int ((a4 123).getD l4_4.toNatClampNeg 0)), (4, .int l4_4), (0, .ref 116), (1, .int x1), (2, .int x2)] [.int 18, .int ((a4 123).getD l4_4.toNatClampNeg 0), .int l3_4, .ref 128] rfl ?_
          refine ft_ifS mi_k161 (decide (((a4 123).getD l4_4.toNatClampNeg 0) < 18)) 56 48 [.int l3_4, .ref 128] (by rfl) (fun c => ?_) (fun c => ?_)
          ·
            have c12 : ((a4 123).getD l4_4.toNatClampNeg 0).toInt < (18 : Int32).toInt := kd_lt c; clear c
            exact (og11 c10 c12 kog18).elim
          ·
            have c13 : (18 : Int32).toInt ≤ ((a4 123).getD l4_4.toNatClampNeg 0).toInt := kd_ltF c; clear c
            have b14 : ((-2147483648 : Int) ≤ ((a4 123).getD l4_4.toNatClampNeg 0).toInt) ∧ (((a4 123).getD l4_4.toNatClampNeg 0).toInt ≤ 2147483647) := kd_bd ((a4 123).getD l4_4.toNatClampNeg 0)
            have s15 : (((a4 123).getD l4_4.toNatClampNeg 0) - 18).toInt = ((a4 123).getD l4_4.toNatClampNeg 0).toInt - (18 : Int32).toInt := kd_sub (og12 c10 kog18) (og13 b14.2 kog18)
            first | refine fo_goS mi_k161 fz161_48_4_63 [.int (((a4 123).getD l4_4.toNatClampNeg 0) - 18), .int l3_4, .ref 128] (by rfl) ?_ | refine ft_goS mi_k161 4 63 [.int (((a4 123).getD l4_4.toNatClampNeg 0) - 18), .int l3_4, .ref 128] (by rfl) ?_
            refine ko_iast3 mi_k161.1 (n := 200) (c := 200) (ax := (0, 0, 0, 0, 0)) (mi_k161.2 _ _ (by rfl)) (by rfl) (ksG128 _ _ _ _) (ksA128 _ _ _ _) (hL4.I.2.1 128) rfl (og14 p4_1.1) (og15 c8 hs3 wf9.2.2.2) ?_
            intro a16 ea16 fa16
            have hJ16 := kG_a3 hL4 128 rfl ea16 fa16 (kd_bd _)
            have s17 : (l4_4 + 1).toInt = l4_4.toInt + (1 : Int32).toInt := kd_add (og16 hs1 p4_0 kog1) (og17 c8 hs3 kog1)
            first | refine fo_goL mi_k161 fz161_1_3_5 [(4, .int (l4_4 + 1)), (3, .int (l3_4 + 1)), (5, .int ((a4 123).getD l4_4.toNatClampNeg 0)), (0, .ref 116), (1, .int x1), (2, .int x2)] [] (by rfl) ?_ | refine fo_goL mi_k161 fz161_64_3_5 [(4, .int (l4_4 + 1)), (3, .int (l3_4 + 1)), (5, .int ((a4 123).getD l4_4.toNatClampNeg 0)), (0, .ref 116), (1, .int x1), (2, .int x2)] [] (by rfl) ?_ | refine fo_goL mi_k161 fz161_124_3_5 [(4, .int (l4_4 + 1)), (3, .int (l3_4 + 1)), (5, .int ((a4 123).getD l4_4.toNatClampNeg 0)), (0, .ref 116), (1, .int x1), (2, .int x2)] [] (by rfl) ?_ | refine ft_goL mi_k161 3 5 [(4, .int (l4_4 + 1)), (3, .int (l3_4 + 1)), (5, .int ((a4 123).getD l4_4.toNatClampNeg 0)), (0, .ref 116), (1, .int x1), (2, .int x2)] [] (by rfl) ?_
            refine ko_perm [(4, .int (l4_4 + 1)), (3, .int (l3_4 + 1)), (0, .ref 116), (1, .int x1), (2, .int x2)] (List.forall_mem_cons.mpr ⟨(List.Mem.head _), (List.forall_mem_cons.mpr ⟨(List.Mem.tail _ (List.Mem.head _)), (List.forall_mem_cons.mpr ⟨(List.Mem.tail _ (List.Mem.tail _ (List.Mem.tail _ (List.Mem.head _)))), (List.forall_mem_cons.mpr ⟨(List.Mem.tail _ (List.Mem.tail _ (List.Mem.tail _ (List.Mem.tail _ (List.Mem.head _))))), (List.forall_mem_cons.mpr ⟨(List.Mem.tail _ (List.Mem.tail _ (List.Mem.tail _ (List.Mem.tail _ (List.Mem.tail _ (List.Mem.head _)))))), (fun _ h => absurd h List.not_mem_nil)⟩)⟩)⟩)⟩)⟩) ?_
            exact ih4 _ _ _ _ _ _ hJ16 (og18 p4_0 s17 kog1) (og19 c8 hs3 p4_1.1 s11 wf9.2.2.2 kog1) (og20 c8 s17 kog1) (kWk_cast (kWk_next hS5 O4_0 rfl (og8 c8) (og22 s17 kog1) (og21 c10 s11 kog18 kog1)) (fa16 123 (by decide))) (wS_push (c := ((a4 123).getD l4_4.toNatClampNeg 0)) O4_1 (hL4.I.2.1 128) (og14 p4_1.1) (og15 c8 hs3 wf9.2.2.2) (og14 hs1) (og23 p4_0) (congrArg (fun z : List Int32 => z.getD l4_4.toNatClampNeg 0) (hL4.fa 123 rfl)) (og25 c10 kog18) (if_pos (og26 c10 kog18)).symm (ea16) (og22 s11 kog1) (og22 s17 kog1)) (kj_meas (og27 s17 kog1) (og28 c8) hm4)
        ·
          have c18 : ((a4 123).getD l4_4.toNatClampNeg 0).toInt < (18 : Int32).toInt := kd_leF c; clear c
          refine ft_goS mi_k161 2 30 [.int 5, .int ((a4 123).getD l4_4.toNatClampNeg 0)] (by rfl) ?_
          refine ft_ifS mi_k161 (decide (5 < ((a4 123).getD l4_4.toNatClampNeg 0))) 67 33 [] (by rfl) (fun c => ?_) (fun c => ?_)
          ·
            have c19 : (5 : Int32).toInt < ((a4 123).getD l4_4.toNatClampNeg 0).toInt := kd_lt c; clear c
            refine ft_goS mi_k161 2 71 [.int 16, .int ((a4 123).getD l4_4.toNatClampNeg 0)] (by rfl) ?_
            refine ft_ifS mi_k161 (((a4 123).getD l4_4.toNatClampNeg 0) == 16) 81 74 [] (by rfl) (fun c => ?_) (fun c => ?_)
            ·
              have c20 : ((a4 123).getD l4_4.toNatClampNeg 0).toInt = (16 : Int32).toInt := kd_eq c; clear c
              have s21 : (l3_4 - 1).toInt = l3_4.toInt - (1 : Int32).toInt := kd_sub (og29 p4_1.1 kog1) (og30 p4_1.2 kog1)
              refine fo_goS mi_k161 fz161_81_7_92 [.int 17, .int ((a4 123).getD l4_4.toNatClampNeg 0), .int (l3_4 - 1), .ref 128] rfl ?_
              refine ft_ifS mi_k161 (((a4 123).getD l4_4.toNatClampNeg 0) != 17) 107 95 [.int (l3_4 - 1), .ref 128] (by rfl) (fun c => ?_) (fun c => ?_)
              ·
                have c22 : ((a4 123).getD l4_4.toNatClampNeg 0).toInt ≠ (17 : Int32).toInt := kd_ne c; clear c
                refine fo_goS mi_k161 fz161_107_5_114 [.int (l3_4 - 1), .ref 128, .int (l3_4 - 1), .ref 128] rfl ?_
                refine ko_iald3 mi_k161.1 (n := 200) (c := 200) (ax := (0, 0, 0, 0, 0)) (mi_k161.2 _ _ (by rfl)) (by rfl) (ksG128 _ _ _ _) (hL4.I.2.1 128) rfl (og31 c18 c20 s21 wf9.2.1 kog18 kog16 kog1) (og32 p4_1.2 s21 kog1) ?_
                refine ft_ifS mi_k161 (((a4 128).getD (l3_4 - 1).toNatClampNeg 0) != 0) 122 118 [.int (l3_4 - 1), .ref 128] (by rfl) (fun c => ?_) (fun c => ?_)
                ·
                  have c23 : ((a4 128).getD (l3_4 - 1).toNatClampNeg 0).toInt ≠ (0 : Int32).toInt := kd_ne c; clear c
                  first | refine ft_goS mi_k161 1 123 [.int 0, .int (l3_4 - 1), .ref 128] (by rfl) ?_
                  refine ko_iast3 mi_k161.1 (n := 200) (c := 200) (ax := (0, 0, 0, 0, 0)) (mi_k161.2 _ _ (by rfl)) (by rfl) (ksG128 _ _ _ _) (ksA128 _ _ _ _) (hL4.I.2.1 128) rfl (og31 c18 c20 s21 wf9.2.1 kog18 kog16 kog1) (og32 p4_1.2 s21 kog1) ?_
                  intro a24 ea24 fa24
                  have hJ24 := kG_a3 hL4 128 rfl ea24 fa24 (kd_bd _)
                  have s25 : (l4_4 + 1).toInt = l4_4.toInt + (1 : Int32).toInt := kd_add (og16 hs1 p4_0 kog1) (og17 c8 hs3 kog1)
                  first | refine fo_goL mi_k161 fz161_1_3_5 [(4, .int (l4_4 + 1)), (5, .int ((a4 123).getD l4_4.toNatClampNeg 0)), (3, .int l3_4), (0, .ref 116), (1, .int x1), (2, .int x2)] [] (by rfl) ?_ | refine fo_goL mi_k161 fz161_64_3_5 [(4, .int (l4_4 + 1)), (5, .int ((a4 123).getD l4_4.toNatClampNeg 0)), (3, .int l3_4), (0, .ref 116), (1, .int x1), (2, .int x2)] [] (by rfl) ?_ | refine fo_goL mi_k161 fz161_124_3_5 [(4, .int (l4_4 + 1)), (5, .int ((a4 123).getD l4_4.toNatClampNeg 0)), (3, .int l3_4), (0, .ref 116), (1, .int x1), (2, .int x2)] [] (by rfl) ?_ | refine ft_goL mi_k161 3 5 [(4, .int (l4_4 + 1)), (5, .int ((a4 123).getD l4_4.toNatClampNeg 0)), (3, .int l3_4), (0, .ref 116), (1, .int x1), (2, .int x2)] [] (by rfl) ?_
                  refine ko_perm [(4, .int (l4_4 + 1)), (3, .int l3_4), (0, .ref 116), (1, .int x1), (2, .int x2)] (List.forall_mem_cons.mpr ⟨(List.Mem.head _), (List.forall_mem_cons.mpr ⟨(List.Mem.tail _ (List.Mem.tail _ (List.Mem.head _))), (List.forall_mem_cons.mpr ⟨(List.Mem.tail _ (List.Mem.tail _ (List.Mem.tail _ (List.Mem.head _)))), (List.forall_mem_cons.mpr ⟨(List.Mem.tail _ (List.Mem.tail _ (List.Mem.tail _ (List.Mem.tail _ (List.Mem.head _))))), (List.forall_mem_cons.mpr ⟨(List.Mem.tail _ (List.Mem.tail _ (List.Mem.tail _ (List.Mem.tail _ (List.Mem.tail _ (List.Mem.head _)))))), (fun _ h => absurd h List.not_mem_nil)⟩)⟩)⟩)⟩)⟩) ?_
                  exact ih4 _ _ _ _ _ _ hJ24 (og18 p4_0 s25 kog1) (og33 p4_1.1 p4_1.2) (og20 c8 s25 kog1) (kWk_cast (kWk_next hS5 O4_0 rfl (og8 c8) (og22 s25 kog1) (og34 c18 c20 kog18 kog16)) (fa24 123 (by decide))) (wS_un (c := ((a4 123).getD l4_4.toNatClampNeg 0)) (y := (l3_4 - 1)) O4_1 (hL4.I.2.1 128) (og38 c18 c20 wf9.2.1 kog18 kog16) (og24 p4_1.2) (og14 hs1) (og23 p4_0) (congrArg (fun z : List Int32 => z.getD l4_4.toNatClampNeg 0) (hL4.fa 123 rfl)) (og35 c20 kog16) (og39 s21 kog1) ((if_neg (og36 c20 kog16)).trans (if_neg (og37 c23 kog0))).symm (ea24) og40 (og22 s25 kog1)) (kj_meas (og27 s25 kog1) (og28 c8) hm4)
                ·
                  have c26 : ((a4 128).getD (l3_4 - 1).toNatClampNeg 0).toInt = (0 : Int32).toInt := kd_neF c; clear c
                  first | refine fo_goS mi_k161 fz161_103_2_123 [.int 1, .int (l3_4 - 1), .ref 128] (by rfl) ?_ | refine fo_goS mi_k161 fz161_118_2_123 [.int 1, .int (l3_4 - 1), .ref 128] (by rfl) ?_ | refine fo_goS mi_k161 fz161_115_2_123 [.int 1, .int (l3_4 - 1), .ref 128] (by rfl) ?_
                  refine ko_iast3 mi_k161.1 (n := 200) (c := 200) (ax := (0, 0, 0, 0, 0)) (mi_k161.2 _ _ (by rfl)) (by rfl) (ksG128 _ _ _ _) (ksA128 _ _ _ _) (hL4.I.2.1 128) rfl (og31 c18 c20 s21 wf9.2.1 kog18 kog16 kog1) (og32 p4_1.2 s21 kog1) ?_
                  intro a27 ea27 fa27
                  have hJ27 := kG_a3 hL4 128 rfl ea27 fa27 (kd_bd _)
                  have s28 : (l4_4 + 1).toInt = l4_4.toInt + (1 : Int32).toInt := kd_add (og16 hs1 p4_0 kog1) (og17 c8 hs3 kog1)
                  first | refine fo_goL mi_k161 fz161_1_3_5 [(4, .int (l4_4 + 1)), (5, .int ((a4 123).getD l4_4.toNatClampNeg 0)), (3, .int l3_4), (0, .ref 116), (1, .int x1), (2, .int x2)] [] (by rfl) ?_ | refine fo_goL mi_k161 fz161_64_3_5 [(4, .int (l4_4 + 1)), (5, .int ((a4 123).getD l4_4.toNatClampNeg 0)), (3, .int l3_4), (0, .ref 116), (1, .int x1), (2, .int x2)] [] (by rfl) ?_ | refine fo_goL mi_k161 fz161_124_3_5 [(4, .int (l4_4 + 1)), (5, .int ((a4 123).getD l4_4.toNatClampNeg 0)), (3, .int l3_4), (0, .ref 116), (1, .int x1), (2, .int x2)] [] (by rfl) ?_ | refine ft_goL mi_k161 3 5 [(4, .int (l4_4 + 1)), (5, .int ((a4 123).getD l4_4.toNatClampNeg 0)), (3, .int l3_4), (0, .ref 116), (1, .int x1), (2, .int x2)] [] (by rfl) ?_
                  refine ko_perm [(4, .int (l4_4 + 1)), (3, .int l3_4), (0, .ref 116), (1, .int x1), (2, .int x2)] (List.forall_mem_cons.mpr ⟨(List.Mem.head _), (List.forall_mem_cons.mpr ⟨(List.Mem.tail _ (List.Mem.tail _ (List.Mem.head _))), (List.forall_mem_cons.mpr ⟨(List.Mem.tail _ (List.Mem.tail _ (List.Mem.tail _ (List.Mem.head _)))), (List.forall_mem_cons.mpr ⟨(List.Mem.tail _ (List.Mem.tail _ (List.Mem.tail _ (List.Mem.tail _ (List.Mem.head _))))), (List.forall_mem_cons.mpr ⟨(List.Mem.tail _ (List.Mem.tail _ (List.Mem.tail _ (List.Mem.tail _ (List.Mem.tail _ (List.Mem.head _)))))), (fun _ h => absurd h List.not_mem_nil)⟩)⟩)⟩)⟩)⟩) ?_
                  exact ih4 _ _ _ _ _ _ hJ27 (og18 p4_0 s28 kog1) (og33 p4_1.1 p4_1.2) (og20 c8 s28 kog1) (kWk_cast (kWk_next hS5 O4_0 rfl (og8 c8) (og22 s28 kog1) (og34 c18 c20 kog18 kog16)) (fa27 123 (by decide))) (wS_un (c := ((a4 123).getD l4_4.toNatClampNeg 0)) (y := (l3_4 - 1)) O4_1 (hL4.I.2.1 128) (og38 c18 c20 wf9.2.1 kog18 kog16) (og24 p4_1.2) (og14 hs1) (og23 p4_0) (congrArg (fun z : List Int32 => z.getD l4_4.toNatClampNeg 0) (hL4.fa 123 rfl)) (og35 c20 kog16) (og39 s21 kog1) ((if_neg (og36 c20 kog16)).trans (if_pos (og41 c26 kog0))).symm (ea27) og40 (og22 s28 kog1)) (kj_meas (og27 s28 kog1) (og28 c8) hm4)
              ·
                have c29 : ((a4 123).getD l4_4.toNatClampNeg 0).toInt = (17 : Int32).toInt := kd_neF c; clear c
                exact (og42 c20 c29 kog16 kog17).elim
            ·
              have c30 : ((a4 123).getD l4_4.toNatClampNeg 0).toInt ≠ (16 : Int32).toInt := kd_eqF c; clear c
              refine ft_goS mi_k161 2 78 [.int 17, .int ((a4 123).getD l4_4.toNatClampNeg 0)] (by rfl) ?_
              refine ft_ifS mi_k161 (((a4 123).getD l4_4.toNatClampNeg 0) != 17) 127 81 [] (by rfl) (fun c => ?_) (fun c => ?_)
              ·
                have c31 : ((a4 123).getD l4_4.toNatClampNeg 0).toInt ≠ (17 : Int32).toInt := kd_ne c; clear c
                have s32 : (l3_4 + (-1)).toInt = l3_4.toInt + ((-1) : Int32).toInt := kd_add (og43 p4_1.1 kogm1) (og44 p4_1.2 kogm1)
                have s33 : ((l3_4 + (-1)) - 1).toInt = (l3_4 + (-1)).toInt - (1 : Int32).toInt := kd_sub (og45 p4_1.1 s32 kogm1 kog1) (og46 p4_1.2 s32 kogm1 kog1)
                refine fo_goL mi_k161 fz161_127_12_146 [(3, .int (l3_4 + (-1))), (5, .int ((a4 123).getD l4_4.toNatClampNeg 0)), (4, .int l4_4), (0, .ref 116), (1, .int x1), (2, .int x2)] [.int ((l3_4 + (-1)) - 1), .ref 128, .int ((a4 123).getD l4_4.toNatClampNeg 0), .int ((l3_4 + (-1)) - 1), .ref 128] rfl ?_
                refine ko_iald3 mi_k161.1 (n := 200) (c := 200) (ax := (0, 0, 0, 0, 0)) (mi_k161.2 _ _ (by rfl)) (by rfl) (ksG128 _ _ _ _) (hL4.I.2.1 128) rfl (og47 c18 c19 c30 c31 s32 s33 wf9.2.2.1 kog18 kog5 kog16 kog17 kogm1 kog1) (og48 p4_1.2 s32 s33 kogm1 kog1) ?_
                refine fo_goS mi_k161 fz161_147_3_152 [.int (l3_4 + (-1)), .ref 128, .int ((a4 128).getD ((l3_4 + (-1)) - 1).toNatClampNeg 0), .int ((a4 123).getD l4_4.toNatClampNeg 0), .int ((l3_4 + (-1)) - 1), .ref 128] rfl ?_
                refine ko_iald3 mi_k161.1 (n := 200) (c := 200) (ax := (0, 0, 0, 0, 0)) (mi_k161.2 _ _ (by rfl)) (by rfl) (ksG128 _ _ _ _) (hL4.I.2.1 128) rfl (og49 c18 c19 s32 wf9.2.1 wf9.2.2.1 kog18 kog5 kogm1) (og50 p4_1.2 s32 kogm1) ?_
                refine ko_callPI mi_k161.1 (pc := 153) (ls := [(3, .int (l3_4 + (-1))), (5, .int ((a4 123).getD l4_4.toNatClampNeg 0)), (4, .int l4_4), (0, .ref 116), (1, .int x1), (2, .int x2)]) (st := [.int ((a4 128).getD (l3_4 + (-1)).toNatClampNeg 0), .int ((a4 128).getD ((l3_4 + (-1)) - 1).toNatClampNeg 0), .int ((a4 123).getD l4_4.toNatClampNeg 0), .int ((l3_4 + (-1)) - 1), .ref 128]) (h := ks i4 a4 q4 r4) (i := (.invokestatic 221, 3, 160, 0, 9, 0, 421)) (mi_k161.2 _ _ (by rfl)) (ft_invS mi_pq160 (by rfl)) (cy := mi_c160) mi_pq160 rfl (ke160 hL4.I hL4.R ((a4 123).getD l4_4.toNatClampNeg 0) ((a4 128).getD ((l3_4 + (-1)) - 1).toNatClampNeg 0) ((a4 128).getD (l3_4 + (-1)).toNatClampNeg 0)) (by decide) ?_
                intro vg34 hg34
                obtain ⟨hg34, og34⟩ := hg34
                have q35 : vg34 = rBoth ((a4 123).getD l4_4.toNatClampNeg 0) ((a4 128).getD ((l3_4 + (-1)) - 1).toNatClampNeg 0) ((a4 128).getD (l3_4 + (-1)).toNatClampNeg 0) := og34
                refine ko_iast3 mi_k161.1 (n := 200) (c := 200) (ax := (0, 0, 0, 0, 0)) (mi_k161.2 _ _ (by rfl)) (by rfl) (ksG128 _ _ _ _) (ksA128 _ _ _ _) (hL4.I.2.1 128) rfl (og47 c18 c19 c30 c31 s32 s33 wf9.2.2.1 kog18 kog5 kog16 kog17 kogm1 kog1) (og48 p4_1.2 s32 s33 kogm1 kog1) ?_
                intro a36 ea36 fa36
                have hJ36 := kG_a3 hL4 128 rfl ea36 fa36 (kd_bd _)
                have s37 : (l4_4 + 1).toInt = l4_4.toInt + (1 : Int32).toInt := kd_add (og16 hs1 p4_0 kog1) (og17 c8 hs3 kog1)
                first | refine ft_goL mi_k161 2 5 [(4, .int (l4_4 + 1)), (3, .int (l3_4 + (-1))), (5, .int ((a4 123).getD l4_4.toNatClampNeg 0)), (0, .ref 116), (1, .int x1), (2, .int x2)] [] (by rfl) ?_
                refine ko_perm [(4, .int (l4_4 + 1)), (3, .int (l3_4 + (-1))), (0, .ref 116), (1, .int x1), (2, .int x2)] (List.forall_mem_cons.mpr ⟨(List.Mem.head _), (List.forall_mem_cons.mpr ⟨(List.Mem.tail _ (List.Mem.head _)), (List.forall_mem_cons.mpr ⟨(List.Mem.tail _ (List.Mem.tail _ (List.Mem.tail _ (List.Mem.head _)))), (List.forall_mem_cons.mpr ⟨(List.Mem.tail _ (List.Mem.tail _ (List.Mem.tail _ (List.Mem.tail _ (List.Mem.head _))))), (List.forall_mem_cons.mpr ⟨(List.Mem.tail _ (List.Mem.tail _ (List.Mem.tail _ (List.Mem.tail _ (List.Mem.tail _ (List.Mem.head _)))))), (fun _ h => absurd h List.not_mem_nil)⟩)⟩)⟩)⟩)⟩) ?_
                exact ih4 _ _ _ _ _ _ hJ36 (og18 p4_0 s37 kog1) (og51 c18 c19 p4_1.2 s32 wf9.2.1 wf9.2.2.1 kog18 kog5 kogm1) (og20 c8 s37 kog1) (kWk_cast (kWk_next hS5 O4_0 rfl (og8 c8) (og22 s37 kog1) (og52 c18 c19 c30 c31 s32 kog18 kog5 kog16 kog17 kogm1)) (fa36 123 (by decide))) (wS_bin (c := ((a4 123).getD l4_4.toNatClampNeg 0)) (y := ((l3_4 + (-1)) - 1)) (z := (l3_4 + (-1))) O4_1 (hL4.I.2.1 128) (og53 c18 c19 c30 c31 wf9.2.2.1 kog18 kog5 kog16 kog17) (og24 p4_1.2) (og14 hs1) (og23 p4_0) (congrArg (fun z : List Int32 => z.getD l4_4.toNatClampNeg 0) (hL4.fa 123 rfl)) (og54 c19 kog5) (og55 c18 c30 c31 kog18 kog16 kog17) (og56 s32 s33 kogm1 kog1) (og57 s32 kogm1) og34 (ea36) (og57 s32 kogm1) (og22 s37 kog1)) (kj_meas (og27 s37 kog1) (og28 c8) hm4)
              ·
                have c38 : ((a4 123).getD l4_4.toNatClampNeg 0).toInt = (17 : Int32).toInt := kd_neF c; clear c
                have s39 : (l3_4 - 1).toInt = l3_4.toInt - (1 : Int32).toInt := kd_sub (og29 p4_1.1 kog1) (og30 p4_1.2 kog1)
                refine fo_goS mi_k161 fz161_81_7_92 [.int 17, .int ((a4 123).getD l4_4.toNatClampNeg 0), .int (l3_4 - 1), .ref 128] rfl ?_
                refine ft_ifS mi_k161 (((a4 123).getD l4_4.toNatClampNeg 0) != 17) 107 95 [.int (l3_4 - 1), .ref 128] (by rfl) (fun c => ?_) (fun c => ?_)
                ·
                  have c40 : ((a4 123).getD l4_4.toNatClampNeg 0).toInt ≠ (17 : Int32).toInt := kd_ne c; clear c
                  exact (og58 c18 c38 c40 kog18 kog17).elim
                ·
                  have c41 : ((a4 123).getD l4_4.toNatClampNeg 0).toInt = (17 : Int32).toInt := kd_neF c; clear c
                  refine fo_goS mi_k161 fz161_95_5_102 [.int (l3_4 - 1), .ref 128, .int (l3_4 - 1), .ref 128] rfl ?_
                  refine ko_iald3 mi_k161.1 (n := 200) (c := 200) (ax := (0, 0, 0, 0, 0)) (mi_k161.2 _ _ (by rfl)) (by rfl) (ksG128 _ _ _ _) (hL4.I.2.1 128) rfl (og59 c18 c38 s39 wf9.2.1 kog18 kog17 kog1) (og32 p4_1.2 s39 kog1) ?_
                  first | refine fo_goS mi_k161 fz161_103_2_123 [.int (-((a4 128).getD (l3_4 - 1).toNatClampNeg 0)), .int (l3_4 - 1), .ref 128] (by rfl) ?_ | refine fo_goS mi_k161 fz161_118_2_123 [.int (-((a4 128).getD (l3_4 - 1).toNatClampNeg 0)), .int (l3_4 - 1), .ref 128] (by rfl) ?_ | refine fo_goS mi_k161 fz161_115_2_123 [.int (-((a4 128).getD (l3_4 - 1).toNatClampNeg 0)), .int (l3_4 - 1), .ref 128] (by rfl) ?_
                  refine ko_iast3 mi_k161.1 (n := 200) (c := 200) (ax := (0, 0, 0, 0, 0)) (mi_k161.2 _ _ (by rfl)) (by rfl) (ksG128 _ _ _ _) (ksA128 _ _ _ _) (hL4.I.2.1 128) rfl (og59 c18 c38 s39 wf9.2.1 kog18 kog17 kog1) (og32 p4_1.2 s39 kog1) ?_
                  intro a42 ea42 fa42
                  have hJ42 := kG_a3 hL4 128 rfl ea42 fa42 (kd_bd _)
                  have s43 : (l4_4 + 1).toInt = l4_4.toInt + (1 : Int32).toInt := kd_add (og16 hs1 p4_0 kog1) (og17 c8 hs3 kog1)
                  first | refine fo_goL mi_k161 fz161_1_3_5 [(4, .int (l4_4 + 1)), (5, .int ((a4 123).getD l4_4.toNatClampNeg 0)), (3, .int l3_4), (0, .ref 116), (1, .int x1), (2, .int x2)] [] (by rfl) ?_ | refine fo_goL mi_k161 fz161_64_3_5 [(4, .int (l4_4 + 1)), (5, .int ((a4 123).getD l4_4.toNatClampNeg 0)), (3, .int l3_4), (0, .ref 116), (1, .int x1), (2, .int x2)] [] (by rfl) ?_ | refine fo_goL mi_k161 fz161_124_3_5 [(4, .int (l4_4 + 1)), (5, .int ((a4 123).getD l4_4.toNatClampNeg 0)), (3, .int l3_4), (0, .ref 116), (1, .int x1), (2, .int x2)] [] (by rfl) ?_ | refine ft_goL mi_k161 3 5 [(4, .int (l4_4 + 1)), (5, .int ((a4 123).getD l4_4.toNatClampNeg 0)), (3, .int l3_4), (0, .ref 116), (1, .int x1), (2, .int x2)] [] (by rfl) ?_
                  refine ko_perm [(4, .int (l4_4 + 1)), (3, .int l3_4), (0, .ref 116), (1, .int x1), (2, .int x2)] (List.forall_mem_cons.mpr ⟨(List.Mem.head _), (List.forall_mem_cons.mpr ⟨(List.Mem.tail _ (List.Mem.tail _ (List.Mem.head _))), (List.forall_mem_cons.mpr ⟨(List.Mem.tail _ (List.Mem.tail _ (List.Mem.tail _ (List.Mem.head _)))), (List.forall_mem_cons.mpr ⟨(List.Mem.tail _ (List.Mem.tail _ (List.Mem.tail _ (List.Mem.tail _ (List.Mem.head _))))), (List.forall_mem_cons.mpr ⟨(List.Mem.tail _ (List.Mem.tail _ (List.Mem.tail _ (List.Mem.tail _ (List.Mem.tail _ (List.Mem.head _)))))), (fun _ h => absurd h List.not_mem_nil)⟩)⟩)⟩)⟩)⟩) ?_
                  exact ih4 _ _ _ _ _ _ hJ42 (og18 p4_0 s43 kog1) (og33 p4_1.1 p4_1.2) (og20 c8 s43 kog1) (kWk_cast (kWk_next hS5 O4_0 rfl (og8 c8) (og22 s43 kog1) (og60 c18 c38 kog18 kog17)) (fa42 123 (by decide))) (wS_un (c := ((a4 123).getD l4_4.toNatClampNeg 0)) (y := (l3_4 - 1)) O4_1 (hL4.I.2.1 128) (og63 c18 c38 wf9.2.1 kog18 kog17) (og24 p4_1.2) (og14 hs1) (og23 p4_0) (congrArg (fun z : List Int32 => z.getD l4_4.toNatClampNeg 0) (hL4.fa 123 rfl)) (og61 c18 c38 kog18 kog17) (og39 s39 kog1) (if_pos (og62 c18 c38 kog18 kog17)).symm (ea42) og40 (og22 s43 kog1)) (kj_meas (og27 s43 kog1) (og28 c8) hm4)
          ·
            have c44 : ((a4 123).getD l4_4.toNatClampNeg 0).toInt ≤ (5 : Int32).toInt := kd_ltF c; clear c
            have s45 : (l3_4 + 1).toInt = l3_4.toInt + (1 : Int32).toInt := kd_add (og9 p4_1.1 kog1) (og10 p4_1.2 kog1)
            refine fo_goL mi_k161 fz161_33_6_45 [(3, .int (l3_4 + 1)), (5, .int ((a4 123).getD l4_4.toNatClampNeg 0)), (4, .int l4_4), (0, .ref 116), (1, .int x1), (2, .int x2)] [.int 18, .int ((a4 123).getD l4_4.toNatClampNeg 0), .int l3_4, .ref 128] rfl ?_
            refine ft_ifS mi_k161 (decide (((a4 123).getD l4_4.toNatClampNeg 0) < 18)) 56 48 [.int l3_4, .ref 128] (by rfl) (fun c => ?_) (fun c => ?_)
            ·
              have c46 : ((a4 123).getD l4_4.toNatClampNeg 0).toInt < (18 : Int32).toInt := kd_lt c; clear c
              refine fo_goS mi_k161 fz161_56_3_62 [.int ((a4 123).getD l4_4.toNatClampNeg 0), .ref 129, .int l3_4, .ref 128] rfl ?_
              refine ko_iald3 mi_k161.1 (n := 6) (c := 6) (ax := (0, 0, 0, 0, 0)) (mi_k161.2 _ _ (by rfl)) (by rfl) (ksG129 _ _ _ _) (hL4.I.2.1 129) rfl (og14 wf9.1) (og64 c44 kog5) ?_
              refine ko_iast3 mi_k161.1 (n := 200) (c := 200) (ax := (0, 0, 0, 0, 0)) (mi_k161.2 _ _ (by rfl)) (by rfl) (ksG128 _ _ _ _) (ksA128 _ _ _ _) (hL4.I.2.1 128) rfl (og14 p4_1.1) (og15 c8 hs3 wf9.2.2.2) ?_
              intro a47 ea47 fa47
              have hJ47 := kG_a3 hL4 128 rfl ea47 fa47 (kd_bd _)
              have s48 : (l4_4 + 1).toInt = l4_4.toInt + (1 : Int32).toInt := kd_add (og16 hs1 p4_0 kog1) (og17 c8 hs3 kog1)
              first | refine fo_goL mi_k161 fz161_1_3_5 [(4, .int (l4_4 + 1)), (3, .int (l3_4 + 1)), (5, .int ((a4 123).getD l4_4.toNatClampNeg 0)), (0, .ref 116), (1, .int x1), (2, .int x2)] [] (by rfl) ?_ | refine fo_goL mi_k161 fz161_64_3_5 [(4, .int (l4_4 + 1)), (3, .int (l3_4 + 1)), (5, .int ((a4 123).getD l4_4.toNatClampNeg 0)), (0, .ref 116), (1, .int x1), (2, .int x2)] [] (by rfl) ?_ | refine fo_goL mi_k161 fz161_124_3_5 [(4, .int (l4_4 + 1)), (3, .int (l3_4 + 1)), (5, .int ((a4 123).getD l4_4.toNatClampNeg 0)), (0, .ref 116), (1, .int x1), (2, .int x2)] [] (by rfl) ?_ | refine ft_goL mi_k161 3 5 [(4, .int (l4_4 + 1)), (3, .int (l3_4 + 1)), (5, .int ((a4 123).getD l4_4.toNatClampNeg 0)), (0, .ref 116), (1, .int x1), (2, .int x2)] [] (by rfl) ?_
              refine ko_perm [(4, .int (l4_4 + 1)), (3, .int (l3_4 + 1)), (0, .ref 116), (1, .int x1), (2, .int x2)] (List.forall_mem_cons.mpr ⟨(List.Mem.head _), (List.forall_mem_cons.mpr ⟨(List.Mem.tail _ (List.Mem.head _)), (List.forall_mem_cons.mpr ⟨(List.Mem.tail _ (List.Mem.tail _ (List.Mem.tail _ (List.Mem.head _)))), (List.forall_mem_cons.mpr ⟨(List.Mem.tail _ (List.Mem.tail _ (List.Mem.tail _ (List.Mem.tail _ (List.Mem.head _))))), (List.forall_mem_cons.mpr ⟨(List.Mem.tail _ (List.Mem.tail _ (List.Mem.tail _ (List.Mem.tail _ (List.Mem.tail _ (List.Mem.head _)))))), (fun _ h => absurd h List.not_mem_nil)⟩)⟩)⟩)⟩)⟩) ?_
              exact ih4 _ _ _ _ _ _ hJ47 (og18 p4_0 s48 kog1) (og19 c8 hs3 p4_1.1 s45 wf9.2.2.2 kog1) (og20 c8 s48 kog1) (kWk_cast (kWk_next hS5 O4_0 rfl (og8 c8) (og22 s48 kog1) (og65 c44 s45 kog5 kog1)) (fa47 123 (by decide))) (wS_push (c := ((a4 123).getD l4_4.toNatClampNeg 0)) O4_1 (hL4.I.2.1 128) (og14 p4_1.1) (og15 c8 hs3 wf9.2.2.2) (og14 hs1) (og23 p4_0) (congrArg (fun z : List Int32 => z.getD l4_4.toNatClampNeg 0) (hL4.fa 123 rfl)) (og66 c44 kog5) ((congrArg (fun z : List Int32 => z.getD ((a4 123).getD l4_4.toNatClampNeg 0).toNatClampNeg 0) (hL4.fa 129 rfl)).trans (if_neg (og67 c18 kog18)).symm) (ea47) (og22 s45 kog1) (og22 s48 kog1)) (kj_meas (og27 s48 kog1) (og28 c8) hm4)
            ·
              have c49 : (18 : Int32).toInt ≤ ((a4 123).getD l4_4.toNatClampNeg 0).toInt := kd_ltF c; clear c
              exact (og68 c18 c49 kog18).elim
  exact lp4 _ _ _ _ _ _ _ (kG_self _ hG.I hG.R) og69 (og70 kog0) (og23 hs2) (kWk_begin hS rfl rfl kn0) (wS_start (x := x1) kog0) (Nat.lt_succ_self _)
noncomputable def yw162_116 : kW := ([], [128, 129], [], [])
noncomputable def yw162_116_L70 : kW := ([], [128], [], [])
set_option maxRecDepth 100000 in
theorem ke162_116 {i : Nat → Int32} {a : Nat → List Int32} {q : Nat → List Int64} {r : Nat → Nat} (hI : kI i a q) (hr : kr r) (x1 : Int32) (hp0 : ((0 : Int) ≤ x1.toInt) ∧ (x1.toInt ≤ 7)) (hE_code : kCode i a) : km 5 162 [.ref 116, .int x1] (ks i a q r) (kVI yw162_116 i a q r (fun v i1 a1 q1 r1 => (True) ∧ v = wLaw (a 120) (a 121) (a 122) (a 123) [(a 117).getD x1.toNatClampNeg 0, (a 129).getD 1 0, (a 117).getD (8 + x1).toNatClampNeg 0, (a 118).getD (9 : Int32).toNatClampNeg 0, (a 118).getD (10 + x1).toNatClampNeg 0, (a 118).getD (8 : Int32).toNatClampNeg 0] (i 7432).toInt.toNat 0)) := by
  have hG := kG_self yw162_116 hI hr
  refine km_ofI (q := (mi_h162, mi_c162)) rfl (by decide) (Nat.le_of_ble_eq_true rfl) ?_
  intro P hP
  refine fo_goL mi_k162 fz162_0_6_10 [(0, .ref 116), (1, .int x1)] [.int x1, .ref 117, .int 0, .ref 129] rfl ?_
  refine ko_iald3 mi_k162.1 (n := 24) (c := 24) (ax := (0, 0, 0, 0, 0)) (mi_k162.2 _ _ (by rfl)) (by rfl) (ksG117 _ _ _ _) (hG.I.2.1 117) rfl (og14 hp0.1) (og71 hp0.2) ?_
  refine ko_iast3 mi_k162.1 (n := 6) (c := 6) (ax := (0, 0, 0, 0, 0)) (mi_k162.2 _ _ (by rfl)) (by rfl) (ksG129 _ _ _ _) (ksA129 _ _ _ _) (hG.I.2.1 129) rfl (og2 kog0) (og72 kog0) ?_
  intro a1 ea1 fa1
  have hJ1 := kG_a3 hG 129 rfl ea1 fa1 (kd_bd _)
  have s2 : (8 + x1).toInt = (8 : Int32).toInt + x1.toInt := kd_add (og73 hp0.1 kog8) (og74 hp0.2 kog8)
  refine fo_goS mi_k162 fz162_12_8_25 [.int (8 + x1), .ref 117, .int 2, .ref 129] rfl ?_
  refine ko_iald3 mi_k162.1 (n := 24) (c := 24) (ax := (0, 0, 0, 0, 0)) (mi_k162.2 _ _ (by rfl)) (by rfl) (ksG117 _ _ _ _) (hJ1.I.2.1 117) rfl (og75 hp0.1 s2 kog8) (og76 hp0.2 s2 kog8) ?_
  refine ko_iast3 mi_k162.1 (n := 6) (c := 6) (ax := (0, 0, 0, 0, 0)) (mi_k162.2 _ _ (by rfl)) (by rfl) (ksG129 _ _ _ _) (ksA129 _ _ _ _) (hJ1.I.2.1 129) rfl (og77 kog2) (og78 kog2) ?_
  intro a3 ea3 fa3
  have hJ3 := kG_a3 hJ1 129 rfl ea3 fa3 (kd_bd _)
  refine fo_goS mi_k162 fz162_27_6_38 [.int 9, .ref 118, .int 3, .ref 129] rfl ?_
  refine ko_iald3 mi_k162.1 (n := 31) (c := 31) (ax := (0, 0, 0, 0, 0)) (mi_k162.2 _ _ (by rfl)) (by rfl) (ksG118 _ _ _ _) (hJ3.I.2.1 118) rfl (og79 kog9) (og80 kog9) ?_
  have u4 : ((a1 118).getD (9 : Int32).toNatClampNeg 0).toInt = ((a 118).getD (9 : Int32).toNatClampNeg 0).toInt := congrArg (fun z : List Int32 => (z.getD (9 : Int32).toNatClampNeg 0).toInt) (fa1 118 (by decide))
  have u5 : ((a3 118).getD (9 : Int32).toNatClampNeg 0).toInt = ((a1 118).getD (9 : Int32).toNatClampNeg 0).toInt := congrArg (fun z : List Int32 => (z.getD (9 : Int32).toNatClampNeg 0).toInt) (fa3 118 (by decide))
  refine ko_iast3 mi_k162.1 (n := 6) (c := 6) (ax := (0, 0, 0, 0, 0)) (mi_k162.2 _ _ (by rfl)) (by rfl) (ksG129 _ _ _ _) (ksA129 _ _ _ _) (hJ3.I.2.1 129) rfl (og81 kog3) (og82 kog3) ?_
  intro a6 ea6 fa6
  have hJ6 := kG_a3 hJ3 129 rfl ea6 fa6 (kd_bd _)
  have s7 : (10 + x1).toInt = (10 : Int32).toInt + x1.toInt := kd_add (og83 hp0.1 kog10) (og84 hp0.2 kog10)
  refine fo_goS mi_k162 fz162_40_8_53 [.int (10 + x1), .ref 118, .int 4, .ref 129] rfl ?_
  refine ko_iald3 mi_k162.1 (n := 31) (c := 31) (ax := (0, 0, 0, 0, 0)) (mi_k162.2 _ _ (by rfl)) (by rfl) (ksG118 _ _ _ _) (hJ6.I.2.1 118) rfl (og85 hp0.1 s7 kog10) (og86 hp0.2 s7 kog10) ?_
  have r8 : (((10 + x1).toInt = 18 → (0 : Int) ≤ ((a6 118).getD (10 + x1).toNatClampNeg 0).toInt ∧ ((a6 118).getD (10 + x1).toNatClampNeg 0).toInt ≤ 5)) ∧ ((19 ≤ (10 + x1).toInt → (10 + x1).toInt ≤ 24 → (0 : Int) ≤ ((a6 118).getD (10 + x1).toNatClampNeg 0).toInt ∧ ((a6 118).getD (10 + x1).toNatClampNeg 0).toInt ≤ 7)) := kE_ncond (p := 118) hJ6.I (by decide) (j := (10 + x1)) (og85 hp0.1 s7 kog10)
  have u9 : ((a1 118).getD (10 + x1).toNatClampNeg 0).toInt = ((a 118).getD (10 + x1).toNatClampNeg 0).toInt := congrArg (fun z : List Int32 => (z.getD (10 + x1).toNatClampNeg 0).toInt) (fa1 118 (by decide))
  have u10 : ((a3 118).getD (10 + x1).toNatClampNeg 0).toInt = ((a1 118).getD (10 + x1).toNatClampNeg 0).toInt := congrArg (fun z : List Int32 => (z.getD (10 + x1).toNatClampNeg 0).toInt) (fa3 118 (by decide))
  have u11 : ((a6 118).getD (10 + x1).toNatClampNeg 0).toInt = ((a3 118).getD (10 + x1).toNatClampNeg 0).toInt := congrArg (fun z : List Int32 => (z.getD (10 + x1).toNatClampNeg 0).toInt) (fa6 118 (by decide))
  refine ko_iast3 mi_k162.1 (n := 6) (c := 6) (ax := (0, 0, 0, 0, 0)) (mi_k162.2 _ _ (by rfl)) (by rfl) (ksG129 _ _ _ _) (ksA129 _ _ _ _) (hJ6.I.2.1 129) rfl (og87 kog4) (og88 kog4) ?_
  intro a12 ea12 fa12
  have hJ12 := kG_a3 hJ6 129 rfl ea12 fa12 (kd_bd _)
  refine fo_goS mi_k162 fz162_55_6_66 [.int 8, .ref 118, .int 5, .ref 129] rfl ?_
  refine ko_iald3 mi_k162.1 (n := 31) (c := 31) (ax := (0, 0, 0, 0, 0)) (mi_k162.2 _ _ (by rfl)) (by rfl) (ksG118 _ _ _ _) (hJ12.I.2.1 118) rfl (og89 kog8) (og90 kog8) ?_
  have u13 : ((a1 118).getD (8 : Int32).toNatClampNeg 0).toInt = ((a 118).getD (8 : Int32).toNatClampNeg 0).toInt := congrArg (fun z : List Int32 => (z.getD (8 : Int32).toNatClampNeg 0).toInt) (fa1 118 (by decide))
  have u14 : ((a3 118).getD (8 : Int32).toNatClampNeg 0).toInt = ((a1 118).getD (8 : Int32).toNatClampNeg 0).toInt := congrArg (fun z : List Int32 => (z.getD (8 : Int32).toNatClampNeg 0).toInt) (fa3 118 (by decide))
  have u15 : ((a6 118).getD (8 : Int32).toNatClampNeg 0).toInt = ((a3 118).getD (8 : Int32).toNatClampNeg 0).toInt := congrArg (fun z : List Int32 => (z.getD (8 : Int32).toNatClampNeg 0).toInt) (fa6 118 (by decide))
  have u16 : ((a12 118).getD (8 : Int32).toNatClampNeg 0).toInt = ((a6 118).getD (8 : Int32).toNatClampNeg 0).toInt := congrArg (fun z : List Int32 => (z.getD (8 : Int32).toNatClampNeg 0).toInt) (fa12 118 (by decide))
  refine ko_iast3 mi_k162.1 (n := 6) (c := 6) (ax := (0, 0, 0, 0, 0)) (mi_k162.2 _ _ (by rfl)) (by rfl) (ksG129 _ _ _ _) (ksA129 _ _ _ _) (hJ12.I.2.1 129) rfl (og91 kog5) (og92 kog5) ?_
  intro a17 ea17 fa17
  have hJ17 := kG_a3 hJ12 129 rfl ea17 fa17 (kd_bd _)
  have qn18 : a17 129 = [((a 117).getD x1.toNatClampNeg 0), (a 129).getD 1 0, ((a1 117).getD (8 + x1).toNatClampNeg 0), ((a3 118).getD (9 : Int32).toNatClampNeg 0), ((a6 118).getD (10 + x1).toNatClampNeg 0), ((a12 118).getD (8 : Int32).toNatClampNeg 0)] := by rw [ea17, ea12, ea6, ea3, ea1]; exact kNam5 (hG.I.2.1 129)
  have qn19 : a17 129 = [(a 117).getD x1.toNatClampNeg 0, (a 129).getD 1 0, (a 117).getD (8 + x1).toNatClampNeg 0, (a 118).getD (9 : Int32).toNatClampNeg 0, (a 118).getD (10 + x1).toNatClampNeg 0, (a 118).getD (8 : Int32).toNatClampNeg 0] := qn18.trans (by first | rfl | (simp only [fa1 117 (by decide), fa3 118 (by decide), fa6 118 (by decide), fa12 118 (by decide), fa1 118 (by decide)]; done) | (simp only [fa1 117 (by decide), fa3 118 (by decide), fa6 118 (by decide), fa12 118 (by decide), fa1 118 (by decide)]; rfl))
  first | refine ft_goL mi_k162 2 70 [(2, .int 0), (0, .ref 116), (1, .int x1)] [] (by rfl) ?_
  have lp20 : ∀ (nz : Nat) (i20 : Nat → Int32) (a20 : Nat → List Int32) (q20 : Nat → List Int64) (r20 : Nat → Nat) (l2_20 : Int32), kG yw162_116_L70 i a17 q r i20 a20 q20 r20 → (0 : Int) ≤ l2_20.toInt → wLaw (a 120) (a 121) (a 122) (a 123) [(a 117).getD x1.toNatClampNeg 0, (a 129).getD 1 0, (a 117).getD (8 + x1).toNatClampNeg 0, (a 118).getD (9 : Int32).toNatClampNeg 0, (a 118).getD (10 + x1).toNatClampNeg 0, (a 118).getD (8 : Int32).toNatClampNeg 0] ((i 7432).toInt - l2_20.toInt).toNat l2_20.toInt.toNat = wLaw (a 120) (a 121) (a 122) (a 123) [(a 117).getD x1.toNatClampNeg 0, (a 129).getD 1 0, (a 117).getD (8 + x1).toNatClampNeg 0, (a 118).getD (9 : Int32).toNatClampNeg 0, (a 118).getD (10 + x1).toNatClampNeg 0, (a 118).getD (8 : Int32).toNatClampNeg 0] (i 7432).toInt.toNat 0 → a20 129 = [(a 117).getD x1.toNatClampNeg 0, (a 129).getD 1 0, (a 117).getD (8 + x1).toNatClampNeg 0, (a 118).getD (9 : Int32).toNatClampNeg 0, (a 118).getD (10 + x1).toNatClampNeg 0, (a 118).getD (8 : Int32).toNatClampNeg 0] → (((i20 7432).toInt - l2_20.toInt)).toNat < nz → ko 5 (mi_h162, mi_c162) P (70, [(2, .int l2_20), (0, .ref 116), (1, .int x1)], [], (0, 0), ks i20 a20 q20 r20) := by
    intro nz
    induction nz with
    | zero =>
      intro _ _ _ _ _ _ _ _ _ hm
      exact absurd hm (Nat.not_lt_zero _)
    | succ nz ih20 =>
      intro i20 a20 q20 r20 l2_20 hL20 p20_0 O20_0 O20_1 hm20
      have fi20_7432 : ((0 : Int) ≤ (i20 7432).toInt) ∧ ((i20 7432).toInt ≤ 60) := hL20.I.1 7432
      have efi20_7432 : (i20 7432).toInt = (i 7432).toInt := hL20.ti 7432 rfl
      refine fo_goL mi_k162 fz162_70_3_75 [(2, .int l2_20), (0, .ref 116), (1, .int x1)] [.int (i20 7432), .int l2_20] rfl ?_
      refine ft_ifS mi_k162 (decide ((i20 7432) ≤ l2_20)) 138 78 [] (by rfl) (fun c => ?_) (fun c => ?_)
      ·
        have c21 : (i20 7432).toInt ≤ l2_20.toInt := kd_le c; clear c
        have hG22 := kG_call hJ17 hL20 (by decide +kernel)
        refine ft_goS mi_k162 1 139 [.int 0] (by rfl) ?_
        exact ft_ret mi_k162 (by rfl) (hP 0 _ _ _ _ hG22 ⟨trivial, (show (0 : Int32) = wLaw (a 120) (a 121) (a 122) (a 123) [(a 117).getD x1.toNatClampNeg 0, (a 129).getD 1 0, (a 117).getD (8 + x1).toNatClampNeg 0, (a 118).getD (9 : Int32).toNatClampNeg 0, (a 118).getD (10 + x1).toNatClampNeg 0, (a 118).getD (8 : Int32).toNatClampNeg 0] (i 7432).toInt.toNat 0 from (bl_none O20_0 (og93 c21 efi20_7432)).symm)⟩)
      ·
        have c23 : l2_20.toInt < (i20 7432).toInt := kd_leF c; clear c
        refine fo_goS mi_k162 fz162_78_3_83 [.int l2_20, .ref 121] rfl ?_
        refine ko_iald3 mi_k162.1 (n := 60) (c := 60) (ax := (0, 0, 0, 0, 0)) (mi_k162.2 _ _ (by rfl)) (by rfl) (ksG121 _ _ _ _) (hL20.I.2.1 121) rfl (og14 p20_0) (og94 c23 fi20_7432.2) ?_
        refine fo_goS mi_k162 fz162_84_3_89 [.int l2_20, .ref 120, .int ((a20 121).getD l2_20.toNatClampNeg 0)] rfl ?_
        refine ko_iald3 mi_k162.1 (n := 60) (c := 60) (ax := (0, 0, 0, 0, 0)) (mi_k162.2 _ _ (by rfl)) (by rfl) (ksG120 _ _ _ _) (hL20.I.2.1 120) rfl (og14 p20_0) (og94 c23 fi20_7432.2) ?_
        refine ft_ifS mi_k162 (decide (((a20 121).getD l2_20.toNatClampNeg 0) ≤ ((a20 120).getD l2_20.toNatClampNeg 0))) 115 93 [] (by rfl) (fun c => ?_) (fun c => ?_)
        ·
          have c24 : ((a20 121).getD l2_20.toNatClampNeg 0).toInt ≤ ((a20 120).getD l2_20.toNatClampNeg 0).toInt := kd_le c; clear c
          have hG25 := kG_call hJ17 hL20 (by decide +kernel)
          refine fo_goS mi_k162 fz162_115_4_121 [.int l2_20, .ref 121, .ref 116] rfl ?_
          refine ko_iald3 mi_k162.1 (n := 60) (c := 60) (ax := (0, 0, 0, 0, 0)) (mi_k162.2 _ _ (by rfl)) (by rfl) (ksG121 _ _ _ _) (hG25.I.2.1 121) rfl (og14 p20_0) (og94 c23 fi20_7432.2) ?_
          refine fo_goS mi_k162 fz162_122_3_127 [.int l2_20, .ref 122, .int ((a20 121).getD l2_20.toNatClampNeg 0), .ref 116] rfl ?_
          refine ko_iald3 mi_k162.1 (n := 60) (c := 60) (ax := (0, 0, 0, 0, 0)) (mi_k162.2 _ _ (by rfl)) (by rfl) (ksG122 _ _ _ _) (hG25.I.2.1 122) rfl (og14 p20_0) (og94 c23 fi20_7432.2) ?_
          refine ko_callI mi_k162.1 (pc := 128) (ls := [(2, .int l2_20), (0, .ref 116), (1, .int x1)]) (st := [.int ((a20 122).getD l2_20.toNatClampNeg 0), .int ((a20 121).getD l2_20.toNatClampNeg 0), .ref 116]) (h := ks i20 a20 q20 r20) (i := (.invokevirtual 224, 3, 161, 0, 9, 0, 420)) (mi_k162.2 _ _ (by rfl)) (ft_invS mi_pq161 (by rfl)) (cy := mi_c161) mi_pq161 rfl (ke161_116 hG25.I hG25.R ((a20 121).getD l2_20.toNatClampNeg 0) ((a20 122).getD l2_20.toNatClampNeg 0) (kCode_l2 (kCode_of (i1 := i20) hE_code (hG25.fi 7432 rfl) (hG25.fa 120 rfl) (hG25.fa 121 rfl) (hG25.fa 122 rfl) (hG25.fa 123 rfl)) (og14 p20_0) (og8 c23))) (by decide) ?_
          intro vg26 ig26 ag26 qg26 rg26 kg26 hg26
          have hGg26 := kG_call hG25 kg26 (by decide +kernel)
          obtain ⟨hg26, og26⟩ := hg26
          have q27 : vg26 = wVal (a20 123) (a20 129) ((a20 121).getD l2_20.toNatClampNeg 0) ((a20 122).getD l2_20.toNatClampNeg 0) := og26
          exact ft_ret mi_k162 (by rfl) (hP vg26 _ _ _ _ hGg26 ⟨trivial, (show vg26 = wLaw (a 120) (a 121) (a 122) (a 123) [(a 117).getD x1.toNatClampNeg 0, (a 129).getD 1 0, (a 117).getD (8 + x1).toNatClampNeg 0, (a 118).getD (9 : Int32).toNatClampNeg 0, (a 118).getD (10 + x1).toNatClampNeg 0, (a 118).getD (8 : Int32).toNatClampNeg 0] (i 7432).toInt.toNat 0 from (bl_say0 O20_0 (kj_lines (og95 c23 efi20_7432) (og14 p20_0)) (og14 p20_0) ((((((hL20.fa 120 rfl).trans (fa17 120 (by decide))).trans (fa12 120 (by decide))).trans (fa6 120 (by decide))).trans (fa3 120 (by decide))).trans (fa1 120 (by decide))) ((((((hL20.fa 121 rfl).trans (fa17 121 (by decide))).trans (fa12 121 (by decide))).trans (fa6 121 (by decide))).trans (fa3 121 (by decide))).trans (fa1 121 (by decide))) (og23 c24) ((((((hL20.fa 121 rfl).trans (fa17 121 (by decide))).trans (fa12 121 (by decide))).trans (fa6 121 (by decide))).trans (fa3 121 (by decide))).trans (fa1 121 (by decide))) ((((((hL20.fa 122 rfl).trans (fa17 122 (by decide))).trans (fa12 122 (by decide))).trans (fa6 122 (by decide))).trans (fa3 122 (by decide))).trans (fa1 122 (by decide))) (by have hq := og26; rw [(((((((hL20.fa 123 rfl).trans (fa17 123 (by decide))).trans (fa12 123 (by decide))).trans (fa6 123 (by decide))).trans (fa3 123 (by decide))).trans (fa1 123 (by decide))) : a20 123 = a 123), (O20_1 : a20 129 = [(a 117).getD x1.toNatClampNeg 0, (a 129).getD 1 0, (a 117).getD (8 + x1).toNatClampNeg 0, (a 118).getD (9 : Int32).toNatClampNeg 0, (a 118).getD (10 + x1).toNatClampNeg 0, (a 118).getD (8 : Int32).toNatClampNeg 0])] at hq; exact hq)).symm)⟩)
        ·
          have c28 : ((a20 120).getD l2_20.toNatClampNeg 0).toInt < ((a20 121).getD l2_20.toNatClampNeg 0).toInt := kd_leF c; clear c
          refine fo_goS mi_k162 fz162_93_4_99 [.int l2_20, .ref 120, .ref 116] rfl ?_
          refine ko_iald3 mi_k162.1 (n := 60) (c := 60) (ax := (0, 0, 0, 0, 0)) (mi_k162.2 _ _ (by rfl)) (by rfl) (ksG120 _ _ _ _) (hL20.I.2.1 120) rfl (og14 p20_0) (og94 c23 fi20_7432.2) ?_
          refine fo_goS mi_k162 fz162_100_3_105 [.int l2_20, .ref 121, .int ((a20 120).getD l2_20.toNatClampNeg 0), .ref 116] rfl ?_
          refine ko_iald3 mi_k162.1 (n := 60) (c := 60) (ax := (0, 0, 0, 0, 0)) (mi_k162.2 _ _ (by rfl)) (by rfl) (ksG121 _ _ _ _) (hL20.I.2.1 121) rfl (og14 p20_0) (og94 c23 fi20_7432.2) ?_
          have hG29 := kG_call hJ17 hL20 (by decide +kernel)
          refine ko_callI mi_k162.1 (pc := 106) (ls := [(2, .int l2_20), (0, .ref 116), (1, .int x1)]) (st := [.int ((a20 121).getD l2_20.toNatClampNeg 0), .int ((a20 120).getD l2_20.toNatClampNeg 0), .ref 116]) (h := ks i20 a20 q20 r20) (i := (.invokevirtual 224, 3, 161, 0, 9, 0, 420)) (mi_k162.2 _ _ (by rfl)) (ft_invS mi_pq161 (by rfl)) (cy := mi_c161) mi_pq161 rfl (ke161_116 hL20.I hL20.R ((a20 120).getD l2_20.toNatClampNeg 0) ((a20 121).getD l2_20.toNatClampNeg 0) (kCode_l1 (kCode_of (i1 := i20) hE_code (hG29.fi 7432 rfl) (hG29.fa 120 rfl) (hG29.fa 121 rfl) (hG29.fa 122 rfl) (hG29.fa 123 rfl)) (og14 p20_0) (og8 c23) (og8 c28))) (by decide) ?_
          intro vg30 ig30 ag30 qg30 rg30 kg30 hg30
          have hGg30 := kG_call hL20 kg30 (by decide +kernel)
          obtain ⟨hg30, og30⟩ := hg30
          have q31 : vg30 = wVal (a20 123) (a20 129) ((a20 120).getD l2_20.toNatClampNeg 0) ((a20 121).getD l2_20.toNatClampNeg 0) := og30
          refine ft_ifS mi_k162 (vg30 != 0) 115 112 [] (by rfl) (fun c => ?_) (fun c => ?_)
          ·
            have c32 : vg30.toInt ≠ (0 : Int32).toInt := kd_ne c; clear c
            have hG33 := kG_call hJ17 hGg30 (by decide +kernel)
            refine fo_goS mi_k162 fz162_115_4_121 [.int l2_20, .ref 121, .ref 116] rfl ?_
            refine ko_iald3 mi_k162.1 (n := 60) (c := 60) (ax := (0, 0, 0, 0, 0)) (mi_k162.2 _ _ (by rfl)) (by rfl) (ksG121 _ _ _ _) (hG33.I.2.1 121) rfl (og14 p20_0) (og94 c23 fi20_7432.2) ?_
            refine fo_goS mi_k162 fz162_122_3_127 [.int l2_20, .ref 122, .int ((ag30 121).getD l2_20.toNatClampNeg 0), .ref 116] rfl ?_
            refine ko_iald3 mi_k162.1 (n := 60) (c := 60) (ax := (0, 0, 0, 0, 0)) (mi_k162.2 _ _ (by rfl)) (by rfl) (ksG122 _ _ _ _) (hG33.I.2.1 122) rfl (og14 p20_0) (og94 c23 fi20_7432.2) ?_
            have efig30_7432 : (ig30 7432).toInt = (i20 7432).toInt := kg30.ti 7432 rfl
            refine ko_callI mi_k162.1 (pc := 128) (ls := [(2, .int l2_20), (0, .ref 116), (1, .int x1)]) (st := [.int ((ag30 122).getD l2_20.toNatClampNeg 0), .int ((ag30 121).getD l2_20.toNatClampNeg 0), .ref 116]) (h := ks ig30 ag30 qg30 rg30) (i := (.invokevirtual 224, 3, 161, 0, 9, 0, 420)) (mi_k162.2 _ _ (by rfl)) (ft_invS mi_pq161 (by rfl)) (cy := mi_c161) mi_pq161 rfl (ke161_116 hG33.I hG33.R ((ag30 121).getD l2_20.toNatClampNeg 0) ((ag30 122).getD l2_20.toNatClampNeg 0) (kCode_l2 (kCode_of (i1 := ig30) hE_code (hG33.fi 7432 rfl) (hG33.fa 120 rfl) (hG33.fa 121 rfl) (hG33.fa 122 rfl) (hG33.fa 123 rfl)) (og14 p20_0) (og96 c23 efig30_7432))) (by decide) ?_
            intro vg34 ig34 ag34 qg34 rg34 kg34 hg34
            have hGg34 := kG_call hG33 kg34 (by decide +kernel)
            obtain ⟨hg34, og34⟩ := hg34
            have q35 : vg34 = wVal (ag30 123) (ag30 129) ((ag30 121).getD l2_20.toNatClampNeg 0) ((ag30 122).getD l2_20.toNatClampNeg 0) := og34
            exact ft_ret mi_k162 (by rfl) (hP vg34 _ _ _ _ hGg34 ⟨trivial, (show vg34 = wLaw (a 120) (a 121) (a 122) (a 123) [(a 117).getD x1.toNatClampNeg 0, (a 129).getD 1 0, (a 117).getD (8 + x1).toNatClampNeg 0, (a 118).getD (9 : Int32).toNatClampNeg 0, (a 118).getD (10 + x1).toNatClampNeg 0, (a 118).getD (8 : Int32).toNatClampNeg 0] (i 7432).toInt.toNat 0 from (bl_say1 O20_0 (kj_lines (og95 c23 efi20_7432) (og14 p20_0)) (og14 p20_0) ((((((hL20.fa 120 rfl).trans (fa17 120 (by decide))).trans (fa12 120 (by decide))).trans (fa6 120 (by decide))).trans (fa3 120 (by decide))).trans (fa1 120 (by decide))) ((((((hL20.fa 121 rfl).trans (fa17 121 (by decide))).trans (fa12 121 (by decide))).trans (fa6 121 (by decide))).trans (fa3 121 (by decide))).trans (fa1 121 (by decide))) (by have hq := og30; rw [(((((((hL20.fa 123 rfl).trans (fa17 123 (by decide))).trans (fa12 123 (by decide))).trans (fa6 123 (by decide))).trans (fa3 123 (by decide))).trans (fa1 123 (by decide))) : a20 123 = a 123), (O20_1 : a20 129 = [(a 117).getD x1.toNatClampNeg 0, (a 129).getD 1 0, (a 117).getD (8 + x1).toNatClampNeg 0, (a 118).getD (9 : Int32).toNatClampNeg 0, (a 118).getD (10 + x1).toNatClampNeg 0, (a 118).getD (8 : Int32).toNatClampNeg 0])] at hq; exact hq) (og0 c32 kog0) (((((((kg30.fa 121 rfl).trans (hL20.fa 121 rfl)).trans (fa17 121 (by decide))).trans (fa12 121 (by decide))).trans (fa6 121 (by decide))).trans (fa3 121 (by decide))).trans (fa1 121 (by decide))) (((((((kg30.fa 122 rfl).trans (hL20.fa 122 rfl)).trans (fa17 122 (by decide))).trans (fa12 122 (by decide))).trans (fa6 122 (by decide))).trans (fa3 122 (by decide))).trans (fa1 122 (by decide))) (by have hq := og34; rw [((((((((kg30.fa 123 rfl).trans (hL20.fa 123 rfl)).trans (fa17 123 (by decide))).trans (fa12 123 (by decide))).trans (fa6 123 (by decide))).trans (fa3 123 (by decide))).trans (fa1 123 (by decide))) : ag30 123 = a 123), ((by simp only [kg30.fa 129 rfl, O20_1]) : ag30 129 = [(a 117).getD x1.toNatClampNeg 0, (a 129).getD 1 0, (a 117).getD (8 + x1).toNatClampNeg 0, (a 118).getD (9 : Int32).toNatClampNeg 0, (a 118).getD (10 + x1).toNatClampNeg 0, (a 118).getD (8 : Int32).toNatClampNeg 0])] at hq; exact hq)).symm)⟩)
          ·
            have c36 : vg30.toInt = (0 : Int32).toInt := kd_neF c; clear c
            have s37 : (l2_20 + 1).toInt = l2_20.toInt + (1 : Int32).toInt := kd_add (og9 p20_0 kog1) (og97 c23 fi20_7432.2 kog1)
            first | refine fo_goL mi_k162 fz162_112_3_70 [(2, .int (l2_20 + 1)), (0, .ref 116), (1, .int x1)] [] (by rfl) ?_ | refine ft_goL mi_k162 3 70 [(2, .int (l2_20 + 1)), (0, .ref 116), (1, .int x1)] [] (by rfl) ?_
            have efig30_7432 : (ig30 7432).toInt = (i20 7432).toInt := kg30.ti 7432 rfl
            exact ih20 _ _ _ _ _ hGg30 (og98 p20_0 s37 kog1) (bl_next O20_0 (kj_lines (og95 c23 efi20_7432) (og14 p20_0)) (og14 p20_0) (og22 s37 kog1) ((((((hL20.fa 120 rfl).trans (fa17 120 (by decide))).trans (fa12 120 (by decide))).trans (fa6 120 (by decide))).trans (fa3 120 (by decide))).trans (fa1 120 (by decide))) ((((((hL20.fa 121 rfl).trans (fa17 121 (by decide))).trans (fa12 121 (by decide))).trans (fa6 121 (by decide))).trans (fa3 121 (by decide))).trans (fa1 121 (by decide))) (og8 c28) (by have hq := og30; rw [(((((((hL20.fa 123 rfl).trans (fa17 123 (by decide))).trans (fa12 123 (by decide))).trans (fa6 123 (by decide))).trans (fa3 123 (by decide))).trans (fa1 123 (by decide))) : a20 123 = a 123), (O20_1 : a20 129 = [(a 117).getD x1.toNatClampNeg 0, (a 129).getD 1 0, (a 117).getD (8 + x1).toNatClampNeg 0, (a 118).getD (9 : Int32).toNatClampNeg 0, (a 118).getD (10 + x1).toNatClampNeg 0, (a 118).getD (8 : Int32).toNatClampNeg 0])] at hq; exact hq) (og41 c36 kog0) rfl) (by first | rfl | (simp only [kg30.fa 129 rfl, O20_1, sMn, sMx]; done) | (simp only [kg30.fa 129 rfl, O20_1, sMn, sMx]; rfl)) (kj_meas (og99 efig30_7432 s37 kog1) (og28 c23) hm20)
  exact lp20 _ _ _ _ _ _ (kG_self _ hJ17.I hJ17.R) (og2 kog0) (by rw [kog0, Int.sub_zero]; rfl) (by first | rfl | (simp only [qn19, sMn, sMx]; done) | (simp only [qn19, sMn, sMx]; rfl)) (Nat.lt_succ_self _)
noncomputable def yw163_116 : kW := ([], [128, 129], [], [])
set_option maxRecDepth 100000 in
theorem ke163_116 {i : Nat → Int32} {a : Nat → List Int32} {q : Nat → List Int64} {r : Nat → Nat} (hI : kI i a q) (hr : kr r) (x1 : Int32) (x2 : Int32) (hp0 : ((0 : Int) ≤ x1.toInt) ∧ (x1.toInt ≤ 7)) (hE_code : kCode i a) : km 7 163 [.ref 116, .int x1, .int x2] (ks i a q r) (kVI yw163_116 i a q r (fun v i1 a1 q1 r1 => (True) ∧ v = rBuyV (i 7431) (wLaw (a 120) (a 121) (a 122) (a 123) [(a 117).getD x1.toNatClampNeg 0, x2, (a 117).getD (8 + x1).toNatClampNeg 0, (a 118).getD (9 : Int32).toNatClampNeg 0, (a 118).getD (10 + x1).toNatClampNeg 0, (a 118).getD (8 : Int32).toNatClampNeg 0] (i 7432).toInt.toNat 0) ((a 117).getD x1.toNatClampNeg 0) ((a 117).getD (8 + x1).toNatClampNeg 0) ((a 118).getD (10 + x1).toNatClampNeg 0))) := by
  have hG := kG_self yw163_116 hI hr
  refine km_ofI (q := (mi_h163, mi_c163)) rfl (by decide) (Nat.le_of_ble_eq_true rfl) ?_
  intro P hP
  refine fo_goL mi_k163 fz163_0_4_6 [(0, .ref 116), (1, .int x1), (2, .int x2)] [.int x2, .int 1, .ref 129] rfl ?_
  refine ko_iast3 mi_k163.1 (n := 6) (c := 6) (ax := (0, 0, 0, 0, 0)) (mi_k163.2 _ _ (by rfl)) (by rfl) (ksG129 _ _ _ _) (ksA129 _ _ _ _) (hG.I.2.1 129) rfl (og100 kog1) (og101 kog1) ?_
  intro a1 ea1 fa1
  have hJ1 := kG_a3 hG 129 rfl ea1 fa1 (kd_bd _)
  have fi_7431 : ((0 : Int) ≤ (i 7431).toInt) ∧ ((i 7431).toInt ≤ 1) := hJ1.I.1 7431
  refine ft_goS mi_k163 2 11 [.int (i 7431)] (by rfl) ?_
  refine ft_ifS mi_k163 ((i 7431) == 0) 22 14 [] (by rfl) (fun c => ?_) (fun c => ?_)
  ·
    have c2 : (i 7431).toInt = (0 : Int32).toInt := kd_eq c; clear c
    refine fo_goS mi_k163 fz163_22_4_28 [.int x1, .ref 117, .int 5] rfl ?_
    refine ko_iald3 mi_k163.1 (n := 24) (c := 24) (ax := (0, 0, 0, 0, 0)) (mi_k163.2 _ _ (by rfl)) (by rfl) (ksG117 _ _ _ _) (hJ1.I.2.1 117) rfl (og14 hp0.1) (og71 hp0.2) ?_
    have b3 : ((-2147483648 : Int) ≤ ((a1 117).getD x1.toNatClampNeg 0).toInt) ∧ (((a1 117).getD x1.toNatClampNeg 0).toInt ≤ 2147483647) := kd_bd ((a1 117).getD x1.toNatClampNeg 0)
    have s4 : (8 + x1).toInt = (8 : Int32).toInt + x1.toInt := kd_add (og73 hp0.1 kog8) (og74 hp0.2 kog8)
    refine fo_goS mi_k163 fz163_29_6_38 [.int (8 + x1), .ref 117, .int (5 * ((a1 117).getD x1.toNatClampNeg 0))] rfl ?_
    refine ko_iald3 mi_k163.1 (n := 24) (c := 24) (ax := (0, 0, 0, 0, 0)) (mi_k163.2 _ _ (by rfl)) (by rfl) (ksG117 _ _ _ _) (hJ1.I.2.1 117) rfl (og75 hp0.1 s4 kog8) (og76 hp0.2 s4 kog8) ?_
    have b5 : ((-2147483648 : Int) ≤ (5 * ((a1 117).getD x1.toNatClampNeg 0)).toInt) ∧ ((5 * ((a1 117).getD x1.toNatClampNeg 0)).toInt ≤ 2147483647) := kd_bd (5 * ((a1 117).getD x1.toNatClampNeg 0))
    have b6 : ((-2147483648 : Int) ≤ ((a1 117).getD (8 + x1).toNatClampNeg 0).toInt) ∧ (((a1 117).getD (8 + x1).toNatClampNeg 0).toInt ≤ 2147483647) := kd_bd ((a1 117).getD (8 + x1).toNatClampNeg 0)
    have s7 : (10 + x1).toInt = (10 : Int32).toInt + x1.toInt := kd_add (og83 hp0.1 kog10) (og84 hp0.2 kog10)
    refine fo_goS mi_k163 fz163_39_7_49 [.int (10 + x1), .ref 118, .int 2, .int ((5 * ((a1 117).getD x1.toNatClampNeg 0)) + ((a1 117).getD (8 + x1).toNatClampNeg 0))] rfl ?_
    refine ko_iald3 mi_k163.1 (n := 31) (c := 31) (ax := (0, 0, 0, 0, 0)) (mi_k163.2 _ _ (by rfl)) (by rfl) (ksG118 _ _ _ _) (hJ1.I.2.1 118) rfl (og85 hp0.1 s7 kog10) (og86 hp0.2 s7 kog10) ?_
    have r8 : (((10 + x1).toInt = 18 → (0 : Int) ≤ ((a1 118).getD (10 + x1).toNatClampNeg 0).toInt ∧ ((a1 118).getD (10 + x1).toNatClampNeg 0).toInt ≤ 5)) ∧ ((19 ≤ (10 + x1).toInt → (10 + x1).toInt ≤ 24 → (0 : Int) ≤ ((a1 118).getD (10 + x1).toNatClampNeg 0).toInt ∧ ((a1 118).getD (10 + x1).toNatClampNeg 0).toInt ≤ 7)) := kE_ncond (p := 118) hJ1.I (by decide) (j := (10 + x1)) (og85 hp0.1 s7 kog10)
    have u9 : ((a1 118).getD (10 + x1).toNatClampNeg 0).toInt = ((a 118).getD (10 + x1).toNatClampNeg 0).toInt := congrArg (fun z : List Int32 => (z.getD (10 + x1).toNatClampNeg 0).toInt) (fa1 118 (by decide))
    have b10 : ((-2147483648 : Int) ≤ ((a1 118).getD (10 + x1).toNatClampNeg 0).toInt) ∧ (((a1 118).getD (10 + x1).toNatClampNeg 0).toInt ≤ 2147483647) := kd_bd ((a1 118).getD (10 + x1).toNatClampNeg 0)
    have b11 : ((-2147483648 : Int) ≤ ((5 * ((a1 117).getD x1.toNatClampNeg 0)) + ((a1 117).getD (8 + x1).toNatClampNeg 0)).toInt) ∧ (((5 * ((a1 117).getD x1.toNatClampNeg 0)) + ((a1 117).getD (8 + x1).toNatClampNeg 0)).toInt ≤ 2147483647) := kd_bd ((5 * ((a1 117).getD x1.toNatClampNeg 0)) + ((a1 117).getD (8 + x1).toNatClampNeg 0))
    have b12 : ((-2147483648 : Int) ≤ (2 * ((a1 118).getD (10 + x1).toNatClampNeg 0)).toInt) ∧ ((2 * ((a1 118).getD (10 + x1).toNatClampNeg 0)).toInt ≤ 2147483647) := kd_bd (2 * ((a1 118).getD (10 + x1).toNatClampNeg 0))
    first | refine fo_goL mi_k163 fz163_50_6_57 [(3, .int (((5 * ((a1 117).getD x1.toNatClampNeg 0)) + ((a1 117).getD (8 + x1).toNatClampNeg 0)) - (2 * ((a1 118).getD (10 + x1).toNatClampNeg 0)))), (0, .ref 116), (1, .int x1), (2, .int x2)] [.int (((5 * ((a1 117).getD x1.toNatClampNeg 0)) + ((a1 117).getD (8 + x1).toNatClampNeg 0)) - (2 * ((a1 118).getD (10 + x1).toNatClampNeg 0))), .int 99, .int 0] (by rfl) ?_ | refine ft_goL mi_k163 6 57 [(3, .int (((5 * ((a1 117).getD x1.toNatClampNeg 0)) + ((a1 117).getD (8 + x1).toNatClampNeg 0)) - (2 * ((a1 118).getD (10 + x1).toNatClampNeg 0)))), (0, .ref 116), (1, .int x1), (2, .int x2)] [.int (((5 * ((a1 117).getD x1.toNatClampNeg 0)) + ((a1 117).getD (8 + x1).toNatClampNeg 0)) - (2 * ((a1 118).getD (10 + x1).toNatClampNeg 0))), .int 99, .int 0] (by rfl) ?_
    have m14 : (((bif decide ((((5 * ((a1 117).getD x1.toNatClampNeg 0)) + ((a1 117).getD (8 + x1).toNatClampNeg 0)) - (2 * ((a1 118).getD (10 + x1).toNatClampNeg 0))) < 99) then (((5 * ((a1 117).getD x1.toNatClampNeg 0)) + ((a1 117).getD (8 + x1).toNatClampNeg 0)) - (2 * ((a1 118).getD (10 + x1).toNatClampNeg 0))) else 99).toInt ≤ (99 : Int32).toInt) ∧ ((bif decide ((((5 * ((a1 117).getD x1.toNatClampNeg 0)) + ((a1 117).getD (8 + x1).toNatClampNeg 0)) - (2 * ((a1 118).getD (10 + x1).toNatClampNeg 0))) < 99) then (((5 * ((a1 117).getD x1.toNatClampNeg 0)) + ((a1 117).getD (8 + x1).toNatClampNeg 0)) - (2 * ((a1 118).getD (10 + x1).toNatClampNeg 0))) else 99).toInt ≤ (((5 * ((a1 117).getD x1.toNatClampNeg 0)) + ((a1 117).getD (8 + x1).toNatClampNeg 0)) - (2 * ((a1 118).getD (10 + x1).toNatClampNeg 0))).toInt)) ∧ ((bif decide ((((5 * ((a1 117).getD x1.toNatClampNeg 0)) + ((a1 117).getD (8 + x1).toNatClampNeg 0)) - (2 * ((a1 118).getD (10 + x1).toNatClampNeg 0))) < 99) then (((5 * ((a1 117).getD x1.toNatClampNeg 0)) + ((a1 117).getD (8 + x1).toNatClampNeg 0)) - (2 * ((a1 118).getD (10 + x1).toNatClampNeg 0))) else 99).toInt = (99 : Int32).toInt ∨ (bif decide ((((5 * ((a1 117).getD x1.toNatClampNeg 0)) + ((a1 117).getD (8 + x1).toNatClampNeg 0)) - (2 * ((a1 118).getD (10 + x1).toNatClampNeg 0))) < 99) then (((5 * ((a1 117).getD x1.toNatClampNeg 0)) + ((a1 117).getD (8 + x1).toNatClampNeg 0)) - (2 * ((a1 118).getD (10 + x1).toNatClampNeg 0))) else 99).toInt = (((5 * ((a1 117).getD x1.toNatClampNeg 0)) + ((a1 117).getD (8 + x1).toNatClampNeg 0)) - (2 * ((a1 118).getD (10 + x1).toNatClampNeg 0))).toInt) := kd_min
    refine ft_goS mi_k163 1 60 [.int (bif decide ((((5 * ((a1 117).getD x1.toNatClampNeg 0)) + ((a1 117).getD (8 + x1).toNatClampNeg 0)) - (2 * ((a1 118).getD (10 + x1).toNatClampNeg 0))) < 99) then (((5 * ((a1 117).getD x1.toNatClampNeg 0)) + ((a1 117).getD (8 + x1).toNatClampNeg 0)) - (2 * ((a1 118).getD (10 + x1).toNatClampNeg 0))) else 99), .int 0] (by rfl) ?_
    generalize hm13 : (bif decide ((((5 * ((a1 117).getD x1.toNatClampNeg 0)) + ((a1 117).getD (8 + x1).toNatClampNeg 0)) - (2 * ((a1 118).getD (10 + x1).toNatClampNeg 0))) < 99) then (((5 * ((a1 117).getD x1.toNatClampNeg 0)) + ((a1 117).getD (8 + x1).toNatClampNeg 0)) - (2 * ((a1 118).getD (10 + x1).toNatClampNeg 0))) else 99) = m13 at m14 ⊢
    have qm13 := hm13.symm
    have m16 : (((0 : Int32).toInt ≤ (bif decide (0 < m13) then m13 else 0).toInt) ∧ (m13.toInt ≤ (bif decide (0 < m13) then m13 else 0).toInt)) ∧ ((bif decide (0 < m13) then m13 else 0).toInt = (0 : Int32).toInt ∨ (bif decide (0 < m13) then m13 else 0).toInt = m13.toInt) := kd_max
    refine ft_goS mi_k163 1 63 [.int (bif decide (0 < m13) then m13 else 0)] (by rfl) ?_
    generalize hm15 : (bif decide (0 < m13) then m13 else 0) = m15 at m16 ⊢
    have qm15 := hm15.symm
    exact ft_ret mi_k163 (by rfl) (hP m15 _ _ _ _ hJ1 ⟨trivial, (show m15 = rBuyV (i 7431) (wLaw (a 120) (a 121) (a 122) (a 123) [(a 117).getD x1.toNatClampNeg 0, x2, (a 117).getD (8 + x1).toNatClampNeg 0, (a 118).getD (9 : Int32).toNatClampNeg 0, (a 118).getD (10 + x1).toNatClampNeg 0, (a 118).getD (8 : Int32).toNatClampNeg 0] (i 7432).toInt.toNat 0) ((a 117).getD x1.toNatClampNeg 0) ((a 117).getD (8 + x1).toNatClampNeg 0) ((a 118).getD (10 + x1).toNatClampNeg 0) from (by unfold rBuyV; rw [if_pos (og102 c2 fi_7431.1 kog0)]; first | rfl | (simp only [kSet1 (l := a 129) (x := x2) (hG.I.2.1 129), qm15, qm13, fa1 117 (by decide), fa1 118 (by decide), sMn, sMx]; done) | (simp only [kSet1 (l := a 129) (x := x2) (hG.I.2.1 129), qm15, qm13, fa1 117 (by decide), fa1 118 (by decide), sMn, sMx]; rfl)))⟩)
  ·
    have c17 : (i 7431).toInt ≠ (0 : Int32).toInt := kd_eqF c; clear c
    refine ft_goS mi_k163 2 16 [.int x1, .ref 116] (by rfl) ?_
    refine ko_callI mi_k163.1 (pc := 16) (ls := [(0, .ref 116), (1, .int x1), (2, .int x2)]) (st := [.int x1, .ref 116]) (h := ks i a1 q r) (i := (.invokevirtual 227, 3, 162, 0, 9, 0, 419)) (mi_k163.2 _ _ (by rfl)) (ft_invS mi_pq162 (by rfl)) (cy := mi_c162) mi_pq162 rfl (ke162_116 hJ1.I hJ1.R x1 (og103 hp0.1 hp0.2) (kCode_of (i1 := i) hE_code (hJ1.fi 7432 rfl) (hJ1.fa 120 rfl) (hJ1.fa 121 rfl) (hJ1.fa 122 rfl) (hJ1.fa 123 rfl))) (by decide) ?_
    intro vg18 ig18 ag18 qg18 rg18 kg18 hg18
    have hGg18 := kG_call hJ1 kg18 (by decide +kernel)
    obtain ⟨hg18, og18⟩ := hg18
    have q19 : vg18 = wLaw (a1 120) (a1 121) (a1 122) (a1 123) [(a1 117).getD x1.toNatClampNeg 0, (a1 129).getD 1 0, (a1 117).getD (8 + x1).toNatClampNeg 0, (a1 118).getD (9 : Int32).toNatClampNeg 0, (a1 118).getD (10 + x1).toNatClampNeg 0, (a1 118).getD (8 : Int32).toNatClampNeg 0] (i 7432).toInt.toNat 0 := og18
    first | refine fo_goL mi_k163 fz163_19_5_57 [(3, .int vg18), (0, .ref 116), (1, .int x1), (2, .int x2)] [.int vg18, .int 99, .int 0] (by rfl) ?_ | refine fo_goL mi_k163 fz163_51_5_57 [(3, .int vg18), (0, .ref 116), (1, .int x1), (2, .int x2)] [.int vg18, .int 99, .int 0] (by rfl) ?_
    have m21 : (((bif decide (vg18 < 99) then vg18 else 99).toInt ≤ (99 : Int32).toInt) ∧ ((bif decide (vg18 < 99) then vg18 else 99).toInt ≤ vg18.toInt)) ∧ ((bif decide (vg18 < 99) then vg18 else 99).toInt = (99 : Int32).toInt ∨ (bif decide (vg18 < 99) then vg18 else 99).toInt = vg18.toInt) := kd_min
    refine ft_goS mi_k163 1 60 [.int (bif decide (vg18 < 99) then vg18 else 99), .int 0] (by rfl) ?_
    generalize hm20 : (bif decide (vg18 < 99) then vg18 else 99) = m20 at m21 ⊢
    have qm20 := hm20.symm
    have m23 : (((0 : Int32).toInt ≤ (bif decide (0 < m20) then m20 else 0).toInt) ∧ (m20.toInt ≤ (bif decide (0 < m20) then m20 else 0).toInt)) ∧ ((bif decide (0 < m20) then m20 else 0).toInt = (0 : Int32).toInt ∨ (bif decide (0 < m20) then m20 else 0).toInt = m20.toInt) := kd_max
    refine ft_goS mi_k163 1 63 [.int (bif decide (0 < m20) then m20 else 0)] (by rfl) ?_
    generalize hm22 : (bif decide (0 < m20) then m20 else 0) = m22 at m23 ⊢
    have qm22 := hm22.symm
    exact ft_ret mi_k163 (by rfl) (hP m22 _ _ _ _ hGg18 ⟨trivial, (show m22 = rBuyV (i 7431) (wLaw (a 120) (a 121) (a 122) (a 123) [(a 117).getD x1.toNatClampNeg 0, x2, (a 117).getD (8 + x1).toNatClampNeg 0, (a 118).getD (9 : Int32).toNatClampNeg 0, (a 118).getD (10 + x1).toNatClampNeg 0, (a 118).getD (8 : Int32).toNatClampNeg 0] (i 7432).toInt.toNat 0) ((a 117).getD x1.toNatClampNeg 0) ((a 117).getD (8 + x1).toNatClampNeg 0) ((a 118).getD (10 + x1).toNatClampNeg 0) from (by unfold rBuyV; rw [if_neg (og104 c17 fi_7431.1 kog0)]; first | rfl | (simp only [kSet1 (l := a 129) (x := x2) (hG.I.2.1 129), qm22, qm20, q19, fa1 120 (by decide), fa1 121 (by decide), fa1 122 (by decide), fa1 123 (by decide), fa1 117 (by decide), ea1, fa1 118 (by decide), sMn, sMx]; done) | (simp only [kSet1 (l := a 129) (x := x2) (hG.I.2.1 129), qm22, qm20, q19, fa1 120 (by decide), fa1 121 (by decide), fa1 122 (by decide), fa1 123 (by decide), fa1 117 (by decide), ea1, fa1 118 (by decide), sMn, sMx]; rfl)))⟩)
end
section
/-! ONE COMES IN, PURELY, AS THE REFERENCE HAS IT -/
theorem kT5 {A B C D E : Type} {a a1 : A} {b b1 : B} {c c1 : C} {d d1 : D} {e e1 : E} (h1 : a = a1) (h2 : b = b1) (h3 : c = c1) (h4 : d = d1) (h5 : e = e1) : (a, b, c, d, e) = (a1, b1, c1, d1, e1) := by subst h1; subst h2; subst h3; subst h4; subst h5; rfl
theorem sP_again {t3 c : Int32} {S S1 R : kSt} (h : sPaid t3 c (S.1.getD 18 0).toInt.toNat S = R) (o : S1 = sPay c S) (h1 : 1 ≤ t3.toInt) (ht : t3.toInt ≤ (S.1.getD 18 0).toInt) (hd : (S1.1.getD 18 0).toInt = (S.1.getD 18 0).toInt - 1) : sPaid t3 c (S1.1.getD 18 0).toInt.toNat S1 = R := by
  subst o
  rw [← h]
  exact (sPaid_more h1 ht hd).symm
theorem sP_done {t3 c : Int32} {n : Nat} {S R : kSt} (h : sPaid t3 c n S = R) (hlt : (S.1.getD 18 0).toInt < t3.toInt) : S = R := (sPaid_done hlt).symm.trans h
noncomputable def gPaid (t3 c : Int32) (N : List Int32) (la : Int32) (F : List Int32) : kSt := sPaid t3 c (N.getD 18 0).toInt.toNat (N, 8, 0, la, F)
noncomputable def gBuy (told : Int32) (as sy en L : List Int32) (ln : Int32) (W N N1 : List Int32) (c : Int32) : Int32 := rBuyV told (wLaw as sy en L [W.getD c.toNatClampNeg 0, N.getD c.toNatClampNeg 0, W.getD (8 + c).toNatClampNeg 0, N1.getD (9 : Int32).toNatClampNeg 0, N1.getD (10 + c).toNatClampNeg 0, N1.getD (8 : Int32).toNatClampNeg 0] ln.toInt.toNat 0) (W.getD c.toNatClampNeg 0) (W.getD (8 + c).toNatClampNeg 0) (N1.getD (10 + c).toNatClampNeg 0)
noncomputable def sC1 (c : Int32) (N : List Int32) : List Int32 := N.set (19 + N.getD (18 : Int32).toNatClampNeg 0).toNatClampNeg c
noncomputable def sC2 (b : Int32) (N : List Int32) : List Int32 := N.set (25 + N.getD (18 : Int32).toNatClampNeg 0).toNatClampNeg b
noncomputable def sC3 (N : List Int32) : List Int32 := N.set (18 : Int32).toNatClampNeg (N.getD (18 : Int32).toNatClampNeg 0 + 1)
noncomputable def sC4 (N : List Int32) : List Int32 := N.set (9 : Int32).toNatClampNeg (N.getD (9 : Int32).toNatClampNeg 0 + 1)
noncomputable def sC5 (c : Int32) (N : List Int32) : List Int32 := N.set (10 + c).toNatClampNeg (N.getD (10 + c).toNatClampNeg 0 + 1)
noncomputable def sCome (c b : Int32) (N : List Int32) : List Int32 := sC5 c (sC4 (sC3 (sC2 b (sC1 c N))))
end
section
theorem koh18 : (18 : Int32).toInt = 18 := by decide
theorem koh19 : (19 : Int32).toInt = 19 := by decide
theorem koh25 : (25 : Int32).toInt = 25 := by decide
theorem koh1 : (1 : Int32).toInt = 1 := by decide
theorem koh0 : (0 : Int32).toInt = 0 := by decide
theorem koh8 : (8 : Int32).toInt = 8 := by decide
theorem koh20 : (20 : Int32).toInt = 20 := by decide
theorem koh26 : (26 : Int32).toInt = 26 := by decide
theorem koh16 : (16 : Int32).toInt = 16 := by decide
theorem koh10 : (10 : Int32).toInt = 10 := by decide
theorem koh9 : (9 : Int32).toInt = 9 := by decide
theorem oh0 {a0 : Int} (h0 : a0 = 19) : (0 : Int) ≤ a0 := oz337 h0
theorem oh1 {a0 : Int} (h0 : a0 = 19) : a0 < 31 := oz338 h0
theorem oh2 {a0 : Int} (h0 : a0 = 25) : (0 : Int) ≤ a0 := oz339 h0
theorem oh3 {a0 : Int} (h0 : a0 = 25) : a0 < 31 := oz340 h0
theorem oh4 {a0 : Int} (h0 : a0 = 18) : (0 : Int) ≤ a0 := oz195 h0
theorem oh5 {a0 : Int} (h0 : a0 = 18) : a0 < 31 := oz196 h0
theorem oh6 {a0 a1 : Int} (h0 : (1 : Int) ≤ a0) (h1 : a1 = 1) : (-2147483648 : Int) ≤ a0 - a1 := oz341 h0 h1
theorem oh7 {a0 a1 : Int} (h0 : a0 ≤ 5) (h1 : a1 = 1) : a0 - a1 ≤ 2147483647 := oz342 h0 h1
theorem oh8 {a0 a1 a2 a3 : Int} (h0 : (1 : Int) ≤ a0) (h1 : a0 ≤ 5) (h2 : a1 = a0 - a2) (h3 : a2 = 1) (h4 : a3 = 18) : a3 = 18 → (0 : Int) ≤ a1 ∧ a1 ≤ 5 := oz343 h0 h1 h2 h3 h4
theorem oh9 {a0 a1 : Int} (h0 : a0 = 18) : 19 ≤ a0 → a0 ≤ 24 → (0 : Int) ≤ a1 ∧ a1 ≤ 7 := oz325 h0
theorem oh11 {a0 : Int} (h0 : (0 : Int) ≤ a0) : (0 : Int) ≤ a0 := oz3 h0
theorem oh12 {a0 : Int} (h0 : a0 ≤ 7) : a0 < 31 := oz65 h0
theorem oh14 {a0 : Int} (h0 : (0 : Int) ≤ a0) : (-2147483648 : Int) ≤ 8 * a0 := oz345 h0
theorem oh15 {a0 : Int} (h0 : a0 ≤ 7) : 8 * a0 ≤ 2147483647 := oz346 h0
theorem oh16 {a0 a1 a2 : Int} (h0 : (0 : Int) ≤ a0) (h1 : (0 : Int) ≤ a1) (h2 : a2 = 8 * a1) : (-2147483648 : Int) ≤ a2 + a0 := oz347 h0 h1 h2
theorem oh17 {a0 a1 a2 : Int} (h0 : a0 ≤ 7) (h1 : a1 ≤ 7) (h2 : a2 = 8 * a1) : a2 + a0 ≤ 2147483647 := oz348 h0 h1 h2
theorem oh18 {a0 a1 a2 a3 : Int} (h0 : (0 : Int) ≤ a0) (h1 : (0 : Int) ≤ a1) (h2 : a2 = 8 * a1) (h3 : a3 = a2 + a0) : (0 : Int) ≤ a3 := oz349 h0 h1 h2 h3
theorem oh19 {a0 a1 a2 a3 : Int} (h0 : a0 ≤ 7) (h1 : a1 ≤ 7) (h2 : a2 = 8 * a1) (h3 : a3 = a2 + a0) : a3 < 64 := oz350 h0 h1 h2 h3
theorem oh20 {a0 a1 : Int} (h0 : a0 ≤ 7) : a0 = 18 → (0 : Int) ≤ a1 ∧ a1 ≤ 5 := oz90 h0
theorem oh21 {a0 a1 : Int} (h0 : a0 ≤ 7) : 19 ≤ a0 → a0 ≤ 24 → (0 : Int) ≤ a1 ∧ a1 ≤ 7 := oz91 h0
theorem oh22 {a0 a1 : Int} (h0 : a0 ≠ a1) : a1 ≠ a0 := oz351 h0
theorem oh23 {a0 a1 : Int} (h0 : a0 ≤ 7) (h1 : a1 = 18) : a1 ≠ a0 := oz352 h0 h1
theorem oh25 {a0 a1 a2 : Int} (h0 : a0 ≠ a1) (h1 : a0 = a2) (h2 : a1 = 8) : ¬ (a2 = 8) := ob26 h0 h1 h2
theorem oh26 {a0 a1 : Int} (h0 : a0 ≠ a1) : ¬ (a0 = a1) := ob25 h0
theorem oh28 {a0 a1 : Int} (h0 : a0 = a1) : a0 = a1 := oz719 h0
theorem oh29 {a0 a1 a2 : Int} (h0 : a0 = a1) (h1 : a0 = a2) (h2 : a1 = 8) : a2 = 8 := oc119 h0 h1 h2
theorem oh30 {a0 a1 : Int} (h0 : (0 : Int) ≤ a0) (h1 : a1 = 19) : (-2147483648 : Int) ≤ a1 + a0 := oz309 h0 h1
theorem oh31 {a0 a1 a2 a3 : Int} (h0 : a0 < a1) (h1 : a1 = (a2 - 1)) (h2 : a2 ≤ 5) (h3 : a3 = 19) : a3 + a0 ≤ 2147483647 := ob31 h0 h1 h2 h3
theorem oh32 {a0 a1 : Int} (h0 : (0 : Int) ≤ a0) (h1 : a1 = 20) : (-2147483648 : Int) ≤ a1 + a0 := oz356 h0 h1
theorem oh33 {a0 a1 a2 a3 : Int} (h0 : a0 < a1) (h1 : a1 = (a2 - 1)) (h2 : a2 ≤ 5) (h3 : a3 = 20) : a3 + a0 ≤ 2147483647 := ob33 h0 h1 h2 h3
theorem oh34 {a0 a1 a2 : Int} (h0 : (0 : Int) ≤ a0) (h1 : a1 = a2 + a0) (h2 : a2 = 20) : (0 : Int) ≤ a1 := oz358 h0 h1 h2
theorem oh35 {a0 a1 a2 a3 a4 : Int} (h0 : a0 < a1) (h1 : a1 = (a2 - 1)) (h2 : a2 ≤ 5) (h3 : a3 = a4 + a0) (h4 : a4 = 20) : a3 < 31 := ob35 h0 h1 h2 h3 h4
theorem oh37 {a0 a1 a2 : Int} (h0 : (0 : Int) ≤ a0) (h1 : a1 = a2 + a0) (h2 : a2 = 19) : (0 : Int) ≤ a1 := oz311 h0 h1 h2
theorem oh38 {a0 a1 a2 a3 a4 : Int} (h0 : a0 < a1) (h1 : a1 = (a2 - 1)) (h2 : a2 ≤ 5) (h3 : a3 = a4 + a0) (h4 : a4 = 19) : a3 < 31 := ob38 h0 h1 h2 h3 h4
theorem oh39 {a0 a1 a2 a3 : Int} (h0 : (0 : Int) ≤ a0) (h1 : a1 = a2 + a0) (h2 : a2 = 19) : a1 = 18 → (0 : Int) ≤ a3 ∧ a3 ≤ 5 := oz313 h0 h1 h2
theorem oh40 {a0 a1 a2 a3 a4 a5 a6 : Int} (h0 : a0 < a1) (h1 : (0 : Int) ≤ a0) (h2 : a1 = (a2 - 1)) (h3 : a2 ≤ 5) (h4 : (19 ≤ a3 → a3 ≤ 24 → (0 : Int) ≤ a4 ∧ a4 ≤ 7)) (h5 : a3 = a5 + a0) (h6 : a5 = 20) : 19 ≤ a6 → a6 ≤ 24 → (0 : Int) ≤ a4 ∧ a4 ≤ 7 := ob40 h0 h1 h2 h3 h4 h5 h6
theorem oh41 {a0 a1 : Int} (h0 : (0 : Int) ≤ a0) (h1 : a1 = 25) : (-2147483648 : Int) ≤ a1 + a0 := oz316 h0 h1
theorem oh42 {a0 a1 a2 a3 : Int} (h0 : a0 < a1) (h1 : a1 = (a2 - 1)) (h2 : a2 ≤ 5) (h3 : a3 = 25) : a3 + a0 ≤ 2147483647 := ob42 h0 h1 h2 h3
theorem oh43 {a0 a1 : Int} (h0 : (0 : Int) ≤ a0) (h1 : a1 = 26) : (-2147483648 : Int) ≤ a1 + a0 := oz364 h0 h1
theorem oh44 {a0 a1 a2 a3 : Int} (h0 : a0 < a1) (h1 : a1 = (a2 - 1)) (h2 : a2 ≤ 5) (h3 : a3 = 26) : a3 + a0 ≤ 2147483647 := ob44 h0 h1 h2 h3
theorem oh45 {a0 a1 a2 : Int} (h0 : (0 : Int) ≤ a0) (h1 : a1 = a2 + a0) (h2 : a2 = 26) : (0 : Int) ≤ a1 := oz366 h0 h1 h2
theorem oh46 {a0 a1 a2 a3 a4 : Int} (h0 : a0 < a1) (h1 : a1 = (a2 - 1)) (h2 : a2 ≤ 5) (h3 : a3 = a4 + a0) (h4 : a4 = 26) : a3 < 31 := ob46 h0 h1 h2 h3 h4
theorem oh47 {a0 a1 a2 a3 a4 : Int} (h0 : a0 = a1 + a2) (h1 : a3 = a4 + a2) (h2 : a1 = 19) (h3 : a4 = 26) : a3 ≠ a0 := oz368 h0 h1 h2 h3
theorem oh48 {a0 a1 a2 : Int} (h0 : (0 : Int) ≤ a0) (h1 : a1 = a2 + a0) (h2 : a2 = 25) : (0 : Int) ≤ a1 := oz318 h0 h1 h2
theorem oh49 {a0 a1 a2 a3 a4 : Int} (h0 : a0 < a1) (h1 : a1 = (a2 - 1)) (h2 : a2 ≤ 5) (h3 : a3 = a4 + a0) (h4 : a4 = 25) : a3 < 31 := ob49 h0 h1 h2 h3 h4
theorem oh50 {a0 a1 a2 a3 : Int} (h0 : (0 : Int) ≤ a0) (h1 : a1 = a2 + a0) (h2 : a2 = 25) : a1 = 18 → (0 : Int) ≤ a3 ∧ a3 ≤ 5 := oz320 h0 h1 h2
theorem oh51 {a0 a1 a2 a3 : Int} (h0 : (0 : Int) ≤ a0) (h1 : a1 = a2 + a0) (h2 : a2 = 25) : 19 ≤ a1 → a1 ≤ 24 → (0 : Int) ≤ a3 ∧ a3 ≤ 7 := oz321 h0 h1 h2
theorem oh52 {a0 a1 : Int} (h0 : (0 : Int) ≤ a0) (h1 : a1 = 1) : (-2147483648 : Int) ≤ a0 + a1 := oz12 h0 h1
theorem oh53 {a0 a1 a2 a3 : Int} (h0 : a0 < a1) (h1 : a1 = (a2 - 1)) (h2 : a2 ≤ 5) (h3 : a3 = 1) : a0 + a3 ≤ 2147483647 := ob53 h0 h1 h2 h3
theorem oh54 {a0 a1 a2 : Int} (h0 : (0 : Int) ≤ a0) (h1 : a1 = a0 + a2) (h2 : a2 = 1) : (0 : Int) ≤ a1 := oz14 h0 h1 h2
theorem oh55 {a0 a1 a2 a3 : Int} (h0 : (0 : Int) ≤ a0) (h1 : a1 = a2 + a0) (h2 : a2 = 19) (h3 : a3 = 18) : a3 ≠ a1 := oz315 h0 h1 h2 h3
theorem oh56 {a0 a1 a2 a3 : Int} (h0 : (0 : Int) ≤ a0) (h1 : a1 = a2 + a0) (h2 : a2 = 25) (h3 : a3 = 18) : a3 ≠ a1 := oz322 h0 h1 h2 h3
theorem oh57 {a0 a1 a2 a3 a4 a5 : Int} (h0 : a0 < a1) (h1 : a2 = a0 + a3) (h2 : a4 = a1) (h3 : a5 = a4) (h4 : a3 = 1) : a2 ≤ a5 := ob57 h0 h1 h2 h3 h4
theorem oh59 {a0 a1 a2 : Int} (h0 : a0 = a1 + a2) (h1 : a1 = 19) : a0 = 19 + a2 := ob59 h0 h1
theorem oh60 {a0 a1 a2 : Int} (h0 : a0 = a1 + a2) (h1 : a1 = 20) : a0 = 20 + a2 := ob60 h0 h1
theorem oh61 {a0 a1 a2 : Int} (h0 : a0 = a1 + a2) (h1 : a1 = 25) : a0 = 25 + a2 := ob61 h0 h1
theorem oh62 {a0 a1 a2 : Int} (h0 : a0 = a1 + a2) (h1 : a1 = 26) : a0 = 26 + a2 := ob62 h0 h1
theorem oh63 {a0 a1 a2 : Int} (h0 : a0 = a1 + a2) (h1 : a2 = 1) : a0 = a1 + 1 := oz169 h0 h1
theorem oh64 {a0 a1 a2 : Int} (h0 : a0 = a1 + a2) (h1 : a2 = 1) : (5 - a0) < (5 - a1) := oz372 h0 h1
theorem oh65 {a0 a1 a2 : Int} (h0 : a0 < a1) (h1 : a1 = (a2 - 1)) (h2 : a2 ≤ 5) : (1 : Int) ≤ (5 - a0) := ob65 h0 h1 h2
theorem oh66 {a0 : Int} (h0 : a0 = 0) : (0 : Int) ≤ a0 := oz46 h0
theorem oh67 {a0 a1 : Int} (h0 : (0 : Int) ≤ a0) (h1 : a1 = 0) : a1 ≤ a0 := ob67 h0 h1
theorem oh68 {a0 a1 a2 a3 : Int} (h0 : a0 = a1 - a2) (h1 : a3 = a0) (h2 : a2 = 1) : a3 = (a1 - 1) := oz374 h0 h1 h2
theorem oh69 {a0 a1 a2 a3 a4 : Int} (h0 : a0 ≤ a1) (h1 : a1 ≤ a0) (h2 : a0 = (a2 - 1)) (h3 : a3 = a2 - a4) (h4 : a4 = 1) : a1 = a3 := ob69 h0 h1 h2 h3 h4
theorem oh70 {a0 a1 a2 a3 a4 : Int} (h0 : a0 = (a1 - 1)) (h1 : a2 = a0) (h2 : a3 = a2) (h3 : a4 = a3) : a4 = (a1 - 1) := oz375 h0 h1 h2 h3
theorem oh71 {a0 a1 : Int} (h0 : a0 = (a1 - 1)) : a0 = (a1 - 1) := oz376 h0
theorem oh72 {a0 a1 a2 a3 : Int} (h0 : a0 = (a1 - 1)) (h1 : a2 = a0) (h2 : a3 = a2) : a3 = (a1 - 1) := oz378 h0 h1 h2
theorem oh73 {a0 a1 : Int} (h0 : (0 : Int) ≤ a0) (h1 : a1 = 16) : (-2147483648 : Int) ≤ a1 + a0 := oz242 h0 h1
theorem oh74 {a0 a1 : Int} (h0 : a0 ≤ 7) (h1 : a1 = 16) : a1 + a0 ≤ 2147483647 := oz243 h0 h1
theorem oh75 {a0 a1 a2 : Int} (h0 : (0 : Int) ≤ a0) (h1 : a1 = a2 + a0) (h2 : a2 = 16) : (0 : Int) ≤ a1 := oz244 h0 h1 h2
theorem oh76 {a0 a1 a2 : Int} (h0 : a0 ≤ 7) (h1 : a1 = a2 + a0) (h2 : a2 = 16) : a1 < 24 := oz245 h0 h1 h2
theorem oh77 {a0 a1 a2 : Int} (h0 : a0 < a1) (h1 : a1 = a2) : a0 < a2 := od20 h0 h1
theorem oh85 {a0 a1 : Int} (h0 : (0 : Int) ≤ a0) (h1 : a1 = 10) : (-2147483648 : Int) ≤ a1 + a0 := oz251 h0 h1
theorem oh86 {a0 a1 : Int} (h0 : a0 ≤ 7) (h1 : a1 = 10) : a1 + a0 ≤ 2147483647 := oz252 h0 h1
theorem oh87 {a0 a1 a2 : Int} (h0 : (0 : Int) ≤ a0) (h1 : a1 = a2 + a0) (h2 : a2 = 10) : (0 : Int) ≤ a1 := oz253 h0 h1 h2
theorem oh88 {a0 a1 a2 : Int} (h0 : a0 ≤ 7) (h1 : a1 = a2 + a0) (h2 : a2 = 10) : a1 < 31 := oz254 h0 h1 h2
theorem oh93 {a0 : Int} (h0 : a0 = 9) : (0 : Int) ≤ a0 := oz258 h0
theorem oh94 {a0 : Int} (h0 : a0 = 9) : a0 < 31 := oz259 h0
theorem oh103 {a0 a1 a2 : Int} (h0 : a0 ≤ a1) (h1 : a0 = a2) : a2 ≤ a1 := oz1318 h0 h1
theorem oh175 {a0 : Int} (h0 : (0 : Int) ≤ a0) (h1 : a0 ≤ 7) : ((0 : Int) ≤ a0) ∧ (a0 ≤ 7) := oz181 h0 h1
theorem oh177 {a0 a1 : Int} (h0 : a0 ≤ 5) (h1 : a1 = 19) : a1 + a0 ≤ 2147483647 := oz310 h0 h1
theorem oh178 {a0 a1 a2 : Int} (h0 : a0 ≤ 5) (h1 : a1 = a2 + a0) (h2 : a2 = 19) : a1 < 31 := oz312 h0 h1 h2
theorem oh179 {a0 a1 : Int} (h0 : (0 : Int) ≤ a0) (h1 : a0 ≤ 7) : 19 ≤ a1 → a1 ≤ 24 → (0 : Int) ≤ a0 ∧ a0 ≤ 7 := oz314 h0 h1
theorem oh180 {a0 a1 : Int} (h0 : a0 ≤ 5) (h1 : a1 = 25) : a1 + a0 ≤ 2147483647 := oz317 h0 h1
theorem oh181 {a0 a1 a2 : Int} (h0 : a0 ≤ 5) (h1 : a1 = a2 + a0) (h2 : a2 = 25) : a1 < 31 := oz319 h0 h1 h2
theorem oh182 {a0 a1 : Int} (h0 : a0 ≤ 5) (h1 : a1 = 1) : a0 + a1 ≤ 2147483647 := oz323 h0 h1
theorem oh183 {a0 a1 a2 a3 a4 a5 a6 a7 : Int} (h0 : a0 < a1) (h1 : a1 ≤ 5) (h2 : (0 : Int) ≤ a2) (h3 : a3 = a2 + a4) (h4 : a5 = a0) (h5 : a6 = a5) (h6 : a2 = a6) (h7 : a4 = 1) (h8 : a7 = 18) : a7 = 18 → (0 : Int) ≤ a3 ∧ a3 ≤ 5 := oz324 h0 h1 h2 h3 h4 h5 h6 h7 h8
theorem oh184 {a0 a1 a2 a3 : Int} (h0 : (0 : Int) ≤ a0) (h1 : a1 = a2 + a0) (h2 : a2 = 19) (h3 : a3 = 9) : a3 ≠ a1 := oz326 h0 h1 h2 h3
theorem oh185 {a0 a1 a2 a3 : Int} (h0 : (0 : Int) ≤ a0) (h1 : a1 = a2 + a0) (h2 : a2 = 25) (h3 : a3 = 9) : a3 ≠ a1 := oz327 h0 h1 h2 h3
theorem oh186 {a0 a1 : Int} (h0 : a0 = 9) (h1 : a1 = 18) : a0 ≠ a1 := oz328 h0 h1
theorem oh187 {a0 a1 : Int} (h0 : a0 = 9) : a0 = 18 → (0 : Int) ≤ a1 ∧ a1 ≤ 5 := oz329 h0
theorem oh188 {a0 a1 : Int} (h0 : a0 = 9) : 19 ≤ a0 → a0 ≤ 24 → (0 : Int) ≤ a1 ∧ a1 ≤ 7 := oz330 h0
theorem oh189 {a0 a1 a2 a3 a4 a5 : Int} (h0 : a0 ≤ 7) (h1 : (0 : Int) ≤ a1) (h2 : a2 = a3 + a1) (h3 : a4 = a5 + a0) (h4 : a3 = 19) (h5 : a5 = 10) : a4 ≠ a2 := oz331 h0 h1 h2 h3 h4 h5
theorem oh190 {a0 a1 a2 a3 a4 a5 : Int} (h0 : a0 ≤ 7) (h1 : (0 : Int) ≤ a1) (h2 : a2 = a3 + a1) (h3 : a4 = a5 + a0) (h4 : a3 = 25) (h5 : a5 = 10) : a4 ≠ a2 := oz332 h0 h1 h2 h3 h4 h5
theorem oh191 {a0 a1 a2 a3 : Int} (h0 : a0 ≤ 7) (h1 : a1 = a2 + a0) (h2 : a2 = 10) (h3 : a3 = 18) : a1 ≠ a3 := oz333 h0 h1 h2 h3
theorem oh192 {a0 a1 a2 a3 : Int} (h0 : (0 : Int) ≤ a0) (h1 : a1 = a2 + a0) (h2 : a2 = 10) (h3 : a3 = 9) : a1 ≠ a3 := oz334 h0 h1 h2 h3
theorem oh193 {a0 a1 a2 a3 : Int} (h0 : a0 ≤ 7) (h1 : a1 = a2 + a0) (h2 : a2 = 10) : a1 = 18 → (0 : Int) ≤ a3 ∧ a3 ≤ 5 := oz335 h0 h1 h2
theorem oh194 {a0 a1 a2 a3 : Int} (h0 : a0 ≤ 7) (h1 : a1 = a2 + a0) (h2 : a2 = 10) : 19 ≤ a1 → a1 ≤ 24 → (0 : Int) ≤ a3 ∧ a3 ≤ 7 := oz336 h0 h1 h2
theorem oh195 {a0 a1 a2 : Int} (h0 : a0 ≠ a1) (h1 : a1 = 1) : ((a1 = 1) ∧ (¬ ((a0 = 1) ∧ (a2 = 0)))) ∨ ((a1 = 0) ∧ (a0 = 1) ∧ (a2 = 0)) := by omega
theorem oh196 {a0 a1 a2 : Int} (h0 : a0 ≠ a1) (h1 : a1 = 1) : ¬ ((a0 = 1) ∧ (a2 = 0)) := by omega
theorem oh197 {a0 a1 : Int} (h0 : a0 ≤ a1) (h1 : (1 : Int) ≤ a0) : (1 : Int) ≤ a1 := oz379 h0 h1
theorem oh198 {a0 : Int} (h0 : (1 : Int) ≤ a0) : (1 : Int) ≤ a0 := oz526 h0
theorem oh199 {a0 a1 : Int} (h0 : a0 = (a1 - 1)) : a0 = a1 - 1 := by omega
theorem oh200 {a0 a1 : Int} (h0 : a0 = (a1 - 1)) : a0 < a1 := oz380 h0
theorem oh201 {a0 a1 a2 a3 : Int} (h0 : a0 ≠ a1) (h1 : a1 = 0) (h2 : a2 = 1) : ((a2 = 1) ∧ (¬ ((a3 = 1) ∧ (a0 = 0)))) ∨ ((a2 = 0) ∧ (a3 = 1) ∧ (a0 = 0)) := by omega
theorem oh202 {a0 a1 a2 : Int} (h0 : a0 ≠ a1) (h1 : a1 = 0) : ¬ ((a2 = 1) ∧ (a0 = 0)) := by omega
theorem oh203 {a0 a1 a2 a3 : Int} (h0 : a0 = a1) (h1 : a2 = a3) (h2 : a1 = 1) (h3 : a3 = 0) : ((a3 = 1) ∧ (¬ ((a0 = 1) ∧ (a2 = 0)))) ∨ ((a3 = 0) ∧ (a0 = 1) ∧ (a2 = 0)) := by omega
theorem oh204 {a0 a1 a2 a3 : Int} (h0 : a0 = a1) (h1 : a2 = a3) (h2 : a1 = 1) (h3 : a3 = 0) : ¬ (¬ ((a0 = 1) ∧ (a2 = 0))) := by omega
noncomputable def zw165_116 : kW := ([7464, 7465, 7467], [118, 141], [], [])
noncomputable def zw165_116_L30 : kW := ([], [118], [], [])
set_option maxRecDepth 100000 in
theorem kf165_116 {i : Nat → Int32} {a : Nat → List Int32} {q : Nat → List Int64} {r : Nat → Nat} (hI : kI i a q) (hr : kr r) (x1 : Int32) (hp0 : ((0 : Int) ≤ x1.toInt) ∧ (x1.toInt ≤ 7)) (hp1 : (1 : Int) ≤ ((a 118).getD (18 : Int32).toNatClampNeg 0).toInt) : km 1 165 [.ref 116, .int x1] (ks i a q r) (kVN zw165_116 i a q r (fun i1 a1 q1 r1 => (((a1 118).getD (18 : Int32).toNatClampNeg 0).toInt = (((a 118).getD (18 : Int32).toNatClampNeg 0).toInt - 1)) ∧ (a1 118, i1 7464, i1 7465, i1 7467, a1 141) = sPay x1 (a 118, i 7464, i 7465, i 7467, a 141))) := by
  have hG := kG_self zw165_116 hI hr
  refine km_ofN (q := (mi_h165, mi_c165)) rfl (by decide) (Nat.le_of_ble_eq_true rfl) ?_
  intro P hP
  have r1 : ((0 : Int) ≤ ((a 118).getD (18 : Int32).toNatClampNeg 0).toInt) ∧ (((a 118).getD (18 : Int32).toNatClampNeg 0).toInt ≤ 5) := kE_n18 (p := 118) hG.I (by decide)
  refine fo_goL mi_k165 fz165_0_3_6 [(0, .ref 116), (1, .int x1)] [.int 19, .ref 118] rfl ?_
  refine ko_iald3 mi_k165.1 (n := 31) (c := 31) (ax := (0, 0, 0, 0, 0)) (mi_k165.2 _ _ (by rfl)) (by rfl) (ksG118 _ _ _ _) (hG.I.2.1 118) rfl (oh0 koh19) (oh1 koh19) ?_
  have r2 : ((0 : Int) ≤ ((a 118).getD (19 : Int32).toNatClampNeg 0).toInt) ∧ (((a 118).getD (19 : Int32).toNatClampNeg 0).toInt ≤ 7) := kE_nwho (p := 118) hG.I (by decide) (j := 19) (by decide) (by decide)
  refine fo_goL mi_k165 fz165_7_4_14 [(2, .int ((a 118).getD (19 : Int32).toNatClampNeg 0)), (0, .ref 116), (1, .int x1)] [.int 25, .ref 118] rfl ?_
  refine ko_iald3 mi_k165.1 (n := 31) (c := 31) (ax := (0, 0, 0, 0, 0)) (mi_k165.2 _ _ (by rfl)) (by rfl) (ksG118 _ _ _ _) (hG.I.2.1 118) rfl (oh2 koh25) (oh3 koh25) ?_
  refine fo_goL mi_k165 fz165_15_5_23 [(3, .int ((a 118).getD (25 : Int32).toNatClampNeg 0)), (2, .int ((a 118).getD (19 : Int32).toNatClampNeg 0)), (0, .ref 116), (1, .int x1)] [.int 18, .ref 118, .int 18, .ref 118] rfl ?_
  refine ko_iald3 mi_k165.1 (n := 31) (c := 31) (ax := (0, 0, 0, 0, 0)) (mi_k165.2 _ _ (by rfl)) (by rfl) (ksG118 _ _ _ _) (hG.I.2.1 118) rfl (oh4 koh18) (oh5 koh18) ?_
  have s3 : (((a 118).getD (18 : Int32).toNatClampNeg 0) - 1).toInt = ((a 118).getD (18 : Int32).toNatClampNeg 0).toInt - (1 : Int32).toInt := kd_sub (oh6 hp1 koh1) (oh7 r1.2 koh1)
  refine ft_goS mi_k165 2 26 [.int (((a 118).getD (18 : Int32).toNatClampNeg 0) - 1), .int 18, .ref 118] (by rfl) ?_
  refine ko_iast3 mi_k165.1 (n := 31) (c := 31) (ax := (0, 0, 0, 0, 0)) (mi_k165.2 _ _ (by rfl)) (by rfl) (ksG118 _ _ _ _) (ksA118 _ _ _ _) (hG.I.2.1 118) rfl (oh4 koh18) (oh5 koh18) ?_
  intro a4 ea4 fa4
  have hJ4 := kG_a3 hG 118 rfl ea4 fa4 (kE_nset (p := 118) (by decide) (oh4 koh18) (oh8 hp1 r1.2 s3 koh1 koh18) (oh9 koh18))
  first | refine fo_goL mi_k165 fz165_27_2_30 [(4, .int 0), (3, .int ((a 118).getD (25 : Int32).toNatClampNeg 0)), (2, .int ((a 118).getD (19 : Int32).toNatClampNeg 0)), (0, .ref 116), (1, .int x1)] [] (by rfl) ?_ | refine fo_goL mi_k165 fz165_82_2_30 [(4, .int 0), (3, .int ((a 118).getD (25 : Int32).toNatClampNeg 0)), (2, .int ((a 118).getD (19 : Int32).toNatClampNeg 0)), (0, .ref 116), (1, .int x1)] [] (by rfl) ?_
  have lp5 : ∀ (nz : Nat) (i5 : Nat → Int32) (a5 : Nat → List Int32) (q5 : Nat → List Int64) (r5 : Nat → Nat) (l4_5 : Int32), kG zw165_116_L30 i a4 q r i5 a5 q5 r5 → (0 : Int) ≤ l4_5.toInt → l4_5.toInt ≤ ((a5 118).getD (18 : Int32).toNatClampNeg 0).toInt → ((a5 118).getD (18 : Int32).toNatClampNeg 0).toInt = (((a 118).getD (18 : Int32).toNatClampNeg 0).toInt - 1) → a5 118 = sSh l4_5.toInt.toNat (a4 118) → ((5 - l4_5.toInt)).toNat < nz → ko 1 (mi_h165, mi_c165) P (30, [(4, .int l4_5), (3, .int ((a 118).getD (25 : Int32).toNatClampNeg 0)), (2, .int ((a 118).getD (19 : Int32).toNatClampNeg 0)), (0, .ref 116), (1, .int x1)], [], (0, 0), ks i5 a5 q5 r5) := by
    intro nz
    induction nz with
    | zero =>
      intro _ _ _ _ _ _ _ _ _ _ hm
      exact absurd hm (Nat.not_lt_zero _)
    | succ nz ih5 =>
      intro i5 a5 q5 r5 l4_5 hL5 p5_0 p5_1 p5_2 O5_0 hm5
      have r8 : ((0 : Int) ≤ ((a5 118).getD (18 : Int32).toNatClampNeg 0).toInt) ∧ (((a5 118).getD (18 : Int32).toNatClampNeg 0).toInt ≤ 5) := kE_n18 (p := 118) hL5.I (by decide)
      refine fo_goL mi_k165 fz165_30_4_38 [(4, .int l4_5), (3, .int ((a 118).getD (25 : Int32).toNatClampNeg 0)), (2, .int ((a 118).getD (19 : Int32).toNatClampNeg 0)), (0, .ref 116), (1, .int x1)] [.int 18, .ref 118, .int l4_5] rfl ?_
      refine ko_iald3 mi_k165.1 (n := 31) (c := 31) (ax := (0, 0, 0, 0, 0)) (mi_k165.2 _ _ (by rfl)) (by rfl) (ksG118 _ _ _ _) (hL5.I.2.1 118) rfl (oh4 koh18) (oh5 koh18) ?_
      refine ft_ifS mi_k165 (decide (((a5 118).getD (18 : Int32).toNatClampNeg 0) ≤ l4_5)) 88 42 [] (by rfl) (fun c => ?_) (fun c => ?_)
      ·
        have c9 : ((a5 118).getD (18 : Int32).toNatClampNeg 0).toInt ≤ l4_5.toInt := kd_le c; clear c
        have hG10 := kG_call hJ4 hL5 (by decide +kernel)
        have qd11 : a5 118 = sDrop (a 118) := sDrop_of O5_0 (ea4) rfl (oh69 c9 p5_1 p5_2 s3 koh1)
        have efi5_7464 : (i5 7464).toInt = (i 7464).toInt := hL5.ti 7464 rfl
        refine fo_goS mi_k165 fz165_88_3_94 [.int 8, .int (i5 7464)] rfl ?_
        refine ft_ifS mi_k165 ((i5 7464) != 8) 102 97 [] (by rfl) (fun c => ?_) (fun c => ?_)
        ·
          have c12 : (i5 7464).toInt ≠ (8 : Int32).toInt := kd_ne c; clear c
          refine ft_goS mi_k165 2 104 [.int x1, .int ((a 118).getD (19 : Int32).toNatClampNeg 0)] (by rfl) ?_
          refine ft_ifS mi_k165 (((a 118).getD (19 : Int32).toNatClampNeg 0) != x1) 108 107 [] (by rfl) (fun c => ?_) (fun c => ?_)
          ·
            have c13 : ((a 118).getD (19 : Int32).toNatClampNeg 0).toInt ≠ x1.toInt := kd_ne c; clear c
            refine fo_goS mi_k165 fz165_108_4_114 [.int ((a 118).getD (19 : Int32).toNatClampNeg 0), .ref 118, .int ((a 118).getD (25 : Int32).toNatClampNeg 0)] rfl ?_
            refine ko_iald3 mi_k165.1 (n := 31) (c := 31) (ax := (0, 0, 0, 0, 0)) (mi_k165.2 _ _ (by rfl)) (by rfl) (ksG118 _ _ _ _) (hG10.I.2.1 118) rfl (oh11 r2.1) (oh12 r2.2) ?_
            have r14 : ((((a 118).getD (19 : Int32).toNatClampNeg 0).toInt = 18 → (0 : Int) ≤ ((a5 118).getD ((a 118).getD (19 : Int32).toNatClampNeg 0).toNatClampNeg 0).toInt ∧ ((a5 118).getD ((a 118).getD (19 : Int32).toNatClampNeg 0).toNatClampNeg 0).toInt ≤ 5)) ∧ ((19 ≤ ((a 118).getD (19 : Int32).toNatClampNeg 0).toInt → ((a 118).getD (19 : Int32).toNatClampNeg 0).toInt ≤ 24 → (0 : Int) ≤ ((a5 118).getD ((a 118).getD (19 : Int32).toNatClampNeg 0).toNatClampNeg 0).toInt ∧ ((a5 118).getD ((a 118).getD (19 : Int32).toNatClampNeg 0).toNatClampNeg 0).toInt ≤ 7)) := kE_ncond (p := 118) hG10.I (by decide) (j := ((a 118).getD (19 : Int32).toNatClampNeg 0)) (oh11 r2.1)
            have m16 : (((bif decide (((a5 118).getD ((a 118).getD (19 : Int32).toNatClampNeg 0).toNatClampNeg 0) < ((a 118).getD (25 : Int32).toNatClampNeg 0)) then ((a5 118).getD ((a 118).getD (19 : Int32).toNatClampNeg 0).toNatClampNeg 0) else ((a 118).getD (25 : Int32).toNatClampNeg 0)).toInt ≤ ((a 118).getD (25 : Int32).toNatClampNeg 0).toInt) ∧ ((bif decide (((a5 118).getD ((a 118).getD (19 : Int32).toNatClampNeg 0).toNatClampNeg 0) < ((a 118).getD (25 : Int32).toNatClampNeg 0)) then ((a5 118).getD ((a 118).getD (19 : Int32).toNatClampNeg 0).toNatClampNeg 0) else ((a 118).getD (25 : Int32).toNatClampNeg 0)).toInt ≤ ((a5 118).getD ((a 118).getD (19 : Int32).toNatClampNeg 0).toNatClampNeg 0).toInt)) ∧ ((bif decide (((a5 118).getD ((a 118).getD (19 : Int32).toNatClampNeg 0).toNatClampNeg 0) < ((a 118).getD (25 : Int32).toNatClampNeg 0)) then ((a5 118).getD ((a 118).getD (19 : Int32).toNatClampNeg 0).toNatClampNeg 0) else ((a 118).getD (25 : Int32).toNatClampNeg 0)).toInt = ((a 118).getD (25 : Int32).toNatClampNeg 0).toInt ∨ (bif decide (((a5 118).getD ((a 118).getD (19 : Int32).toNatClampNeg 0).toNatClampNeg 0) < ((a 118).getD (25 : Int32).toNatClampNeg 0)) then ((a5 118).getD ((a 118).getD (19 : Int32).toNatClampNeg 0).toNatClampNeg 0) else ((a 118).getD (25 : Int32).toNatClampNeg 0)).toInt = ((a5 118).getD ((a 118).getD (19 : Int32).toNatClampNeg 0).toNatClampNeg 0).toInt) := kd_min
            refine ft_goS mi_k165 1 118 [.int (bif decide (((a5 118).getD ((a 118).getD (19 : Int32).toNatClampNeg 0).toNatClampNeg 0) < ((a 118).getD (25 : Int32).toNatClampNeg 0)) then ((a5 118).getD ((a 118).getD (19 : Int32).toNatClampNeg 0).toNatClampNeg 0) else ((a 118).getD (25 : Int32).toNatClampNeg 0))] (by rfl) ?_
            generalize hm15 : (bif decide (((a5 118).getD ((a 118).getD (19 : Int32).toNatClampNeg 0).toNatClampNeg 0) < ((a 118).getD (25 : Int32).toNatClampNeg 0)) then ((a5 118).getD ((a 118).getD (19 : Int32).toNatClampNeg 0).toNatClampNeg 0) else ((a 118).getD (25 : Int32).toNatClampNeg 0)) = m15 at m16 ⊢
            have qm15 := hm15.symm
            have b17 : ((-2147483648 : Int) ≤ ((a 118).getD (25 : Int32).toNatClampNeg 0).toInt) ∧ (((a 118).getD (25 : Int32).toNatClampNeg 0).toInt ≤ 2147483647) := kd_bd ((a 118).getD (25 : Int32).toNatClampNeg 0)
            have b18 : ((-2147483648 : Int) ≤ m15.toInt) ∧ (m15.toInt ≤ 2147483647) := kd_bd m15
            have b19 : ((-2147483648 : Int) ≤ (i5 7467).toInt) ∧ ((i5 7467).toInt ≤ 2147483647) := kd_bd (i5 7467)
            have b20 : ((-2147483648 : Int) ≤ (((a 118).getD (25 : Int32).toNatClampNeg 0) - m15).toInt) ∧ ((((a 118).getD (25 : Int32).toNatClampNeg 0) - m15).toInt ≤ 2147483647) := kd_bd (((a 118).getD (25 : Int32).toNatClampNeg 0) - m15)
            have hJ21 := kG_i hG10 7467 rfl (v := ((i5 7467) + (((a 118).getD (25 : Int32).toNatClampNeg 0) - m15))) (kd_bd _)
            have b22 : ((-2147483648 : Int) ≤ (i5 7465).toInt) ∧ ((i5 7465).toInt ≤ 2147483647) := kd_bd (i5 7465)
            have hJ23 := kG_i hJ21 7465 rfl (v := ((i5 7465) + m15)) (kd_bd _)
            have s24 : (8 * ((a 118).getD (19 : Int32).toNatClampNeg 0)).toInt = 8 * ((a 118).getD (19 : Int32).toNatClampNeg 0).toInt := kd_cmul 8 koh8 (oh14 r2.1) (oh15 r2.2)
            have s25 : ((8 * ((a 118).getD (19 : Int32).toNatClampNeg 0)) + x1).toInt = (8 * ((a 118).getD (19 : Int32).toNatClampNeg 0)).toInt + x1.toInt := kd_add (oh16 hp0.1 r2.1 s24) (oh17 hp0.2 r2.2 s24)
            first | refine fo_go mi_k165 fz165_118_23_155 [(4, .int m15), (3, .int ((a 118).getD (25 : Int32).toNatClampNeg 0)), (2, .int ((a 118).getD (19 : Int32).toNatClampNeg 0)), (0, .ref 116), (1, .int x1)] [.int ((8 * ((a 118).getD (19 : Int32).toNatClampNeg 0)) + x1), .ref 141, .int ((8 * ((a 118).getD (19 : Int32).toNatClampNeg 0)) + x1), .ref 141] (ku (ku i5 7467 ((i5 7467) + (((a 118).getD (25 : Int32).toNatClampNeg 0) - m15))) 7465 ((i5 7465) + m15)) a5 q5 r5 (by rfl) ?_ | refine ft_go mi_k165 23 155 [(4, .int m15), (3, .int ((a 118).getD (25 : Int32).toNatClampNeg 0)), (2, .int ((a 118).getD (19 : Int32).toNatClampNeg 0)), (0, .ref 116), (1, .int x1)] [.int ((8 * ((a 118).getD (19 : Int32).toNatClampNeg 0)) + x1), .ref 141, .int ((8 * ((a 118).getD (19 : Int32).toNatClampNeg 0)) + x1), .ref 141] (ku (ku i5 7467 ((i5 7467) + (((a 118).getD (25 : Int32).toNatClampNeg 0) - m15))) 7465 ((i5 7465) + m15)) a5 q5 r5 (by rfl) ?_
            refine ko_iald3 mi_k165.1 (n := 64) (c := 64) (ax := (0, 0, 0, 0, 0)) (mi_k165.2 _ _ (by rfl)) (by rfl) (ksG141 _ _ _ _) (hJ23.I.2.1 141) rfl (oh18 hp0.1 r2.1 s24 s25) (oh19 hp0.2 r2.2 s24 s25) ?_
            have b26 : ((-2147483648 : Int) ≤ ((a5 141).getD ((8 * ((a 118).getD (19 : Int32).toNatClampNeg 0)) + x1).toNatClampNeg 0).toInt) ∧ (((a5 141).getD ((8 * ((a 118).getD (19 : Int32).toNatClampNeg 0)) + x1).toNatClampNeg 0).toInt ≤ 2147483647) := kd_bd ((a5 141).getD ((8 * ((a 118).getD (19 : Int32).toNatClampNeg 0)) + x1).toNatClampNeg 0)
            refine fo_goS mi_k165 fz165_156_2_159 [.int (((a5 141).getD ((8 * ((a 118).getD (19 : Int32).toNatClampNeg 0)) + x1).toNatClampNeg 0) + m15), .int ((8 * ((a 118).getD (19 : Int32).toNatClampNeg 0)) + x1), .ref 141] rfl ?_
            refine ko_iast3 mi_k165.1 (n := 64) (c := 64) (ax := (0, 0, 0, 0, 0)) (mi_k165.2 _ _ (by rfl)) (by rfl) (ksG141 _ _ _ _) (ksA141 _ _ _ _) (hJ23.I.2.1 141) rfl (oh18 hp0.1 r2.1 s24 s25) (oh19 hp0.2 r2.2 s24 s25) ?_
            intro a27 ea27 fa27
            have hJ27 := kG_a3 hJ23 141 rfl ea27 fa27 (kd_bd _)
            refine fo_goS mi_k165 fz165_160_4_166 [.int ((a 118).getD (19 : Int32).toNatClampNeg 0), .ref 118, .int ((a 118).getD (19 : Int32).toNatClampNeg 0), .ref 118] rfl ?_
            refine ko_iald3 mi_k165.1 (n := 31) (c := 31) (ax := (0, 0, 0, 0, 0)) (mi_k165.2 _ _ (by rfl)) (by rfl) (ksG118 _ _ _ _) (hJ27.I.2.1 118) rfl (oh11 r2.1) (oh12 r2.2) ?_
            have r28 : ((((a 118).getD (19 : Int32).toNatClampNeg 0).toInt = 18 → (0 : Int) ≤ ((a27 118).getD ((a 118).getD (19 : Int32).toNatClampNeg 0).toNatClampNeg 0).toInt ∧ ((a27 118).getD ((a 118).getD (19 : Int32).toNatClampNeg 0).toNatClampNeg 0).toInt ≤ 5)) ∧ ((19 ≤ ((a 118).getD (19 : Int32).toNatClampNeg 0).toInt → ((a 118).getD (19 : Int32).toNatClampNeg 0).toInt ≤ 24 → (0 : Int) ≤ ((a27 118).getD ((a 118).getD (19 : Int32).toNatClampNeg 0).toNatClampNeg 0).toInt ∧ ((a27 118).getD ((a 118).getD (19 : Int32).toNatClampNeg 0).toNatClampNeg 0).toInt ≤ 7)) := kE_ncond (p := 118) hJ27.I (by decide) (j := ((a 118).getD (19 : Int32).toNatClampNeg 0)) (oh11 r2.1)
            have u29 : ((a27 118).getD ((a 118).getD (19 : Int32).toNatClampNeg 0).toNatClampNeg 0).toInt = ((a5 118).getD ((a 118).getD (19 : Int32).toNatClampNeg 0).toNatClampNeg 0).toInt := congrArg (fun z : List Int32 => (z.getD ((a 118).getD (19 : Int32).toNatClampNeg 0).toNatClampNeg 0).toInt) (fa27 118 (by decide))
            have b30 : ((-2147483648 : Int) ≤ ((a27 118).getD ((a 118).getD (19 : Int32).toNatClampNeg 0).toNatClampNeg 0).toInt) ∧ (((a27 118).getD ((a 118).getD (19 : Int32).toNatClampNeg 0).toNatClampNeg 0).toInt ≤ 2147483647) := kd_bd ((a27 118).getD ((a 118).getD (19 : Int32).toNatClampNeg 0).toNatClampNeg 0)
            refine fo_goS mi_k165 fz165_167_2_170 [.int (((a27 118).getD ((a 118).getD (19 : Int32).toNatClampNeg 0).toNatClampNeg 0) - m15), .int ((a 118).getD (19 : Int32).toNatClampNeg 0), .ref 118] rfl ?_
            refine ko_iast3 mi_k165.1 (n := 31) (c := 31) (ax := (0, 0, 0, 0, 0)) (mi_k165.2 _ _ (by rfl)) (by rfl) (ksG118 _ _ _ _) (ksA118 _ _ _ _) (hJ27.I.2.1 118) rfl (oh11 r2.1) (oh12 r2.2) ?_
            intro a31 ea31 fa31
            have hJ31 := kG_a3 hJ27 118 rfl ea31 fa31 (kE_nset (p := 118) (by decide) (oh11 r2.1) (oh20 r2.2) (oh21 r2.2))
            refine fo_goS mi_k165 fz165_171_7_184 [.int x1, .ref 118, .int 999, .int x1, .ref 118] rfl ?_
            refine ko_iald3 mi_k165.1 (n := 31) (c := 31) (ax := (0, 0, 0, 0, 0)) (mi_k165.2 _ _ (by rfl)) (by rfl) (ksG118 _ _ _ _) (hJ31.I.2.1 118) rfl (oh11 hp0.1) (oh12 hp0.2) ?_
            have r32 : ((x1.toInt = 18 → (0 : Int) ≤ ((a31 118).getD x1.toNatClampNeg 0).toInt ∧ ((a31 118).getD x1.toNatClampNeg 0).toInt ≤ 5)) ∧ ((19 ≤ x1.toInt → x1.toInt ≤ 24 → (0 : Int) ≤ ((a31 118).getD x1.toNatClampNeg 0).toInt ∧ ((a31 118).getD x1.toNatClampNeg 0).toInt ≤ 7)) := kE_ncond (p := 118) hJ31.I (by decide) (j := x1) (oh11 hp0.1)
            have u33 : ((a27 118).getD x1.toNatClampNeg 0).toInt = ((a5 118).getD x1.toNatClampNeg 0).toInt := congrArg (fun z : List Int32 => (z.getD x1.toNatClampNeg 0).toInt) (fa27 118 (by decide))
            have u34 : ((a31 118).getD x1.toNatClampNeg 0).toInt = ((a27 118).getD x1.toNatClampNeg 0).toInt := congrArg Int32.toInt ((congrArg (fun z : List Int32 => z.getD x1.toNatClampNeg 0) ea31).trans (kgs_ne (oh11 hp0.1) (oh11 r2.1) (oh22 c13)))
            have b35 : ((-2147483648 : Int) ≤ ((a31 118).getD x1.toNatClampNeg 0).toInt) ∧ (((a31 118).getD x1.toNatClampNeg 0).toInt ≤ 2147483647) := kd_bd ((a31 118).getD x1.toNatClampNeg 0)
            refine fo_goS mi_k165 fz165_185_2_188 [.int (((a31 118).getD x1.toNatClampNeg 0) + m15), .int 999, .int x1, .ref 118] rfl ?_
            have m37 : (((bif decide ((((a31 118).getD x1.toNatClampNeg 0) + m15) < 999) then (((a31 118).getD x1.toNatClampNeg 0) + m15) else 999).toInt ≤ (999 : Int32).toInt) ∧ ((bif decide ((((a31 118).getD x1.toNatClampNeg 0) + m15) < 999) then (((a31 118).getD x1.toNatClampNeg 0) + m15) else 999).toInt ≤ (((a31 118).getD x1.toNatClampNeg 0) + m15).toInt)) ∧ ((bif decide ((((a31 118).getD x1.toNatClampNeg 0) + m15) < 999) then (((a31 118).getD x1.toNatClampNeg 0) + m15) else 999).toInt = (999 : Int32).toInt ∨ (bif decide ((((a31 118).getD x1.toNatClampNeg 0) + m15) < 999) then (((a31 118).getD x1.toNatClampNeg 0) + m15) else 999).toInt = (((a31 118).getD x1.toNatClampNeg 0) + m15).toInt) := kd_min
            refine ft_goS mi_k165 1 191 [.int (bif decide ((((a31 118).getD x1.toNatClampNeg 0) + m15) < 999) then (((a31 118).getD x1.toNatClampNeg 0) + m15) else 999), .int x1, .ref 118] (by rfl) ?_
            generalize hm36 : (bif decide ((((a31 118).getD x1.toNatClampNeg 0) + m15) < 999) then (((a31 118).getD x1.toNatClampNeg 0) + m15) else 999) = m36 at m37 ⊢
            have qm36 := hm36.symm
            refine ko_iast3 mi_k165.1 (n := 31) (c := 31) (ax := (0, 0, 0, 0, 0)) (mi_k165.2 _ _ (by rfl)) (by rfl) (ksG118 _ _ _ _) (ksA118 _ _ _ _) (hJ31.I.2.1 118) rfl (oh11 hp0.1) (oh12 hp0.2) ?_
            intro a38 ea38 fa38
            have hJ38 := kG_a3 hJ31 118 rfl ea38 fa38 (kE_nset (p := 118) (by decide) (oh11 hp0.1) (oh20 hp0.2) (oh21 hp0.2))
            have r39 : ((0 : Int) ≤ ((a38 118).getD (18 : Int32).toNatClampNeg 0).toInt) ∧ (((a38 118).getD (18 : Int32).toNatClampNeg 0).toInt ≤ 5) := kE_n18 (p := 118) hJ38.I (by decide)
            have u40 : ((a27 118).getD (18 : Int32).toNatClampNeg 0).toInt = ((a5 118).getD (18 : Int32).toNatClampNeg 0).toInt := congrArg (fun z : List Int32 => (z.getD (18 : Int32).toNatClampNeg 0).toInt) (fa27 118 (by decide))
            have u41 : ((a31 118).getD (18 : Int32).toNatClampNeg 0).toInt = ((a27 118).getD (18 : Int32).toNatClampNeg 0).toInt := congrArg Int32.toInt ((congrArg (fun z : List Int32 => z.getD (18 : Int32).toNatClampNeg 0) ea31).trans (kgs_ne (oh4 koh18) (oh11 r2.1) (oh23 r2.2 koh18)))
            have u42 : ((a38 118).getD (18 : Int32).toNatClampNeg 0).toInt = ((a31 118).getD (18 : Int32).toNatClampNeg 0).toInt := congrArg Int32.toInt ((congrArg (fun z : List Int32 => z.getD (18 : Int32).toNatClampNeg 0) ea38).trans (kgs_ne (oh4 koh18) (oh11 hp0.1) (oh23 hp0.2 koh18)))
            exact ft_ret mi_k165 (by rfl) (hP  _ _ _ _ hJ38 ⟨(oh70 p5_2 u40 u41 u42), ((kT5 (show a38 118 = sGive x1 (a 118) from (by first | rfl | (simp only [ea38, ea31, qm36, qm15, qd11, fa27 118 (by decide), sMn, sMx, sGive, sCoin]; done) | (simp only [ea38, ea31, qm36, qm15, qd11, fa27 118 (by decide), sMn, sMx, sGive, sCoin]; rfl))) ((show i5 7464 = i 7464 from (by first | rfl | (simp only [(hL5.fi 7464 rfl : i5 7464 = i 7464), sMn, sMx, sGive, sCoin]; done) | (simp only [(hL5.fi 7464 rfl : i5 7464 = i 7464), sMn, sMx, sGive, sCoin]; rfl))).trans (cY_neg (y := i 7464) (d := (a 118).getD 19 0) (oh25 c12 efi5_7464 koh8))) (show ((i5 7465) + m15) = i 7465 + sCoin (a 118) from (by first | rfl | (simp only [(hL5.fi 7465 rfl : i5 7465 = i 7465), qm15, qd11, sMn, sMx, sGive, sCoin]; done) | (simp only [(hL5.fi 7465 rfl : i5 7465 = i 7465), qm15, qd11, sMn, sMx, sGive, sCoin]; rfl))) (show ((i5 7467) + (((a 118).getD (25 : Int32).toNatClampNeg 0) - m15)) = i 7467 + ((a 118).getD (25 : Int32).toNatClampNeg 0 - sCoin (a 118)) from (by first | rfl | (simp only [(hL5.fi 7467 rfl : i5 7467 = i 7467), qm15, qd11, sMn, sMx, sGive, sCoin]; done) | (simp only [(hL5.fi 7467 rfl : i5 7467 = i 7467), qm15, qd11, sMn, sMx, sGive, sCoin]; rfl))) (show a38 141 = (a 141).set ((8 * ((a 118).getD (19 : Int32).toNatClampNeg 0)) + x1).toNatClampNeg ((a 141).getD ((8 * ((a 118).getD (19 : Int32).toNatClampNeg 0)) + x1).toNatClampNeg 0 + sCoin (a 118)) from (by first | rfl | (simp only [fa38 141 (by decide), fa31 141 (by decide), ea27, hL5.fa 141 rfl, qm15, qd11, fa4 141 (by decide), sMn, sMx, sGive, sCoin]; done) | (simp only [fa38 141 (by decide), fa31 141 (by decide), ea27, hL5.fa 141 rfl, qm15, qd11, fa4 141 (by decide), sMn, sMx, sGive, sCoin]; rfl)))).trans (show _ = sPay x1 (a 118, i 7464, i 7465, i 7467, a 141) from (if_neg (oh26 c13)).symm))⟩)
          ·
            have c43 : ((a 118).getD (19 : Int32).toNatClampNeg 0).toInt = x1.toInt := kd_neF c; clear c
            exact ft_ret mi_k165 (by rfl) (hP  _ _ _ _ hG10 ⟨(oh71 p5_2), ((kT5 (show a5 118 = sDrop (a 118) from (by first | rfl | (simp only [qd11, sMn, sMx, sGive, sCoin]; done) | (simp only [qd11, sMn, sMx, sGive, sCoin]; rfl))) ((show i5 7464 = i 7464 from (by first | rfl | (simp only [(hL5.fi 7464 rfl : i5 7464 = i 7464), sMn, sMx, sGive, sCoin]; done) | (simp only [(hL5.fi 7464 rfl : i5 7464 = i 7464), sMn, sMx, sGive, sCoin]; rfl))).trans (cY_neg (y := i 7464) (d := (a 118).getD 19 0) (oh25 c12 efi5_7464 koh8))) (show i5 7465 = i 7465 from (by first | rfl | (simp only [(hL5.fi 7465 rfl : i5 7465 = i 7465), sMn, sMx, sGive, sCoin]; done) | (simp only [(hL5.fi 7465 rfl : i5 7465 = i 7465), sMn, sMx, sGive, sCoin]; rfl))) (show i5 7467 = i 7467 from (by first | rfl | (simp only [(hL5.fi 7467 rfl : i5 7467 = i 7467), sMn, sMx, sGive, sCoin]; done) | (simp only [(hL5.fi 7467 rfl : i5 7467 = i 7467), sMn, sMx, sGive, sCoin]; rfl))) (show a5 141 = a 141 from (by first | rfl | (simp only [hL5.fa 141 rfl, fa4 141 (by decide), sMn, sMx, sGive, sCoin]; done) | (simp only [hL5.fa 141 rfl, fa4 141 (by decide), sMn, sMx, sGive, sCoin]; rfl)))).trans (show _ = sPay x1 (a 118, i 7464, i 7465, i 7467, a 141) from (if_pos (oh28 c43)).symm))⟩)
        ·
          have c44 : (i5 7464).toInt = (8 : Int32).toInt := kd_neF c; clear c
          have hJ45 := kG_i hG10 7464 rfl (v := ((a 118).getD (19 : Int32).toNatClampNeg 0)) (kd_bd _)
          first | refine fo_goI mi_k165 fz165_97_5_104 [.int x1, .int ((a 118).getD (19 : Int32).toNatClampNeg 0)] (ku i5 7464 ((a 118).getD (19 : Int32).toNatClampNeg 0)) (by rfl) ?_ | refine ft_goS mi_k165 5 104 [.int x1, .int ((a 118).getD (19 : Int32).toNatClampNeg 0)] (by rfl) ?_ | refine ft_go mi_k165 5 104 [(4, .int l4_5), (3, .int ((a 118).getD (25 : Int32).toNatClampNeg 0)), (2, .int ((a 118).getD (19 : Int32).toNatClampNeg 0)), (0, .ref 116), (1, .int x1)] [.int x1, .int ((a 118).getD (19 : Int32).toNatClampNeg 0)] (ku i5 7464 ((a 118).getD (19 : Int32).toNatClampNeg 0)) a5 q5 r5 (by rfl) ?_
          refine ft_ifS mi_k165 (((a 118).getD (19 : Int32).toNatClampNeg 0) != x1) 108 107 [] (by rfl) (fun c => ?_) (fun c => ?_)
          ·
            have c46 : ((a 118).getD (19 : Int32).toNatClampNeg 0).toInt ≠ x1.toInt := kd_ne c; clear c
            refine fo_goS mi_k165 fz165_108_4_114 [.int ((a 118).getD (19 : Int32).toNatClampNeg 0), .ref 118, .int ((a 118).getD (25 : Int32).toNatClampNeg 0)] rfl ?_
            refine ko_iald3 mi_k165.1 (n := 31) (c := 31) (ax := (0, 0, 0, 0, 0)) (mi_k165.2 _ _ (by rfl)) (by rfl) (ksG118 _ _ _ _) (hJ45.I.2.1 118) rfl (oh11 r2.1) (oh12 r2.2) ?_
            have r47 : ((((a 118).getD (19 : Int32).toNatClampNeg 0).toInt = 18 → (0 : Int) ≤ ((a5 118).getD ((a 118).getD (19 : Int32).toNatClampNeg 0).toNatClampNeg 0).toInt ∧ ((a5 118).getD ((a 118).getD (19 : Int32).toNatClampNeg 0).toNatClampNeg 0).toInt ≤ 5)) ∧ ((19 ≤ ((a 118).getD (19 : Int32).toNatClampNeg 0).toInt → ((a 118).getD (19 : Int32).toNatClampNeg 0).toInt ≤ 24 → (0 : Int) ≤ ((a5 118).getD ((a 118).getD (19 : Int32).toNatClampNeg 0).toNatClampNeg 0).toInt ∧ ((a5 118).getD ((a 118).getD (19 : Int32).toNatClampNeg 0).toNatClampNeg 0).toInt ≤ 7)) := kE_ncond (p := 118) hJ45.I (by decide) (j := ((a 118).getD (19 : Int32).toNatClampNeg 0)) (oh11 r2.1)
            have m49 : (((bif decide (((a5 118).getD ((a 118).getD (19 : Int32).toNatClampNeg 0).toNatClampNeg 0) < ((a 118).getD (25 : Int32).toNatClampNeg 0)) then ((a5 118).getD ((a 118).getD (19 : Int32).toNatClampNeg 0).toNatClampNeg 0) else ((a 118).getD (25 : Int32).toNatClampNeg 0)).toInt ≤ ((a 118).getD (25 : Int32).toNatClampNeg 0).toInt) ∧ ((bif decide (((a5 118).getD ((a 118).getD (19 : Int32).toNatClampNeg 0).toNatClampNeg 0) < ((a 118).getD (25 : Int32).toNatClampNeg 0)) then ((a5 118).getD ((a 118).getD (19 : Int32).toNatClampNeg 0).toNatClampNeg 0) else ((a 118).getD (25 : Int32).toNatClampNeg 0)).toInt ≤ ((a5 118).getD ((a 118).getD (19 : Int32).toNatClampNeg 0).toNatClampNeg 0).toInt)) ∧ ((bif decide (((a5 118).getD ((a 118).getD (19 : Int32).toNatClampNeg 0).toNatClampNeg 0) < ((a 118).getD (25 : Int32).toNatClampNeg 0)) then ((a5 118).getD ((a 118).getD (19 : Int32).toNatClampNeg 0).toNatClampNeg 0) else ((a 118).getD (25 : Int32).toNatClampNeg 0)).toInt = ((a 118).getD (25 : Int32).toNatClampNeg 0).toInt ∨ (bif decide (((a5 118).getD ((a 118).getD (19 : Int32).toNatClampNeg 0).toNatClampNeg 0) < ((a 118).getD (25 : Int32).toNatClampNeg 0)) then ((a5 118).getD ((a 118).getD (19 : Int32).toNatClampNeg 0).toNatClampNeg 0) else ((a 118).getD (25 : Int32).toNatClampNeg 0)).toInt = ((a5 118).getD ((a 118).getD (19 : Int32).toNatClampNeg 0).toNatClampNeg 0).toInt) := kd_min
            refine ft_goS mi_k165 1 118 [.int (bif decide (((a5 118).getD ((a 118).getD (19 : Int32).toNatClampNeg 0).toNatClampNeg 0) < ((a 118).getD (25 : Int32).toNatClampNeg 0)) then ((a5 118).getD ((a 118).getD (19 : Int32).toNatClampNeg 0).toNatClampNeg 0) else ((a 118).getD (25 : Int32).toNatClampNeg 0))] (by rfl) ?_
            generalize hm48 : (bif decide (((a5 118).getD ((a 118).getD (19 : Int32).toNatClampNeg 0).toNatClampNeg 0) < ((a 118).getD (25 : Int32).toNatClampNeg 0)) then ((a5 118).getD ((a 118).getD (19 : Int32).toNatClampNeg 0).toNatClampNeg 0) else ((a 118).getD (25 : Int32).toNatClampNeg 0)) = m48 at m49 ⊢
            have qm48 := hm48.symm
            have b50 : ((-2147483648 : Int) ≤ ((a 118).getD (25 : Int32).toNatClampNeg 0).toInt) ∧ (((a 118).getD (25 : Int32).toNatClampNeg 0).toInt ≤ 2147483647) := kd_bd ((a 118).getD (25 : Int32).toNatClampNeg 0)
            have b51 : ((-2147483648 : Int) ≤ m48.toInt) ∧ (m48.toInt ≤ 2147483647) := kd_bd m48
            have b52 : ((-2147483648 : Int) ≤ (i5 7467).toInt) ∧ ((i5 7467).toInt ≤ 2147483647) := kd_bd (i5 7467)
            have b53 : ((-2147483648 : Int) ≤ (((a 118).getD (25 : Int32).toNatClampNeg 0) - m48).toInt) ∧ ((((a 118).getD (25 : Int32).toNatClampNeg 0) - m48).toInt ≤ 2147483647) := kd_bd (((a 118).getD (25 : Int32).toNatClampNeg 0) - m48)
            have hJ54 := kG_i hJ45 7467 rfl (v := ((i5 7467) + (((a 118).getD (25 : Int32).toNatClampNeg 0) - m48))) (kd_bd _)
            have b55 : ((-2147483648 : Int) ≤ (i5 7465).toInt) ∧ ((i5 7465).toInt ≤ 2147483647) := kd_bd (i5 7465)
            have hJ56 := kG_i hJ54 7465 rfl (v := ((i5 7465) + m48)) (kd_bd _)
            have s57 : (8 * ((a 118).getD (19 : Int32).toNatClampNeg 0)).toInt = 8 * ((a 118).getD (19 : Int32).toNatClampNeg 0).toInt := kd_cmul 8 koh8 (oh14 r2.1) (oh15 r2.2)
            have s58 : ((8 * ((a 118).getD (19 : Int32).toNatClampNeg 0)) + x1).toInt = (8 * ((a 118).getD (19 : Int32).toNatClampNeg 0)).toInt + x1.toInt := kd_add (oh16 hp0.1 r2.1 s57) (oh17 hp0.2 r2.2 s57)
            first | refine fo_go mi_k165 fz165_118_23_155 [(4, .int m48), (3, .int ((a 118).getD (25 : Int32).toNatClampNeg 0)), (2, .int ((a 118).getD (19 : Int32).toNatClampNeg 0)), (0, .ref 116), (1, .int x1)] [.int ((8 * ((a 118).getD (19 : Int32).toNatClampNeg 0)) + x1), .ref 141, .int ((8 * ((a 118).getD (19 : Int32).toNatClampNeg 0)) + x1), .ref 141] (ku (ku (ku i5 7464 ((a 118).getD (19 : Int32).toNatClampNeg 0)) 7467 ((i5 7467) + (((a 118).getD (25 : Int32).toNatClampNeg 0) - m48))) 7465 ((i5 7465) + m48)) a5 q5 r5 (by rfl) ?_ | refine ft_go mi_k165 23 155 [(4, .int m48), (3, .int ((a 118).getD (25 : Int32).toNatClampNeg 0)), (2, .int ((a 118).getD (19 : Int32).toNatClampNeg 0)), (0, .ref 116), (1, .int x1)] [.int ((8 * ((a 118).getD (19 : Int32).toNatClampNeg 0)) + x1), .ref 141, .int ((8 * ((a 118).getD (19 : Int32).toNatClampNeg 0)) + x1), .ref 141] (ku (ku (ku i5 7464 ((a 118).getD (19 : Int32).toNatClampNeg 0)) 7467 ((i5 7467) + (((a 118).getD (25 : Int32).toNatClampNeg 0) - m48))) 7465 ((i5 7465) + m48)) a5 q5 r5 (by rfl) ?_
            refine ko_iald3 mi_k165.1 (n := 64) (c := 64) (ax := (0, 0, 0, 0, 0)) (mi_k165.2 _ _ (by rfl)) (by rfl) (ksG141 _ _ _ _) (hJ56.I.2.1 141) rfl (oh18 hp0.1 r2.1 s57 s58) (oh19 hp0.2 r2.2 s57 s58) ?_
            have b59 : ((-2147483648 : Int) ≤ ((a5 141).getD ((8 * ((a 118).getD (19 : Int32).toNatClampNeg 0)) + x1).toNatClampNeg 0).toInt) ∧ (((a5 141).getD ((8 * ((a 118).getD (19 : Int32).toNatClampNeg 0)) + x1).toNatClampNeg 0).toInt ≤ 2147483647) := kd_bd ((a5 141).getD ((8 * ((a 118).getD (19 : Int32).toNatClampNeg 0)) + x1).toNatClampNeg 0)
            refine fo_goS mi_k165 fz165_156_2_159 [.int (((a5 141).getD ((8 * ((a 118).getD (19 : Int32).toNatClampNeg 0)) + x1).toNatClampNeg 0) + m48), .int ((8 * ((a 118).getD (19 : Int32).toNatClampNeg 0)) + x1), .ref 141] rfl ?_
            refine ko_iast3 mi_k165.1 (n := 64) (c := 64) (ax := (0, 0, 0, 0, 0)) (mi_k165.2 _ _ (by rfl)) (by rfl) (ksG141 _ _ _ _) (ksA141 _ _ _ _) (hJ56.I.2.1 141) rfl (oh18 hp0.1 r2.1 s57 s58) (oh19 hp0.2 r2.2 s57 s58) ?_
            intro a60 ea60 fa60
            have hJ60 := kG_a3 hJ56 141 rfl ea60 fa60 (kd_bd _)
            refine fo_goS mi_k165 fz165_160_4_166 [.int ((a 118).getD (19 : Int32).toNatClampNeg 0), .ref 118, .int ((a 118).getD (19 : Int32).toNatClampNeg 0), .ref 118] rfl ?_
            refine ko_iald3 mi_k165.1 (n := 31) (c := 31) (ax := (0, 0, 0, 0, 0)) (mi_k165.2 _ _ (by rfl)) (by rfl) (ksG118 _ _ _ _) (hJ60.I.2.1 118) rfl (oh11 r2.1) (oh12 r2.2) ?_
            have r61 : ((((a 118).getD (19 : Int32).toNatClampNeg 0).toInt = 18 → (0 : Int) ≤ ((a60 118).getD ((a 118).getD (19 : Int32).toNatClampNeg 0).toNatClampNeg 0).toInt ∧ ((a60 118).getD ((a 118).getD (19 : Int32).toNatClampNeg 0).toNatClampNeg 0).toInt ≤ 5)) ∧ ((19 ≤ ((a 118).getD (19 : Int32).toNatClampNeg 0).toInt → ((a 118).getD (19 : Int32).toNatClampNeg 0).toInt ≤ 24 → (0 : Int) ≤ ((a60 118).getD ((a 118).getD (19 : Int32).toNatClampNeg 0).toNatClampNeg 0).toInt ∧ ((a60 118).getD ((a 118).getD (19 : Int32).toNatClampNeg 0).toNatClampNeg 0).toInt ≤ 7)) := kE_ncond (p := 118) hJ60.I (by decide) (j := ((a 118).getD (19 : Int32).toNatClampNeg 0)) (oh11 r2.1)
            have u62 : ((a60 118).getD ((a 118).getD (19 : Int32).toNatClampNeg 0).toNatClampNeg 0).toInt = ((a5 118).getD ((a 118).getD (19 : Int32).toNatClampNeg 0).toNatClampNeg 0).toInt := congrArg (fun z : List Int32 => (z.getD ((a 118).getD (19 : Int32).toNatClampNeg 0).toNatClampNeg 0).toInt) (fa60 118 (by decide))
            have b63 : ((-2147483648 : Int) ≤ ((a60 118).getD ((a 118).getD (19 : Int32).toNatClampNeg 0).toNatClampNeg 0).toInt) ∧ (((a60 118).getD ((a 118).getD (19 : Int32).toNatClampNeg 0).toNatClampNeg 0).toInt ≤ 2147483647) := kd_bd ((a60 118).getD ((a 118).getD (19 : Int32).toNatClampNeg 0).toNatClampNeg 0)
            refine fo_goS mi_k165 fz165_167_2_170 [.int (((a60 118).getD ((a 118).getD (19 : Int32).toNatClampNeg 0).toNatClampNeg 0) - m48), .int ((a 118).getD (19 : Int32).toNatClampNeg 0), .ref 118] rfl ?_
            refine ko_iast3 mi_k165.1 (n := 31) (c := 31) (ax := (0, 0, 0, 0, 0)) (mi_k165.2 _ _ (by rfl)) (by rfl) (ksG118 _ _ _ _) (ksA118 _ _ _ _) (hJ60.I.2.1 118) rfl (oh11 r2.1) (oh12 r2.2) ?_
            intro a64 ea64 fa64
            have hJ64 := kG_a3 hJ60 118 rfl ea64 fa64 (kE_nset (p := 118) (by decide) (oh11 r2.1) (oh20 r2.2) (oh21 r2.2))
            refine fo_goS mi_k165 fz165_171_7_184 [.int x1, .ref 118, .int 999, .int x1, .ref 118] rfl ?_
            refine ko_iald3 mi_k165.1 (n := 31) (c := 31) (ax := (0, 0, 0, 0, 0)) (mi_k165.2 _ _ (by rfl)) (by rfl) (ksG118 _ _ _ _) (hJ64.I.2.1 118) rfl (oh11 hp0.1) (oh12 hp0.2) ?_
            have r65 : ((x1.toInt = 18 → (0 : Int) ≤ ((a64 118).getD x1.toNatClampNeg 0).toInt ∧ ((a64 118).getD x1.toNatClampNeg 0).toInt ≤ 5)) ∧ ((19 ≤ x1.toInt → x1.toInt ≤ 24 → (0 : Int) ≤ ((a64 118).getD x1.toNatClampNeg 0).toInt ∧ ((a64 118).getD x1.toNatClampNeg 0).toInt ≤ 7)) := kE_ncond (p := 118) hJ64.I (by decide) (j := x1) (oh11 hp0.1)
            have u66 : ((a60 118).getD x1.toNatClampNeg 0).toInt = ((a5 118).getD x1.toNatClampNeg 0).toInt := congrArg (fun z : List Int32 => (z.getD x1.toNatClampNeg 0).toInt) (fa60 118 (by decide))
            have u67 : ((a64 118).getD x1.toNatClampNeg 0).toInt = ((a60 118).getD x1.toNatClampNeg 0).toInt := congrArg Int32.toInt ((congrArg (fun z : List Int32 => z.getD x1.toNatClampNeg 0) ea64).trans (kgs_ne (oh11 hp0.1) (oh11 r2.1) (oh22 c46)))
            have b68 : ((-2147483648 : Int) ≤ ((a64 118).getD x1.toNatClampNeg 0).toInt) ∧ (((a64 118).getD x1.toNatClampNeg 0).toInt ≤ 2147483647) := kd_bd ((a64 118).getD x1.toNatClampNeg 0)
            refine fo_goS mi_k165 fz165_185_2_188 [.int (((a64 118).getD x1.toNatClampNeg 0) + m48), .int 999, .int x1, .ref 118] rfl ?_
            have m70 : (((bif decide ((((a64 118).getD x1.toNatClampNeg 0) + m48) < 999) then (((a64 118).getD x1.toNatClampNeg 0) + m48) else 999).toInt ≤ (999 : Int32).toInt) ∧ ((bif decide ((((a64 118).getD x1.toNatClampNeg 0) + m48) < 999) then (((a64 118).getD x1.toNatClampNeg 0) + m48) else 999).toInt ≤ (((a64 118).getD x1.toNatClampNeg 0) + m48).toInt)) ∧ ((bif decide ((((a64 118).getD x1.toNatClampNeg 0) + m48) < 999) then (((a64 118).getD x1.toNatClampNeg 0) + m48) else 999).toInt = (999 : Int32).toInt ∨ (bif decide ((((a64 118).getD x1.toNatClampNeg 0) + m48) < 999) then (((a64 118).getD x1.toNatClampNeg 0) + m48) else 999).toInt = (((a64 118).getD x1.toNatClampNeg 0) + m48).toInt) := kd_min
            refine ft_goS mi_k165 1 191 [.int (bif decide ((((a64 118).getD x1.toNatClampNeg 0) + m48) < 999) then (((a64 118).getD x1.toNatClampNeg 0) + m48) else 999), .int x1, .ref 118] (by rfl) ?_
            generalize hm69 : (bif decide ((((a64 118).getD x1.toNatClampNeg 0) + m48) < 999) then (((a64 118).getD x1.toNatClampNeg 0) + m48) else 999) = m69 at m70 ⊢
            have qm69 := hm69.symm
            refine ko_iast3 mi_k165.1 (n := 31) (c := 31) (ax := (0, 0, 0, 0, 0)) (mi_k165.2 _ _ (by rfl)) (by rfl) (ksG118 _ _ _ _) (ksA118 _ _ _ _) (hJ64.I.2.1 118) rfl (oh11 hp0.1) (oh12 hp0.2) ?_
            intro a71 ea71 fa71
            have hJ71 := kG_a3 hJ64 118 rfl ea71 fa71 (kE_nset (p := 118) (by decide) (oh11 hp0.1) (oh20 hp0.2) (oh21 hp0.2))
            have r72 : ((0 : Int) ≤ ((a71 118).getD (18 : Int32).toNatClampNeg 0).toInt) ∧ (((a71 118).getD (18 : Int32).toNatClampNeg 0).toInt ≤ 5) := kE_n18 (p := 118) hJ71.I (by decide)
            have u73 : ((a60 118).getD (18 : Int32).toNatClampNeg 0).toInt = ((a5 118).getD (18 : Int32).toNatClampNeg 0).toInt := congrArg (fun z : List Int32 => (z.getD (18 : Int32).toNatClampNeg 0).toInt) (fa60 118 (by decide))
            have u74 : ((a64 118).getD (18 : Int32).toNatClampNeg 0).toInt = ((a60 118).getD (18 : Int32).toNatClampNeg 0).toInt := congrArg Int32.toInt ((congrArg (fun z : List Int32 => z.getD (18 : Int32).toNatClampNeg 0) ea64).trans (kgs_ne (oh4 koh18) (oh11 r2.1) (oh23 r2.2 koh18)))
            have u75 : ((a71 118).getD (18 : Int32).toNatClampNeg 0).toInt = ((a64 118).getD (18 : Int32).toNatClampNeg 0).toInt := congrArg Int32.toInt ((congrArg (fun z : List Int32 => z.getD (18 : Int32).toNatClampNeg 0) ea71).trans (kgs_ne (oh4 koh18) (oh11 hp0.1) (oh23 hp0.2 koh18)))
            exact ft_ret mi_k165 (by rfl) (hP  _ _ _ _ hJ71 ⟨(oh70 p5_2 u73 u74 u75), ((kT5 (show a71 118 = sGive x1 (a 118) from (by first | rfl | (simp only [ea71, ea64, qm69, qm48, qd11, fa60 118 (by decide), sMn, sMx, sGive, sCoin]; done) | (simp only [ea71, ea64, qm69, qm48, qd11, fa60 118 (by decide), sMn, sMx, sGive, sCoin]; rfl))) ((show ((a 118).getD (19 : Int32).toNatClampNeg 0) = (a 118).getD 19 0 from rfl).trans (cY_pos (y := i 7464) (d := (a 118).getD 19 0) (oh29 c44 efi5_7464 koh8))) (show ((i5 7465) + m48) = i 7465 + sCoin (a 118) from (by first | rfl | (simp only [(hL5.fi 7465 rfl : i5 7465 = i 7465), qm48, qd11, sMn, sMx, sGive, sCoin]; done) | (simp only [(hL5.fi 7465 rfl : i5 7465 = i 7465), qm48, qd11, sMn, sMx, sGive, sCoin]; rfl))) (show ((i5 7467) + (((a 118).getD (25 : Int32).toNatClampNeg 0) - m48)) = i 7467 + ((a 118).getD (25 : Int32).toNatClampNeg 0 - sCoin (a 118)) from (by first | rfl | (simp only [(hL5.fi 7467 rfl : i5 7467 = i 7467), qm48, qd11, sMn, sMx, sGive, sCoin]; done) | (simp only [(hL5.fi 7467 rfl : i5 7467 = i 7467), qm48, qd11, sMn, sMx, sGive, sCoin]; rfl))) (show a71 141 = (a 141).set ((8 * ((a 118).getD (19 : Int32).toNatClampNeg 0)) + x1).toNatClampNeg ((a 141).getD ((8 * ((a 118).getD (19 : Int32).toNatClampNeg 0)) + x1).toNatClampNeg 0 + sCoin (a 118)) from (by first | rfl | (simp only [fa71 141 (by decide), fa64 141 (by decide), ea60, hL5.fa 141 rfl, qm48, qd11, fa4 141 (by decide), sMn, sMx, sGive, sCoin]; done) | (simp only [fa71 141 (by decide), fa64 141 (by decide), ea60, hL5.fa 141 rfl, qm48, qd11, fa4 141 (by decide), sMn, sMx, sGive, sCoin]; rfl)))).trans (show _ = sPay x1 (a 118, i 7464, i 7465, i 7467, a 141) from (if_neg (oh26 c46)).symm))⟩)
          ·
            have c76 : ((a 118).getD (19 : Int32).toNatClampNeg 0).toInt = x1.toInt := kd_neF c; clear c
            exact ft_ret mi_k165 (by rfl) (hP  _ _ _ _ hJ45 ⟨(oh71 p5_2), ((kT5 (show a5 118 = sDrop (a 118) from (by first | rfl | (simp only [qd11, sMn, sMx, sGive, sCoin]; done) | (simp only [qd11, sMn, sMx, sGive, sCoin]; rfl))) ((show ((a 118).getD (19 : Int32).toNatClampNeg 0) = (a 118).getD 19 0 from rfl).trans (cY_pos (y := i 7464) (d := (a 118).getD 19 0) (oh29 c44 efi5_7464 koh8))) (show i5 7465 = i 7465 from (by first | rfl | (simp only [(hL5.fi 7465 rfl : i5 7465 = i 7465), sMn, sMx, sGive, sCoin]; done) | (simp only [(hL5.fi 7465 rfl : i5 7465 = i 7465), sMn, sMx, sGive, sCoin]; rfl))) (show i5 7467 = i 7467 from (by first | rfl | (simp only [(hL5.fi 7467 rfl : i5 7467 = i 7467), sMn, sMx, sGive, sCoin]; done) | (simp only [(hL5.fi 7467 rfl : i5 7467 = i 7467), sMn, sMx, sGive, sCoin]; rfl))) (show a5 141 = a 141 from (by first | rfl | (simp only [hL5.fa 141 rfl, fa4 141 (by decide), sMn, sMx, sGive, sCoin]; done) | (simp only [hL5.fa 141 rfl, fa4 141 (by decide), sMn, sMx, sGive, sCoin]; rfl)))).trans (show _ = sPay x1 (a 118, i 7464, i 7465, i 7467, a 141) from (if_pos (oh28 c76)).symm))⟩)
      ·
        have c77 : l4_5.toInt < ((a5 118).getD (18 : Int32).toNatClampNeg 0).toInt := kd_leF c; clear c
        have s78 : (19 + l4_5).toInt = (19 : Int32).toInt + l4_5.toInt := kd_add (oh30 p5_0 koh19) (oh31 c77 p5_2 r1.2 koh19)
        have s79 : (20 + l4_5).toInt = (20 : Int32).toInt + l4_5.toInt := kd_add (oh32 p5_0 koh20) (oh33 c77 p5_2 r1.2 koh20)
        refine fo_goS mi_k165 fz165_42_10_60 [.int (20 + l4_5), .ref 118, .int (19 + l4_5), .ref 118] rfl ?_
        refine ko_iald3 mi_k165.1 (n := 31) (c := 31) (ax := (0, 0, 0, 0, 0)) (mi_k165.2 _ _ (by rfl)) (by rfl) (ksG118 _ _ _ _) (hL5.I.2.1 118) rfl (oh34 p5_0 s79 koh20) (oh35 c77 p5_2 r1.2 s79 koh20) ?_
        have r80 : (((20 + l4_5).toInt = 18 → (0 : Int) ≤ ((a5 118).getD (20 + l4_5).toNatClampNeg 0).toInt ∧ ((a5 118).getD (20 + l4_5).toNatClampNeg 0).toInt ≤ 5)) ∧ ((19 ≤ (20 + l4_5).toInt → (20 + l4_5).toInt ≤ 24 → (0 : Int) ≤ ((a5 118).getD (20 + l4_5).toNatClampNeg 0).toInt ∧ ((a5 118).getD (20 + l4_5).toNatClampNeg 0).toInt ≤ 7)) := kE_ncond (p := 118) hL5.I (by decide) (j := (20 + l4_5)) (oh34 p5_0 s79 koh20)
        refine ko_iast3 mi_k165.1 (n := 31) (c := 31) (ax := (0, 0, 0, 0, 0)) (mi_k165.2 _ _ (by rfl)) (by rfl) (ksG118 _ _ _ _) (ksA118 _ _ _ _) (hL5.I.2.1 118) rfl (oh37 p5_0 s78 koh19) (oh38 c77 p5_2 r1.2 s78 koh19) ?_
        intro a81 ea81 fa81
        have hJ81 := kG_a3 hL5 118 rfl ea81 fa81 (kE_nset (p := 118) (by decide) (oh37 p5_0 s78 koh19) (oh39 p5_0 s78 koh19) (oh40 c77 p5_0 p5_2 r1.2 r80.2 s79 koh20))
        have s82 : (25 + l4_5).toInt = (25 : Int32).toInt + l4_5.toInt := kd_add (oh41 p5_0 koh25) (oh42 c77 p5_2 r1.2 koh25)
        have s83 : (26 + l4_5).toInt = (26 : Int32).toInt + l4_5.toInt := kd_add (oh43 p5_0 koh26) (oh44 c77 p5_2 r1.2 koh26)
        refine fo_goS mi_k165 fz165_62_10_80 [.int (26 + l4_5), .ref 118, .int (25 + l4_5), .ref 118] rfl ?_
        refine ko_iald3 mi_k165.1 (n := 31) (c := 31) (ax := (0, 0, 0, 0, 0)) (mi_k165.2 _ _ (by rfl)) (by rfl) (ksG118 _ _ _ _) (hJ81.I.2.1 118) rfl (oh45 p5_0 s83 koh26) (oh46 c77 p5_2 r1.2 s83 koh26) ?_
        have r84 : (((26 + l4_5).toInt = 18 → (0 : Int) ≤ ((a81 118).getD (26 + l4_5).toNatClampNeg 0).toInt ∧ ((a81 118).getD (26 + l4_5).toNatClampNeg 0).toInt ≤ 5)) ∧ ((19 ≤ (26 + l4_5).toInt → (26 + l4_5).toInt ≤ 24 → (0 : Int) ≤ ((a81 118).getD (26 + l4_5).toNatClampNeg 0).toInt ∧ ((a81 118).getD (26 + l4_5).toNatClampNeg 0).toInt ≤ 7)) := kE_ncond (p := 118) hJ81.I (by decide) (j := (26 + l4_5)) (oh45 p5_0 s83 koh26)
        have u85 : ((a81 118).getD (26 + l4_5).toNatClampNeg 0).toInt = ((a5 118).getD (26 + l4_5).toNatClampNeg 0).toInt := congrArg Int32.toInt ((congrArg (fun z : List Int32 => z.getD (26 + l4_5).toNatClampNeg 0) ea81).trans (kgs_ne (oh45 p5_0 s83 koh26) (oh37 p5_0 s78 koh19) (oh47 s78 s83 koh19 koh26)))
        refine ko_iast3 mi_k165.1 (n := 31) (c := 31) (ax := (0, 0, 0, 0, 0)) (mi_k165.2 _ _ (by rfl)) (by rfl) (ksG118 _ _ _ _) (ksA118 _ _ _ _) (hJ81.I.2.1 118) rfl (oh48 p5_0 s82 koh25) (oh49 c77 p5_2 r1.2 s82 koh25) ?_
        intro a86 ea86 fa86
        have hJ86 := kG_a3 hJ81 118 rfl ea86 fa86 (kE_nset (p := 118) (by decide) (oh48 p5_0 s82 koh25) (oh50 p5_0 s82 koh25) (oh51 p5_0 s82 koh25))
        have s87 : (l4_5 + 1).toInt = l4_5.toInt + (1 : Int32).toInt := kd_add (oh52 p5_0 koh1) (oh53 c77 p5_2 r1.2 koh1)
        first | refine fo_goL mi_k165 fz165_27_2_30 [(4, .int (l4_5 + 1)), (3, .int ((a 118).getD (25 : Int32).toNatClampNeg 0)), (2, .int ((a 118).getD (19 : Int32).toNatClampNeg 0)), (0, .ref 116), (1, .int x1)] [] (by rfl) ?_ | refine fo_goL mi_k165 fz165_82_2_30 [(4, .int (l4_5 + 1)), (3, .int ((a 118).getD (25 : Int32).toNatClampNeg 0)), (2, .int ((a 118).getD (19 : Int32).toNatClampNeg 0)), (0, .ref 116), (1, .int x1)] [] (by rfl) ?_
        have r88 : ((0 : Int) ≤ ((a86 118).getD (18 : Int32).toNatClampNeg 0).toInt) ∧ (((a86 118).getD (18 : Int32).toNatClampNeg 0).toInt ≤ 5) := kE_n18 (p := 118) hJ86.I (by decide)
        have u89 : ((a81 118).getD (18 : Int32).toNatClampNeg 0).toInt = ((a5 118).getD (18 : Int32).toNatClampNeg 0).toInt := congrArg Int32.toInt ((congrArg (fun z : List Int32 => z.getD (18 : Int32).toNatClampNeg 0) ea81).trans (kgs_ne (oh4 koh18) (oh37 p5_0 s78 koh19) (oh55 p5_0 s78 koh19 koh18)))
        have u90 : ((a86 118).getD (18 : Int32).toNatClampNeg 0).toInt = ((a81 118).getD (18 : Int32).toNatClampNeg 0).toInt := congrArg Int32.toInt ((congrArg (fun z : List Int32 => z.getD (18 : Int32).toNatClampNeg 0) ea86).trans (kgs_ne (oh4 koh18) (oh48 p5_0 s82 koh25) (oh56 p5_0 s82 koh25 koh18)))
        exact ih5 _ _ _ _ _ hJ86 (oh54 p5_0 s87 koh1) (oh57 c77 s87 u89 u90 koh1) (oh72 p5_2 u89 u90) (sSh_step (y := (19 + l4_5)) (z := (20 + l4_5)) (u := (25 + l4_5)) (v := (26 + l4_5)) O5_0 (oh11 p5_0) (oh59 s78 koh19) (oh60 s79 koh20) (oh61 s82 koh25) (oh62 s83 koh26) (oh63 s87 koh1) ea81 ea86) (kj_meas (oh64 s87 koh1) (oh65 c77 p5_2 r1.2) hm5)
  have r91 : ((0 : Int) ≤ ((a4 118).getD (18 : Int32).toNatClampNeg 0).toInt) ∧ (((a4 118).getD (18 : Int32).toNatClampNeg 0).toInt ≤ 5) := kE_n18 (p := 118) hJ4.I (by decide)
  have u92 : ((a4 118).getD (18 : Int32).toNatClampNeg 0).toInt = (((a 118).getD (18 : Int32).toNatClampNeg 0) - 1).toInt := congrArg Int32.toInt ((congrArg (fun z : List Int32 => z.getD (18 : Int32).toNatClampNeg 0) ea4).trans (kgs_eq2 (n := 31) (c := 31) (hG.I.2.1 118) rfl (oh4 koh18) (oh5 koh18)))
  exact lp5 _ _ _ _ _ _ (kG_self _ hJ4.I hJ4.R) (oh66 koh0) (oh67 r91.1 koh0) (oh68 s3 u92 koh1) (sSh_zero _ koh0) (Nat.lt_succ_self _)
noncomputable def yw166_116 : kW := ([7464, 7465, 7466, 7467], [118, 128, 129, 141], [], [])
noncomputable def yw166_116_L45 : kW := ([7464, 7465, 7467], [118, 141], [], [])
set_option maxRecDepth 100000 in
theorem ke166_116 {i : Nat → Int32} {a : Nat → List Int32} {q : Nat → List Int64} {r : Nat → Nat} (hI : kI i a q) (hr : kr r) (x1 : Int32) (hp0 : ((0 : Int) ≤ x1.toInt) ∧ (x1.toInt ≤ 7)) (hE_code : kCode i a) : km 9 166 [.ref 116, .int x1] (ks i a q r) (kVI yw166_116 i a q r (fun v i1 a1 q1 r1 => (((v.toInt = 1) ∧ (¬ ((((a 117).getD (16 + x1).toNatClampNeg 0).toInt = 1) ∧ ((i 7427).toInt = 0)))) ∨ ((v.toInt = 0) ∧ (((a 117).getD (16 + x1).toNatClampNeg 0).toInt = 1) ∧ ((i 7427).toInt = 0))) ∧ ((¬ ((((a 117).getD (16 + x1).toNatClampNeg 0).toInt = 1) ∧ ((i 7427).toInt = 0)) → a1 118 = sCome x1 (gBuy (i 7431) (a 120) (a 121) (a 122) (a 123) (i 7432) (a 117) (a 118) (gPaid (i 7426) x1 (a 118) (i 7467) (a 141)).1 x1) (gPaid (i 7426) x1 (a 118) (i 7467) (a 141)).1) ∧ (¬ ((((a 117).getD (16 + x1).toNatClampNeg 0).toInt = 1) ∧ ((i 7427).toInt = 0)) → i1 7464 = (gPaid (i 7426) x1 (a 118) (i 7467) (a 141)).2.1) ∧ (¬ ((((a 117).getD (16 + x1).toNatClampNeg 0).toInt = 1) ∧ ((i 7427).toInt = 0)) → i1 7465 = (gPaid (i 7426) x1 (a 118) (i 7467) (a 141)).2.2.1) ∧ (¬ ((((a 117).getD (16 + x1).toNatClampNeg 0).toInt = 1) ∧ ((i 7427).toInt = 0)) → i1 7466 = (gBuy (i 7431) (a 120) (a 121) (a 122) (a 123) (i 7432) (a 117) (a 118) (gPaid (i 7426) x1 (a 118) (i 7467) (a 141)).1 x1)) ∧ (¬ ((((a 117).getD (16 + x1).toNatClampNeg 0).toInt = 1) ∧ ((i 7427).toInt = 0)) → i1 7467 = (gPaid (i 7426) x1 (a 118) (i 7467) (a 141)).2.2.2.1) ∧ (¬ ((((a 117).getD (16 + x1).toNatClampNeg 0).toInt = 1) ∧ ((i 7427).toInt = 0)) → a1 141 = (gPaid (i 7426) x1 (a 118) (i 7467) (a 141)).2.2.2.2) ∧ ((((a 117).getD (16 + x1).toNatClampNeg 0).toInt = 1) ∧ ((i 7427).toInt = 0) → a1 118 = a 118) ∧ ((((a 117).getD (16 + x1).toNatClampNeg 0).toInt = 1) ∧ ((i 7427).toInt = 0) → i1 7464 = 8) ∧ ((((a 117).getD (16 + x1).toNatClampNeg 0).toInt = 1) ∧ ((i 7427).toInt = 0) → i1 7465 = 0) ∧ ((((a 117).getD (16 + x1).toNatClampNeg 0).toInt = 1) ∧ ((i 7427).toInt = 0) → i1 7466 = 0) ∧ ((((a 117).getD (16 + x1).toNatClampNeg 0).toInt = 1) ∧ ((i 7427).toInt = 0) → i1 7467 = i 7467) ∧ ((((a 117).getD (16 + x1).toNatClampNeg 0).toInt = 1) ∧ ((i 7427).toInt = 0) → a1 141 = a 141)))) := by
  have hG := kG_self yw166_116 hI hr
  refine km_ofI (q := (mi_h166, mi_c166)) rfl (by decide) (Nat.le_of_ble_eq_true rfl) ?_
  intro P hP
  have hJ1 := kG_i hG 7464 rfl (v := 8) (kd_bd _)
  have hJ2 := kG_i hJ1 7465 rfl (v := 0) (kd_bd _)
  have hJ3 := kG_i hJ2 7466 rfl (v := 0) (kd_bd _)
  have s4 : (16 + x1).toInt = (16 : Int32).toInt + x1.toInt := kd_add (oh73 hp0.1 koh16) (oh74 hp0.2 koh16)
  first | refine fo_go mi_k166 fz166_0_14_24 [(0, .ref 116), (1, .int x1)] [.int (16 + x1), .ref 117] (ku (ku (ku i 7464 8) 7465 0) 7466 0) a q r (by rfl) ?_ | refine ft_go mi_k166 14 24 [(0, .ref 116), (1, .int x1)] [.int (16 + x1), .ref 117] (ku (ku (ku i 7464 8) 7465 0) 7466 0) a q r (by rfl) ?_
  refine ko_iald3 mi_k166.1 (n := 24) (c := 24) (ax := (0, 0, 0, 0, 0)) (mi_k166.2 _ _ (by rfl)) (by rfl) (ksG117 _ _ _ _) (hJ3.I.2.1 117) rfl (oh75 hp0.1 s4 koh16) (oh76 hp0.2 s4 koh16) ?_
  refine ft_goS mi_k166 1 26 [.int 1, .int ((a 117).getD (16 + x1).toNatClampNeg 0)] (by rfl) ?_
  refine ft_ifS mi_k166 (((a 117).getD (16 + x1).toNatClampNeg 0) != 1) 38 29 [] (by rfl) (fun c => ?_) (fun c => ?_)
  ·
    have c5 : ((a 117).getD (16 + x1).toNatClampNeg 0).toInt ≠ (1 : Int32).toInt := kd_ne c; clear c
    refine fo_goS mi_k166 fz166_38_3_43 [.int x1, .ref 118] rfl ?_
    refine ko_iald3 mi_k166.1 (n := 31) (c := 31) (ax := (0, 0, 0, 0, 0)) (mi_k166.2 _ _ (by rfl)) (by rfl) (ksG118 _ _ _ _) (hJ3.I.2.1 118) rfl (oh11 hp0.1) (oh12 hp0.2) ?_
    have r6 : ((x1.toInt = 18 → (0 : Int) ≤ ((a 118).getD x1.toNatClampNeg 0).toInt ∧ ((a 118).getD x1.toNatClampNeg 0).toInt ≤ 5)) ∧ ((19 ≤ x1.toInt → x1.toInt ≤ 24 → (0 : Int) ≤ ((a 118).getD x1.toNatClampNeg 0).toInt ∧ ((a 118).getD x1.toNatClampNeg 0).toInt ≤ 7)) := kE_ncond (p := 118) hJ3.I (by decide) (j := x1) (oh11 hp0.1)
    first | refine fo_goL mi_k166 fz166_44_1_45 [(2, .int ((a 118).getD x1.toNatClampNeg 0)), (0, .ref 116), (1, .int x1)] [] (by rfl) ?_ | refine fo_goS mi_k166 fz166_64_1_45 [] (by rfl) ?_
    have lp7 : ∀ (nz : Nat) (i7 : Nat → Int32) (a7 : Nat → List Int32) (q7 : Nat → List Int64) (r7 : Nat → Nat), kG yw166_116_L45 (ku (ku (ku i 7464 8) 7465 0) 7466 0) a q r i7 a7 q7 r7 → sPaid (i 7426) x1 ((a7 118).getD 18 0).toInt.toNat (a7 118, i7 7464, i7 7465, i7 7467, a7 141) = (gPaid (i 7426) x1 (a 118) (i 7467) (a 141)) → (((a7 118).getD (18 : Int32).toNatClampNeg 0).toInt).toNat < nz → ko 9 (mi_h166, mi_c166) P (45, [(2, .int ((a 118).getD x1.toNatClampNeg 0)), (0, .ref 116), (1, .int x1)], [], (0, 0), ks i7 a7 q7 r7) := by
      intro nz
      induction nz with
      | zero =>
        intro _ _ _ _ _ _ hm
        exact absurd hm (Nat.not_lt_zero _)
      | succ nz ih7 =>
        intro i7 a7 q7 r7 hL7 O7_0 hm7
        have r9 : ((0 : Int) ≤ ((a7 118).getD (18 : Int32).toNatClampNeg 0).toInt) ∧ (((a7 118).getD (18 : Int32).toNatClampNeg 0).toInt ≤ 5) := kE_n18 (p := 118) hL7.I (by decide)
        refine fo_goL mi_k166 fz166_45_3_51 [(2, .int ((a 118).getD x1.toNatClampNeg 0)), (0, .ref 116), (1, .int x1)] [.int 18, .ref 118] rfl ?_
        refine ko_iald3 mi_k166.1 (n := 31) (c := 31) (ax := (0, 0, 0, 0, 0)) (mi_k166.2 _ _ (by rfl)) (by rfl) (ksG118 _ _ _ _) (hL7.I.2.1 118) rfl (oh4 koh18) (oh5 koh18) ?_
        have fi7_7426 : ((1 : Int) ≤ (i7 7426).toInt) ∧ ((i7 7426).toInt ≤ 5) := hL7.I.1 7426
        have fi_7426 : ((1 : Int) ≤ (i 7426).toInt) ∧ ((i 7426).toInt ≤ 5) := hJ3.I.1 7426
        have efi7_7426 : (i7 7426).toInt = (i 7426).toInt := hL7.ti 7426 rfl
        refine fo_goS mi_k166 fz166_52_2_56 [.int (i7 7426), .int ((a7 118).getD (18 : Int32).toNatClampNeg 0)] rfl ?_
        refine ft_ifS mi_k166 (decide (((a7 118).getD (18 : Int32).toNatClampNeg 0) < (i7 7426))) 67 59 [] (by rfl) (fun c => ?_) (fun c => ?_)
        ·
          have c10 : ((a7 118).getD (18 : Int32).toNatClampNeg 0).toInt < (i7 7426).toInt := kd_lt c; clear c
          have hG11 := kG_call hJ3 hL7 (by decide +kernel)
          have E12 : (a7 118, i7 7464, i7 7465, i7 7467, a7 141) = (gPaid (i 7426) x1 (a 118) (i 7467) (a 141)) := sP_done O7_0 (oh77 c10 efi7_7426)
          have E12_0 : a7 118 = (gPaid (i 7426) x1 (a 118) (i 7467) (a 141)).1 := congrArg (fun z : kSt => z.1) E12
          have E12_1 : i7 7464 = (gPaid (i 7426) x1 (a 118) (i 7467) (a 141)).2.1 := congrArg (fun z : kSt => z.2.1) E12
          have E12_2 : i7 7465 = (gPaid (i 7426) x1 (a 118) (i 7467) (a 141)).2.2.1 := congrArg (fun z : kSt => z.2.2.1) E12
          have E12_3 : i7 7467 = (gPaid (i 7426) x1 (a 118) (i 7467) (a 141)).2.2.2.1 := congrArg (fun z : kSt => z.2.2.2.1) E12
          have E12_4 : a7 141 = (gPaid (i 7426) x1 (a 118) (i 7467) (a 141)).2.2.2.2 := congrArg (fun z : kSt => z.2.2.2.2) E12
          refine fo_goS mi_k166 fz166_67_4_71 [.int ((a 118).getD x1.toNatClampNeg 0), .int x1, .ref 116, .ref 116] rfl ?_
          refine ko_callI mi_k166.1 (pc := 71) (ls := [(2, .int ((a 118).getD x1.toNatClampNeg 0)), (0, .ref 116), (1, .int x1)]) (st := [.int ((a 118).getD x1.toNatClampNeg 0), .int x1, .ref 116, .ref 116]) (h := ks i7 a7 q7 r7) (i := (.invokevirtual 254, 3, 163, 0, 9, 0, 418)) (mi_k166.2 _ _ (by rfl)) (ft_invS mi_pq163 (by rfl)) (cy := mi_c163) mi_pq163 rfl (ke163_116 hG11.I hG11.R x1 ((a 118).getD x1.toNatClampNeg 0) (oh175 hp0.1 hp0.2) (kCode_of (i1 := i7) hE_code (hG11.fi 7432 rfl) (hG11.fa 120 rfl) (hG11.fa 121 rfl) (hG11.fa 122 rfl) (hG11.fa 123 rfl))) (by decide) ?_
          intro vg13 ig13 ag13 qg13 rg13 kg13 hg13
          have hGg13 := kG_call hG11 kg13 (by decide +kernel)
          obtain ⟨hg13, og13⟩ := hg13
          have q14 : vg13 = rBuyV (i7 7431) (wLaw (a7 120) (a7 121) (a7 122) (a7 123) [(a7 117).getD x1.toNatClampNeg 0, ((a 118).getD x1.toNatClampNeg 0), (a7 117).getD (8 + x1).toNatClampNeg 0, (a7 118).getD (9 : Int32).toNatClampNeg 0, (a7 118).getD (10 + x1).toNatClampNeg 0, (a7 118).getD (8 : Int32).toNatClampNeg 0] (i7 7432).toInt.toNat 0) ((a7 117).getD x1.toNatClampNeg 0) ((a7 117).getD (8 + x1).toNatClampNeg 0) ((a7 118).getD (10 + x1).toNatClampNeg 0) := og13
          have hJ15 := kG_i hGg13 7466 rfl (v := vg13) (kd_bd _)
          first | refine fo_goI mi_k166 fz166_74_7_89 [.int 18, .ref 118, .int 19, .ref 118] (ku ig13 7466 vg13) (by rfl) ?_ | refine ft_go mi_k166 7 89 [(2, .int ((a 118).getD x1.toNatClampNeg 0)), (0, .ref 116), (1, .int x1)] [.int 18, .ref 118, .int 19, .ref 118] (ku ig13 7466 vg13) ag13 qg13 rg13 (by rfl) ?_
          refine ko_iald3 mi_k166.1 (n := 31) (c := 31) (ax := (0, 0, 0, 0, 0)) (mi_k166.2 _ _ (by rfl)) (by rfl) (ksG118 _ _ _ _) (hJ15.I.2.1 118) rfl (oh4 koh18) (oh5 koh18) ?_
          have r16 : ((0 : Int) ≤ ((ag13 118).getD (18 : Int32).toNatClampNeg 0).toInt) ∧ (((ag13 118).getD (18 : Int32).toNatClampNeg 0).toInt ≤ 5) := kE_n18 (p := 118) hJ15.I (by decide)
          have u17 : ((ag13 118).getD (18 : Int32).toNatClampNeg 0).toInt = ((a7 118).getD (18 : Int32).toNatClampNeg 0).toInt := congrArg (fun z : List Int32 => (z.getD (18 : Int32).toNatClampNeg 0).toInt) (kg13.fa 118 rfl)
          have s18 : (19 + ((ag13 118).getD (18 : Int32).toNatClampNeg 0)).toInt = (19 : Int32).toInt + ((ag13 118).getD (18 : Int32).toNatClampNeg 0).toInt := kd_add (oh30 r16.1 koh19) (oh177 r16.2 koh19)
          refine fo_goS mi_k166 fz166_90_2_92 [.int x1, .int (19 + ((ag13 118).getD (18 : Int32).toNatClampNeg 0)), .ref 118] rfl ?_
          refine ko_iast3 mi_k166.1 (n := 31) (c := 31) (ax := (0, 0, 0, 0, 0)) (mi_k166.2 _ _ (by rfl)) (by rfl) (ksG118 _ _ _ _) (ksA118 _ _ _ _) (hJ15.I.2.1 118) rfl (oh37 r16.1 s18 koh19) (oh178 r16.2 s18 koh19) ?_
          intro a19 ea19 fa19
          have hJ19 := kG_a3 hJ15 118 rfl ea19 fa19 (kE_nset (p := 118) (by decide) (oh37 r16.1 s18 koh19) (oh39 r16.1 s18 koh19) (oh179 hp0.1 hp0.2))
          refine fo_goS mi_k166 fz166_93_6_105 [.int 18, .ref 118, .int 25, .ref 118] rfl ?_
          refine ko_iald3 mi_k166.1 (n := 31) (c := 31) (ax := (0, 0, 0, 0, 0)) (mi_k166.2 _ _ (by rfl)) (by rfl) (ksG118 _ _ _ _) (hJ19.I.2.1 118) rfl (oh4 koh18) (oh5 koh18) ?_
          have r20 : ((0 : Int) ≤ ((a19 118).getD (18 : Int32).toNatClampNeg 0).toInt) ∧ (((a19 118).getD (18 : Int32).toNatClampNeg 0).toInt ≤ 5) := kE_n18 (p := 118) hJ19.I (by decide)
          have u21 : ((a19 118).getD (18 : Int32).toNatClampNeg 0).toInt = ((ag13 118).getD (18 : Int32).toNatClampNeg 0).toInt := congrArg Int32.toInt ((congrArg (fun z : List Int32 => z.getD (18 : Int32).toNatClampNeg 0) ea19).trans (kgs_ne (oh4 koh18) (oh37 r16.1 s18 koh19) (oh55 r16.1 s18 koh19 koh18)))
          have s22 : (25 + ((a19 118).getD (18 : Int32).toNatClampNeg 0)).toInt = (25 : Int32).toInt + ((a19 118).getD (18 : Int32).toNatClampNeg 0).toInt := kd_add (oh41 r20.1 koh25) (oh180 r20.2 koh25)
          refine fo_goS mi_k166 fz166_106_3_111 [.int vg13, .int (25 + ((a19 118).getD (18 : Int32).toNatClampNeg 0)), .ref 118] rfl ?_
          refine ko_iast3 mi_k166.1 (n := 31) (c := 31) (ax := (0, 0, 0, 0, 0)) (mi_k166.2 _ _ (by rfl)) (by rfl) (ksG118 _ _ _ _) (ksA118 _ _ _ _) (hJ19.I.2.1 118) rfl (oh48 r20.1 s22 koh25) (oh181 r20.2 s22 koh25) ?_
          intro a23 ea23 fa23
          have hJ23 := kG_a3 hJ19 118 rfl ea23 fa23 (kE_nset (p := 118) (by decide) (oh48 r20.1 s22 koh25) (oh50 r20.1 s22 koh25) (oh51 r20.1 s22 koh25))
          refine fo_goS mi_k166 fz166_112_4_119 [.int 18, .ref 118, .int 18, .ref 118] rfl ?_
          refine ko_iald3 mi_k166.1 (n := 31) (c := 31) (ax := (0, 0, 0, 0, 0)) (mi_k166.2 _ _ (by rfl)) (by rfl) (ksG118 _ _ _ _) (hJ23.I.2.1 118) rfl (oh4 koh18) (oh5 koh18) ?_
          have r24 : ((0 : Int) ≤ ((a23 118).getD (18 : Int32).toNatClampNeg 0).toInt) ∧ (((a23 118).getD (18 : Int32).toNatClampNeg 0).toInt ≤ 5) := kE_n18 (p := 118) hJ23.I (by decide)
          have u25 : ((a23 118).getD (18 : Int32).toNatClampNeg 0).toInt = ((a19 118).getD (18 : Int32).toNatClampNeg 0).toInt := congrArg Int32.toInt ((congrArg (fun z : List Int32 => z.getD (18 : Int32).toNatClampNeg 0) ea23).trans (kgs_ne (oh4 koh18) (oh48 r20.1 s22 koh25) (oh56 r20.1 s22 koh25 koh18)))
          have s26 : (((a23 118).getD (18 : Int32).toNatClampNeg 0) + 1).toInt = ((a23 118).getD (18 : Int32).toNatClampNeg 0).toInt + (1 : Int32).toInt := kd_add (oh52 r24.1 koh1) (oh182 r24.2 koh1)
          refine fo_goS mi_k166 fz166_120_2_122 [.int (((a23 118).getD (18 : Int32).toNatClampNeg 0) + 1), .int 18, .ref 118] rfl ?_
          refine ko_iast3 mi_k166.1 (n := 31) (c := 31) (ax := (0, 0, 0, 0, 0)) (mi_k166.2 _ _ (by rfl)) (by rfl) (ksG118 _ _ _ _) (ksA118 _ _ _ _) (hJ23.I.2.1 118) rfl (oh4 koh18) (oh5 koh18) ?_
          intro a27 ea27 fa27
          have hJ27 := kG_a3 hJ23 118 rfl ea27 fa27 (kE_nset (p := 118) (by decide) (oh4 koh18) (oh183 c10 fi7_7426.2 r24.1 s26 u17 u21 u25 koh1 koh18) (oh9 koh18))
          refine fo_goS mi_k166 fz166_123_4_130 [.int 9, .ref 118, .int 9, .ref 118] rfl ?_
          refine ko_iald3 mi_k166.1 (n := 31) (c := 31) (ax := (0, 0, 0, 0, 0)) (mi_k166.2 _ _ (by rfl)) (by rfl) (ksG118 _ _ _ _) (hJ27.I.2.1 118) rfl (oh93 koh9) (oh94 koh9) ?_
          have u28 : ((ag13 118).getD (9 : Int32).toNatClampNeg 0).toInt = ((a7 118).getD (9 : Int32).toNatClampNeg 0).toInt := congrArg (fun z : List Int32 => (z.getD (9 : Int32).toNatClampNeg 0).toInt) (kg13.fa 118 rfl)
          have u29 : ((a19 118).getD (9 : Int32).toNatClampNeg 0).toInt = ((ag13 118).getD (9 : Int32).toNatClampNeg 0).toInt := congrArg Int32.toInt ((congrArg (fun z : List Int32 => z.getD (9 : Int32).toNatClampNeg 0) ea19).trans (kgs_ne (oh93 koh9) (oh37 r16.1 s18 koh19) (oh184 r16.1 s18 koh19 koh9)))
          have u30 : ((a23 118).getD (9 : Int32).toNatClampNeg 0).toInt = ((a19 118).getD (9 : Int32).toNatClampNeg 0).toInt := congrArg Int32.toInt ((congrArg (fun z : List Int32 => z.getD (9 : Int32).toNatClampNeg 0) ea23).trans (kgs_ne (oh93 koh9) (oh48 r20.1 s22 koh25) (oh185 r20.1 s22 koh25 koh9)))
          have u31 : ((a27 118).getD (9 : Int32).toNatClampNeg 0).toInt = ((a23 118).getD (9 : Int32).toNatClampNeg 0).toInt := congrArg Int32.toInt ((congrArg (fun z : List Int32 => z.getD (9 : Int32).toNatClampNeg 0) ea27).trans (kgs_ne (oh93 koh9) (oh4 koh18) (oh186 koh9 koh18)))
          have b32 : ((-2147483648 : Int) ≤ ((a27 118).getD (9 : Int32).toNatClampNeg 0).toInt) ∧ (((a27 118).getD (9 : Int32).toNatClampNeg 0).toInt ≤ 2147483647) := kd_bd ((a27 118).getD (9 : Int32).toNatClampNeg 0)
          refine fo_goS mi_k166 fz166_131_2_133 [.int (((a27 118).getD (9 : Int32).toNatClampNeg 0) + 1), .int 9, .ref 118] rfl ?_
          refine ko_iast3 mi_k166.1 (n := 31) (c := 31) (ax := (0, 0, 0, 0, 0)) (mi_k166.2 _ _ (by rfl)) (by rfl) (ksG118 _ _ _ _) (ksA118 _ _ _ _) (hJ27.I.2.1 118) rfl (oh93 koh9) (oh94 koh9) ?_
          intro a33 ea33 fa33
          have hJ33 := kG_a3 hJ27 118 rfl ea33 fa33 (kE_nset (p := 118) (by decide) (oh93 koh9) (oh187 koh9) (oh188 koh9))
          have s34 : (10 + x1).toInt = (10 : Int32).toInt + x1.toInt := kd_add (oh85 hp0.1 koh10) (oh86 hp0.2 koh10)
          refine fo_goS mi_k166 fz166_134_6_143 [.int (10 + x1), .ref 118, .int (10 + x1), .ref 118] rfl ?_
          refine ko_iald3 mi_k166.1 (n := 31) (c := 31) (ax := (0, 0, 0, 0, 0)) (mi_k166.2 _ _ (by rfl)) (by rfl) (ksG118 _ _ _ _) (hJ33.I.2.1 118) rfl (oh87 hp0.1 s34 koh10) (oh88 hp0.2 s34 koh10) ?_
          have r35 : (((10 + x1).toInt = 18 → (0 : Int) ≤ ((a33 118).getD (10 + x1).toNatClampNeg 0).toInt ∧ ((a33 118).getD (10 + x1).toNatClampNeg 0).toInt ≤ 5)) ∧ ((19 ≤ (10 + x1).toInt → (10 + x1).toInt ≤ 24 → (0 : Int) ≤ ((a33 118).getD (10 + x1).toNatClampNeg 0).toInt ∧ ((a33 118).getD (10 + x1).toNatClampNeg 0).toInt ≤ 7)) := kE_ncond (p := 118) hJ33.I (by decide) (j := (10 + x1)) (oh87 hp0.1 s34 koh10)
          have u36 : ((ag13 118).getD (10 + x1).toNatClampNeg 0).toInt = ((a7 118).getD (10 + x1).toNatClampNeg 0).toInt := congrArg (fun z : List Int32 => (z.getD (10 + x1).toNatClampNeg 0).toInt) (kg13.fa 118 rfl)
          have u37 : ((a19 118).getD (10 + x1).toNatClampNeg 0).toInt = ((ag13 118).getD (10 + x1).toNatClampNeg 0).toInt := congrArg Int32.toInt ((congrArg (fun z : List Int32 => z.getD (10 + x1).toNatClampNeg 0) ea19).trans (kgs_ne (oh87 hp0.1 s34 koh10) (oh37 r16.1 s18 koh19) (oh189 hp0.2 r16.1 s18 s34 koh19 koh10)))
          have u38 : ((a23 118).getD (10 + x1).toNatClampNeg 0).toInt = ((a19 118).getD (10 + x1).toNatClampNeg 0).toInt := congrArg Int32.toInt ((congrArg (fun z : List Int32 => z.getD (10 + x1).toNatClampNeg 0) ea23).trans (kgs_ne (oh87 hp0.1 s34 koh10) (oh48 r20.1 s22 koh25) (oh190 hp0.2 r20.1 s22 s34 koh25 koh10)))
          have u39 : ((a27 118).getD (10 + x1).toNatClampNeg 0).toInt = ((a23 118).getD (10 + x1).toNatClampNeg 0).toInt := congrArg Int32.toInt ((congrArg (fun z : List Int32 => z.getD (10 + x1).toNatClampNeg 0) ea27).trans (kgs_ne (oh87 hp0.1 s34 koh10) (oh4 koh18) (oh191 hp0.2 s34 koh10 koh18)))
          have u40 : ((a33 118).getD (10 + x1).toNatClampNeg 0).toInt = ((a27 118).getD (10 + x1).toNatClampNeg 0).toInt := congrArg Int32.toInt ((congrArg (fun z : List Int32 => z.getD (10 + x1).toNatClampNeg 0) ea33).trans (kgs_ne (oh87 hp0.1 s34 koh10) (oh93 koh9) (oh192 hp0.1 s34 koh10 koh9)))
          have b41 : ((-2147483648 : Int) ≤ ((a33 118).getD (10 + x1).toNatClampNeg 0).toInt) ∧ (((a33 118).getD (10 + x1).toNatClampNeg 0).toInt ≤ 2147483647) := kd_bd ((a33 118).getD (10 + x1).toNatClampNeg 0)
          refine fo_goS mi_k166 fz166_144_2_146 [.int (((a33 118).getD (10 + x1).toNatClampNeg 0) + 1), .int (10 + x1), .ref 118] rfl ?_
          refine ko_iast3 mi_k166.1 (n := 31) (c := 31) (ax := (0, 0, 0, 0, 0)) (mi_k166.2 _ _ (by rfl)) (by rfl) (ksG118 _ _ _ _) (ksA118 _ _ _ _) (hJ33.I.2.1 118) rfl (oh87 hp0.1 s34 koh10) (oh88 hp0.2 s34 koh10) ?_
          intro a42 ea42 fa42
          have hJ42 := kG_a3 hJ33 118 rfl ea42 fa42 (kE_nset (p := 118) (by decide) (oh87 hp0.1 s34 koh10) (oh193 hp0.2 s34 koh10) (oh194 hp0.2 s34 koh10))
          refine ft_goS mi_k166 1 148 [.int 1] (by rfl) ?_
          exact ft_ret mi_k166 (by rfl) (hP 1 _ _ _ _ hJ42 ⟨(oh195 c5 koh1), ⟨(fun _ => (show a42 118 = sCome x1 (gBuy (i 7431) (a 120) (a 121) (a 122) (a 123) (i 7432) (a 117) (a 118) (gPaid (i 7426) x1 (a 118) (i 7467) (a 141)).1 x1) (gPaid (i 7426) x1 (a 118) (i 7467) (a 141)).1 from (by first | rfl | (simp only [ea42, ea33, ea27, ea23, ea19, q14, (hL7.fi 7431 rfl : i7 7431 = i 7431), hL7.fa 120 rfl, hL7.fa 121 rfl, hL7.fa 122 rfl, hL7.fa 123 rfl, hL7.fa 117 rfl, E12_0, (hL7.fi 7432 rfl : i7 7432 = i 7432), kg13.fa 118 rfl, sMn, sMx, gBuy, sCome, sC1, sC2, sC3, sC4, sC5]; done) | (simp only [ea42, ea33, ea27, ea23, ea19, q14, (hL7.fi 7431 rfl : i7 7431 = i 7431), hL7.fa 120 rfl, hL7.fa 121 rfl, hL7.fa 122 rfl, hL7.fa 123 rfl, hL7.fa 117 rfl, E12_0, (hL7.fi 7432 rfl : i7 7432 = i 7432), kg13.fa 118 rfl, sMn, sMx, gBuy, sCome, sC1, sC2, sC3, sC4, sC5]; rfl)))), (fun _ => (show ig13 7464 = (gPaid (i 7426) x1 (a 118) (i 7467) (a 141)).2.1 from (by first | rfl | (simp only [(kg13.fi 7464 rfl : ig13 7464 = i7 7464), E12_1, sMn, sMx, gBuy, sCome, sC1, sC2, sC3, sC4, sC5]; done) | (simp only [(kg13.fi 7464 rfl : ig13 7464 = i7 7464), E12_1, sMn, sMx, gBuy, sCome, sC1, sC2, sC3, sC4, sC5]; rfl)))), (fun _ => (show ig13 7465 = (gPaid (i 7426) x1 (a 118) (i 7467) (a 141)).2.2.1 from (by first | rfl | (simp only [(kg13.fi 7465 rfl : ig13 7465 = i7 7465), E12_2, sMn, sMx, gBuy, sCome, sC1, sC2, sC3, sC4, sC5]; done) | (simp only [(kg13.fi 7465 rfl : ig13 7465 = i7 7465), E12_2, sMn, sMx, gBuy, sCome, sC1, sC2, sC3, sC4, sC5]; rfl)))), (fun _ => (show vg13 = (gBuy (i 7431) (a 120) (a 121) (a 122) (a 123) (i 7432) (a 117) (a 118) (gPaid (i 7426) x1 (a 118) (i 7467) (a 141)).1 x1) from (by first | rfl | (simp only [q14, (hL7.fi 7431 rfl : i7 7431 = i 7431), hL7.fa 120 rfl, hL7.fa 121 rfl, hL7.fa 122 rfl, hL7.fa 123 rfl, hL7.fa 117 rfl, E12_0, (hL7.fi 7432 rfl : i7 7432 = i 7432), sMn, sMx, gBuy, sCome, sC1, sC2, sC3, sC4, sC5]; done) | (simp only [q14, (hL7.fi 7431 rfl : i7 7431 = i 7431), hL7.fa 120 rfl, hL7.fa 121 rfl, hL7.fa 122 rfl, hL7.fa 123 rfl, hL7.fa 117 rfl, E12_0, (hL7.fi 7432 rfl : i7 7432 = i 7432), sMn, sMx, gBuy, sCome, sC1, sC2, sC3, sC4, sC5]; rfl)))), (fun _ => (show ig13 7467 = (gPaid (i 7426) x1 (a 118) (i 7467) (a 141)).2.2.2.1 from (by first | rfl | (simp only [(kg13.fi 7467 rfl : ig13 7467 = i7 7467), E12_3, sMn, sMx, gBuy, sCome, sC1, sC2, sC3, sC4, sC5]; done) | (simp only [(kg13.fi 7467 rfl : ig13 7467 = i7 7467), E12_3, sMn, sMx, gBuy, sCome, sC1, sC2, sC3, sC4, sC5]; rfl)))), (fun _ => (show a42 141 = (gPaid (i 7426) x1 (a 118) (i 7467) (a 141)).2.2.2.2 from (by first | rfl | (simp only [fa42 141 (by decide), fa33 141 (by decide), fa27 141 (by decide), fa23 141 (by decide), fa19 141 (by decide), kg13.fa 141 rfl, E12_4, sMn, sMx, gBuy, sCome, sC1, sC2, sC3, sC4, sC5]; done) | (simp only [fa42 141 (by decide), fa33 141 (by decide), fa27 141 (by decide), fa23 141 (by decide), fa19 141 (by decide), kg13.fa 141 rfl, E12_4, sMn, sMx, gBuy, sCome, sC1, sC2, sC3, sC4, sC5]; rfl)))), (fun h => absurd h (oh196 c5 koh1)), (fun h => absurd h (oh196 c5 koh1)), (fun h => absurd h (oh196 c5 koh1)), (fun h => absurd h (oh196 c5 koh1)), (fun h => absurd h (oh196 c5 koh1)), (fun h => absurd h (oh196 c5 koh1))⟩⟩)
        ·
          have c43 : (i7 7426).toInt ≤ ((a7 118).getD (18 : Int32).toNatClampNeg 0).toInt := kd_ltF c; clear c
          refine fo_goS mi_k166 fz166_59_2_61 [.int x1, .ref 116] rfl ?_
          refine ko_callN mi_k166.1 (pc := 61) (ls := [(2, .int ((a 118).getD x1.toNatClampNeg 0)), (0, .ref 116), (1, .int x1)]) (st := [.int x1, .ref 116]) (h := ks i7 a7 q7 r7) (i := (.invokevirtual 250, 3, 165, 0, 9, 0, 416)) (mi_k166.2 _ _ (by rfl)) (ft_invS mi_pq165 (by rfl)) (cy := mi_c165) mi_pq165 rfl (kf165_116 hL7.I hL7.R x1 (oh175 hp0.1 hp0.2) (oh197 c43 fi7_7426.1)) (by decide) ?_
          intro ig44 ag44 qg44 rg44 kg44 hg44
          have hGg44 := kG_call hL7 kg44 (by decide +kernel)
          obtain ⟨hg44, og44⟩ := hg44
          have r45 : ((0 : Int) ≤ ((ag44 118).getD (18 : Int32).toNatClampNeg 0).toInt) ∧ (((ag44 118).getD (18 : Int32).toNatClampNeg 0).toInt ≤ 5) := kE_n18 (p := 118) hGg44.I (by decide)
          have z46 : ((ag44 118).getD (18 : Int32).toNatClampNeg 0).toInt = (((a7 118).getD (18 : Int32).toNatClampNeg 0).toInt - 1) := hg44
          first | refine fo_goL mi_k166 fz166_44_1_45 [(2, .int ((a 118).getD x1.toNatClampNeg 0)), (0, .ref 116), (1, .int x1)] [] (by rfl) ?_ | refine fo_goS mi_k166 fz166_64_1_45 [] (by rfl) ?_
          exact ih7 _ _ _ _ hGg44 (sP_again (S := (a7 118, i7 7464, i7 7465, i7 7467, a7 141)) (S1 := (ag44 118, ig44 7464, ig44 7465, ig44 7467, ag44 141)) O7_0 og44 (oh198 fi_7426.1) (oh103 c43 efi7_7426) (oh199 z46)) (kj_meas (oh200 z46) (oh197 c43 fi7_7426.1) hm7)
    exact lp7 _ _ _ _ _ (kG_self _ hJ3.I hJ3.R) rfl (Nat.lt_succ_self _)
  ·
    have c47 : ((a 117).getD (16 + x1).toNatClampNeg 0).toInt = (1 : Int32).toInt := kd_neF c; clear c
    refine ft_goS mi_k166 2 33 [.int (i 7427)] (by rfl) ?_
    refine ft_ifS mi_k166 ((i 7427) != 0) 38 36 [] (by rfl) (fun c => ?_) (fun c => ?_)
    ·
      have c48 : (i 7427).toInt ≠ (0 : Int32).toInt := kd_ne c; clear c
      refine fo_goS mi_k166 fz166_38_3_43 [.int x1, .ref 118] rfl ?_
      refine ko_iald3 mi_k166.1 (n := 31) (c := 31) (ax := (0, 0, 0, 0, 0)) (mi_k166.2 _ _ (by rfl)) (by rfl) (ksG118 _ _ _ _) (hJ3.I.2.1 118) rfl (oh11 hp0.1) (oh12 hp0.2) ?_
      have r49 : ((x1.toInt = 18 → (0 : Int) ≤ ((a 118).getD x1.toNatClampNeg 0).toInt ∧ ((a 118).getD x1.toNatClampNeg 0).toInt ≤ 5)) ∧ ((19 ≤ x1.toInt → x1.toInt ≤ 24 → (0 : Int) ≤ ((a 118).getD x1.toNatClampNeg 0).toInt ∧ ((a 118).getD x1.toNatClampNeg 0).toInt ≤ 7)) := kE_ncond (p := 118) hJ3.I (by decide) (j := x1) (oh11 hp0.1)
      first | refine fo_goL mi_k166 fz166_44_1_45 [(2, .int ((a 118).getD x1.toNatClampNeg 0)), (0, .ref 116), (1, .int x1)] [] (by rfl) ?_ | refine fo_goS mi_k166 fz166_64_1_45 [] (by rfl) ?_
      have lp50 : ∀ (nz : Nat) (i50 : Nat → Int32) (a50 : Nat → List Int32) (q50 : Nat → List Int64) (r50 : Nat → Nat), kG yw166_116_L45 (ku (ku (ku i 7464 8) 7465 0) 7466 0) a q r i50 a50 q50 r50 → sPaid (i 7426) x1 ((a50 118).getD 18 0).toInt.toNat (a50 118, i50 7464, i50 7465, i50 7467, a50 141) = (gPaid (i 7426) x1 (a 118) (i 7467) (a 141)) → (((a50 118).getD (18 : Int32).toNatClampNeg 0).toInt).toNat < nz → ko 9 (mi_h166, mi_c166) P (45, [(2, .int ((a 118).getD x1.toNatClampNeg 0)), (0, .ref 116), (1, .int x1)], [], (0, 0), ks i50 a50 q50 r50) := by
        intro nz
        induction nz with
        | zero =>
          intro _ _ _ _ _ _ hm
          exact absurd hm (Nat.not_lt_zero _)
        | succ nz ih50 =>
          intro i50 a50 q50 r50 hL50 O50_0 hm50
          have r52 : ((0 : Int) ≤ ((a50 118).getD (18 : Int32).toNatClampNeg 0).toInt) ∧ (((a50 118).getD (18 : Int32).toNatClampNeg 0).toInt ≤ 5) := kE_n18 (p := 118) hL50.I (by decide)
          refine fo_goL mi_k166 fz166_45_3_51 [(2, .int ((a 118).getD x1.toNatClampNeg 0)), (0, .ref 116), (1, .int x1)] [.int 18, .ref 118] rfl ?_
          refine ko_iald3 mi_k166.1 (n := 31) (c := 31) (ax := (0, 0, 0, 0, 0)) (mi_k166.2 _ _ (by rfl)) (by rfl) (ksG118 _ _ _ _) (hL50.I.2.1 118) rfl (oh4 koh18) (oh5 koh18) ?_
          have fi50_7426 : ((1 : Int) ≤ (i50 7426).toInt) ∧ ((i50 7426).toInt ≤ 5) := hL50.I.1 7426
          have fi_7426 : ((1 : Int) ≤ (i 7426).toInt) ∧ ((i 7426).toInt ≤ 5) := hJ3.I.1 7426
          have efi50_7426 : (i50 7426).toInt = (i 7426).toInt := hL50.ti 7426 rfl
          refine fo_goS mi_k166 fz166_52_2_56 [.int (i50 7426), .int ((a50 118).getD (18 : Int32).toNatClampNeg 0)] rfl ?_
          refine ft_ifS mi_k166 (decide (((a50 118).getD (18 : Int32).toNatClampNeg 0) < (i50 7426))) 67 59 [] (by rfl) (fun c => ?_) (fun c => ?_)
          ·
            have c53 : ((a50 118).getD (18 : Int32).toNatClampNeg 0).toInt < (i50 7426).toInt := kd_lt c; clear c
            have hG54 := kG_call hJ3 hL50 (by decide +kernel)
            have E55 : (a50 118, i50 7464, i50 7465, i50 7467, a50 141) = (gPaid (i 7426) x1 (a 118) (i 7467) (a 141)) := sP_done O50_0 (oh77 c53 efi50_7426)
            have E55_0 : a50 118 = (gPaid (i 7426) x1 (a 118) (i 7467) (a 141)).1 := congrArg (fun z : kSt => z.1) E55
            have E55_1 : i50 7464 = (gPaid (i 7426) x1 (a 118) (i 7467) (a 141)).2.1 := congrArg (fun z : kSt => z.2.1) E55
            have E55_2 : i50 7465 = (gPaid (i 7426) x1 (a 118) (i 7467) (a 141)).2.2.1 := congrArg (fun z : kSt => z.2.2.1) E55
            have E55_3 : i50 7467 = (gPaid (i 7426) x1 (a 118) (i 7467) (a 141)).2.2.2.1 := congrArg (fun z : kSt => z.2.2.2.1) E55
            have E55_4 : a50 141 = (gPaid (i 7426) x1 (a 118) (i 7467) (a 141)).2.2.2.2 := congrArg (fun z : kSt => z.2.2.2.2) E55
            refine fo_goS mi_k166 fz166_67_4_71 [.int ((a 118).getD x1.toNatClampNeg 0), .int x1, .ref 116, .ref 116] rfl ?_
            refine ko_callI mi_k166.1 (pc := 71) (ls := [(2, .int ((a 118).getD x1.toNatClampNeg 0)), (0, .ref 116), (1, .int x1)]) (st := [.int ((a 118).getD x1.toNatClampNeg 0), .int x1, .ref 116, .ref 116]) (h := ks i50 a50 q50 r50) (i := (.invokevirtual 254, 3, 163, 0, 9, 0, 418)) (mi_k166.2 _ _ (by rfl)) (ft_invS mi_pq163 (by rfl)) (cy := mi_c163) mi_pq163 rfl (ke163_116 hG54.I hG54.R x1 ((a 118).getD x1.toNatClampNeg 0) (oh175 hp0.1 hp0.2) (kCode_of (i1 := i50) hE_code (hG54.fi 7432 rfl) (hG54.fa 120 rfl) (hG54.fa 121 rfl) (hG54.fa 122 rfl) (hG54.fa 123 rfl))) (by decide) ?_
            intro vg56 ig56 ag56 qg56 rg56 kg56 hg56
            have hGg56 := kG_call hG54 kg56 (by decide +kernel)
            obtain ⟨hg56, og56⟩ := hg56
            have q57 : vg56 = rBuyV (i50 7431) (wLaw (a50 120) (a50 121) (a50 122) (a50 123) [(a50 117).getD x1.toNatClampNeg 0, ((a 118).getD x1.toNatClampNeg 0), (a50 117).getD (8 + x1).toNatClampNeg 0, (a50 118).getD (9 : Int32).toNatClampNeg 0, (a50 118).getD (10 + x1).toNatClampNeg 0, (a50 118).getD (8 : Int32).toNatClampNeg 0] (i50 7432).toInt.toNat 0) ((a50 117).getD x1.toNatClampNeg 0) ((a50 117).getD (8 + x1).toNatClampNeg 0) ((a50 118).getD (10 + x1).toNatClampNeg 0) := og56
            have hJ58 := kG_i hGg56 7466 rfl (v := vg56) (kd_bd _)
            first | refine fo_goI mi_k166 fz166_74_7_89 [.int 18, .ref 118, .int 19, .ref 118] (ku ig56 7466 vg56) (by rfl) ?_ | refine ft_go mi_k166 7 89 [(2, .int ((a 118).getD x1.toNatClampNeg 0)), (0, .ref 116), (1, .int x1)] [.int 18, .ref 118, .int 19, .ref 118] (ku ig56 7466 vg56) ag56 qg56 rg56 (by rfl) ?_
            refine ko_iald3 mi_k166.1 (n := 31) (c := 31) (ax := (0, 0, 0, 0, 0)) (mi_k166.2 _ _ (by rfl)) (by rfl) (ksG118 _ _ _ _) (hJ58.I.2.1 118) rfl (oh4 koh18) (oh5 koh18) ?_
            have r59 : ((0 : Int) ≤ ((ag56 118).getD (18 : Int32).toNatClampNeg 0).toInt) ∧ (((ag56 118).getD (18 : Int32).toNatClampNeg 0).toInt ≤ 5) := kE_n18 (p := 118) hJ58.I (by decide)
            have u60 : ((ag56 118).getD (18 : Int32).toNatClampNeg 0).toInt = ((a50 118).getD (18 : Int32).toNatClampNeg 0).toInt := congrArg (fun z : List Int32 => (z.getD (18 : Int32).toNatClampNeg 0).toInt) (kg56.fa 118 rfl)
            have s61 : (19 + ((ag56 118).getD (18 : Int32).toNatClampNeg 0)).toInt = (19 : Int32).toInt + ((ag56 118).getD (18 : Int32).toNatClampNeg 0).toInt := kd_add (oh30 r59.1 koh19) (oh177 r59.2 koh19)
            refine fo_goS mi_k166 fz166_90_2_92 [.int x1, .int (19 + ((ag56 118).getD (18 : Int32).toNatClampNeg 0)), .ref 118] rfl ?_
            refine ko_iast3 mi_k166.1 (n := 31) (c := 31) (ax := (0, 0, 0, 0, 0)) (mi_k166.2 _ _ (by rfl)) (by rfl) (ksG118 _ _ _ _) (ksA118 _ _ _ _) (hJ58.I.2.1 118) rfl (oh37 r59.1 s61 koh19) (oh178 r59.2 s61 koh19) ?_
            intro a62 ea62 fa62
            have hJ62 := kG_a3 hJ58 118 rfl ea62 fa62 (kE_nset (p := 118) (by decide) (oh37 r59.1 s61 koh19) (oh39 r59.1 s61 koh19) (oh179 hp0.1 hp0.2))
            refine fo_goS mi_k166 fz166_93_6_105 [.int 18, .ref 118, .int 25, .ref 118] rfl ?_
            refine ko_iald3 mi_k166.1 (n := 31) (c := 31) (ax := (0, 0, 0, 0, 0)) (mi_k166.2 _ _ (by rfl)) (by rfl) (ksG118 _ _ _ _) (hJ62.I.2.1 118) rfl (oh4 koh18) (oh5 koh18) ?_
            have r63 : ((0 : Int) ≤ ((a62 118).getD (18 : Int32).toNatClampNeg 0).toInt) ∧ (((a62 118).getD (18 : Int32).toNatClampNeg 0).toInt ≤ 5) := kE_n18 (p := 118) hJ62.I (by decide)
            have u64 : ((a62 118).getD (18 : Int32).toNatClampNeg 0).toInt = ((ag56 118).getD (18 : Int32).toNatClampNeg 0).toInt := congrArg Int32.toInt ((congrArg (fun z : List Int32 => z.getD (18 : Int32).toNatClampNeg 0) ea62).trans (kgs_ne (oh4 koh18) (oh37 r59.1 s61 koh19) (oh55 r59.1 s61 koh19 koh18)))
            have s65 : (25 + ((a62 118).getD (18 : Int32).toNatClampNeg 0)).toInt = (25 : Int32).toInt + ((a62 118).getD (18 : Int32).toNatClampNeg 0).toInt := kd_add (oh41 r63.1 koh25) (oh180 r63.2 koh25)
            refine fo_goS mi_k166 fz166_106_3_111 [.int vg56, .int (25 + ((a62 118).getD (18 : Int32).toNatClampNeg 0)), .ref 118] rfl ?_
            refine ko_iast3 mi_k166.1 (n := 31) (c := 31) (ax := (0, 0, 0, 0, 0)) (mi_k166.2 _ _ (by rfl)) (by rfl) (ksG118 _ _ _ _) (ksA118 _ _ _ _) (hJ62.I.2.1 118) rfl (oh48 r63.1 s65 koh25) (oh181 r63.2 s65 koh25) ?_
            intro a66 ea66 fa66
            have hJ66 := kG_a3 hJ62 118 rfl ea66 fa66 (kE_nset (p := 118) (by decide) (oh48 r63.1 s65 koh25) (oh50 r63.1 s65 koh25) (oh51 r63.1 s65 koh25))
            refine fo_goS mi_k166 fz166_112_4_119 [.int 18, .ref 118, .int 18, .ref 118] rfl ?_
            refine ko_iald3 mi_k166.1 (n := 31) (c := 31) (ax := (0, 0, 0, 0, 0)) (mi_k166.2 _ _ (by rfl)) (by rfl) (ksG118 _ _ _ _) (hJ66.I.2.1 118) rfl (oh4 koh18) (oh5 koh18) ?_
            have r67 : ((0 : Int) ≤ ((a66 118).getD (18 : Int32).toNatClampNeg 0).toInt) ∧ (((a66 118).getD (18 : Int32).toNatClampNeg 0).toInt ≤ 5) := kE_n18 (p := 118) hJ66.I (by decide)
            have u68 : ((a66 118).getD (18 : Int32).toNatClampNeg 0).toInt = ((a62 118).getD (18 : Int32).toNatClampNeg 0).toInt := congrArg Int32.toInt ((congrArg (fun z : List Int32 => z.getD (18 : Int32).toNatClampNeg 0) ea66).trans (kgs_ne (oh4 koh18) (oh48 r63.1 s65 koh25) (oh56 r63.1 s65 koh25 koh18)))
            have s69 : (((a66 118).getD (18 : Int32).toNatClampNeg 0) + 1).toInt = ((a66 118).getD (18 : Int32).toNatClampNeg 0).toInt + (1 : Int32).toInt := kd_add (oh52 r67.1 koh1) (oh182 r67.2 koh1)
            refine fo_goS mi_k166 fz166_120_2_122 [.int (((a66 118).getD (18 : Int32).toNatClampNeg 0) + 1), .int 18, .ref 118] rfl ?_
            refine ko_iast3 mi_k166.1 (n := 31) (c := 31) (ax := (0, 0, 0, 0, 0)) (mi_k166.2 _ _ (by rfl)) (by rfl) (ksG118 _ _ _ _) (ksA118 _ _ _ _) (hJ66.I.2.1 118) rfl (oh4 koh18) (oh5 koh18) ?_
            intro a70 ea70 fa70
            have hJ70 := kG_a3 hJ66 118 rfl ea70 fa70 (kE_nset (p := 118) (by decide) (oh4 koh18) (oh183 c53 fi50_7426.2 r67.1 s69 u60 u64 u68 koh1 koh18) (oh9 koh18))
            refine fo_goS mi_k166 fz166_123_4_130 [.int 9, .ref 118, .int 9, .ref 118] rfl ?_
            refine ko_iald3 mi_k166.1 (n := 31) (c := 31) (ax := (0, 0, 0, 0, 0)) (mi_k166.2 _ _ (by rfl)) (by rfl) (ksG118 _ _ _ _) (hJ70.I.2.1 118) rfl (oh93 koh9) (oh94 koh9) ?_
            have u71 : ((ag56 118).getD (9 : Int32).toNatClampNeg 0).toInt = ((a50 118).getD (9 : Int32).toNatClampNeg 0).toInt := congrArg (fun z : List Int32 => (z.getD (9 : Int32).toNatClampNeg 0).toInt) (kg56.fa 118 rfl)
            have u72 : ((a62 118).getD (9 : Int32).toNatClampNeg 0).toInt = ((ag56 118).getD (9 : Int32).toNatClampNeg 0).toInt := congrArg Int32.toInt ((congrArg (fun z : List Int32 => z.getD (9 : Int32).toNatClampNeg 0) ea62).trans (kgs_ne (oh93 koh9) (oh37 r59.1 s61 koh19) (oh184 r59.1 s61 koh19 koh9)))
            have u73 : ((a66 118).getD (9 : Int32).toNatClampNeg 0).toInt = ((a62 118).getD (9 : Int32).toNatClampNeg 0).toInt := congrArg Int32.toInt ((congrArg (fun z : List Int32 => z.getD (9 : Int32).toNatClampNeg 0) ea66).trans (kgs_ne (oh93 koh9) (oh48 r63.1 s65 koh25) (oh185 r63.1 s65 koh25 koh9)))
            have u74 : ((a70 118).getD (9 : Int32).toNatClampNeg 0).toInt = ((a66 118).getD (9 : Int32).toNatClampNeg 0).toInt := congrArg Int32.toInt ((congrArg (fun z : List Int32 => z.getD (9 : Int32).toNatClampNeg 0) ea70).trans (kgs_ne (oh93 koh9) (oh4 koh18) (oh186 koh9 koh18)))
            have b75 : ((-2147483648 : Int) ≤ ((a70 118).getD (9 : Int32).toNatClampNeg 0).toInt) ∧ (((a70 118).getD (9 : Int32).toNatClampNeg 0).toInt ≤ 2147483647) := kd_bd ((a70 118).getD (9 : Int32).toNatClampNeg 0)
            refine fo_goS mi_k166 fz166_131_2_133 [.int (((a70 118).getD (9 : Int32).toNatClampNeg 0) + 1), .int 9, .ref 118] rfl ?_
            refine ko_iast3 mi_k166.1 (n := 31) (c := 31) (ax := (0, 0, 0, 0, 0)) (mi_k166.2 _ _ (by rfl)) (by rfl) (ksG118 _ _ _ _) (ksA118 _ _ _ _) (hJ70.I.2.1 118) rfl (oh93 koh9) (oh94 koh9) ?_
            intro a76 ea76 fa76
            have hJ76 := kG_a3 hJ70 118 rfl ea76 fa76 (kE_nset (p := 118) (by decide) (oh93 koh9) (oh187 koh9) (oh188 koh9))
            have s77 : (10 + x1).toInt = (10 : Int32).toInt + x1.toInt := kd_add (oh85 hp0.1 koh10) (oh86 hp0.2 koh10)
            refine fo_goS mi_k166 fz166_134_6_143 [.int (10 + x1), .ref 118, .int (10 + x1), .ref 118] rfl ?_
            refine ko_iald3 mi_k166.1 (n := 31) (c := 31) (ax := (0, 0, 0, 0, 0)) (mi_k166.2 _ _ (by rfl)) (by rfl) (ksG118 _ _ _ _) (hJ76.I.2.1 118) rfl (oh87 hp0.1 s77 koh10) (oh88 hp0.2 s77 koh10) ?_
            have r78 : (((10 + x1).toInt = 18 → (0 : Int) ≤ ((a76 118).getD (10 + x1).toNatClampNeg 0).toInt ∧ ((a76 118).getD (10 + x1).toNatClampNeg 0).toInt ≤ 5)) ∧ ((19 ≤ (10 + x1).toInt → (10 + x1).toInt ≤ 24 → (0 : Int) ≤ ((a76 118).getD (10 + x1).toNatClampNeg 0).toInt ∧ ((a76 118).getD (10 + x1).toNatClampNeg 0).toInt ≤ 7)) := kE_ncond (p := 118) hJ76.I (by decide) (j := (10 + x1)) (oh87 hp0.1 s77 koh10)
            have u79 : ((ag56 118).getD (10 + x1).toNatClampNeg 0).toInt = ((a50 118).getD (10 + x1).toNatClampNeg 0).toInt := congrArg (fun z : List Int32 => (z.getD (10 + x1).toNatClampNeg 0).toInt) (kg56.fa 118 rfl)
            have u80 : ((a62 118).getD (10 + x1).toNatClampNeg 0).toInt = ((ag56 118).getD (10 + x1).toNatClampNeg 0).toInt := congrArg Int32.toInt ((congrArg (fun z : List Int32 => z.getD (10 + x1).toNatClampNeg 0) ea62).trans (kgs_ne (oh87 hp0.1 s77 koh10) (oh37 r59.1 s61 koh19) (oh189 hp0.2 r59.1 s61 s77 koh19 koh10)))
            have u81 : ((a66 118).getD (10 + x1).toNatClampNeg 0).toInt = ((a62 118).getD (10 + x1).toNatClampNeg 0).toInt := congrArg Int32.toInt ((congrArg (fun z : List Int32 => z.getD (10 + x1).toNatClampNeg 0) ea66).trans (kgs_ne (oh87 hp0.1 s77 koh10) (oh48 r63.1 s65 koh25) (oh190 hp0.2 r63.1 s65 s77 koh25 koh10)))
            have u82 : ((a70 118).getD (10 + x1).toNatClampNeg 0).toInt = ((a66 118).getD (10 + x1).toNatClampNeg 0).toInt := congrArg Int32.toInt ((congrArg (fun z : List Int32 => z.getD (10 + x1).toNatClampNeg 0) ea70).trans (kgs_ne (oh87 hp0.1 s77 koh10) (oh4 koh18) (oh191 hp0.2 s77 koh10 koh18)))
            have u83 : ((a76 118).getD (10 + x1).toNatClampNeg 0).toInt = ((a70 118).getD (10 + x1).toNatClampNeg 0).toInt := congrArg Int32.toInt ((congrArg (fun z : List Int32 => z.getD (10 + x1).toNatClampNeg 0) ea76).trans (kgs_ne (oh87 hp0.1 s77 koh10) (oh93 koh9) (oh192 hp0.1 s77 koh10 koh9)))
            have b84 : ((-2147483648 : Int) ≤ ((a76 118).getD (10 + x1).toNatClampNeg 0).toInt) ∧ (((a76 118).getD (10 + x1).toNatClampNeg 0).toInt ≤ 2147483647) := kd_bd ((a76 118).getD (10 + x1).toNatClampNeg 0)
            refine fo_goS mi_k166 fz166_144_2_146 [.int (((a76 118).getD (10 + x1).toNatClampNeg 0) + 1), .int (10 + x1), .ref 118] rfl ?_
            refine ko_iast3 mi_k166.1 (n := 31) (c := 31) (ax := (0, 0, 0, 0, 0)) (mi_k166.2 _ _ (by rfl)) (by rfl) (ksG118 _ _ _ _) (ksA118 _ _ _ _) (hJ76.I.2.1 118) rfl (oh87 hp0.1 s77 koh10) (oh88 hp0.2 s77 koh10) ?_
            intro a85 ea85 fa85
            have hJ85 := kG_a3 hJ76 118 rfl ea85 fa85 (kE_nset (p := 118) (by decide) (oh87 hp0.1 s77 koh10) (oh193 hp0.2 s77 koh10) (oh194 hp0.2 s77 koh10))
            refine ft_goS mi_k166 1 148 [.int 1] (by rfl) ?_
            exact ft_ret mi_k166 (by rfl) (hP 1 _ _ _ _ hJ85 ⟨(oh201 c48 koh0 koh1), ⟨(fun _ => (show a85 118 = sCome x1 (gBuy (i 7431) (a 120) (a 121) (a 122) (a 123) (i 7432) (a 117) (a 118) (gPaid (i 7426) x1 (a 118) (i 7467) (a 141)).1 x1) (gPaid (i 7426) x1 (a 118) (i 7467) (a 141)).1 from (by first | rfl | (simp only [ea85, ea76, ea70, ea66, ea62, q57, (hL50.fi 7431 rfl : i50 7431 = i 7431), hL50.fa 120 rfl, hL50.fa 121 rfl, hL50.fa 122 rfl, hL50.fa 123 rfl, hL50.fa 117 rfl, E55_0, (hL50.fi 7432 rfl : i50 7432 = i 7432), kg56.fa 118 rfl, sMn, sMx, gBuy, sCome, sC1, sC2, sC3, sC4, sC5]; done) | (simp only [ea85, ea76, ea70, ea66, ea62, q57, (hL50.fi 7431 rfl : i50 7431 = i 7431), hL50.fa 120 rfl, hL50.fa 121 rfl, hL50.fa 122 rfl, hL50.fa 123 rfl, hL50.fa 117 rfl, E55_0, (hL50.fi 7432 rfl : i50 7432 = i 7432), kg56.fa 118 rfl, sMn, sMx, gBuy, sCome, sC1, sC2, sC3, sC4, sC5]; rfl)))), (fun _ => (show ig56 7464 = (gPaid (i 7426) x1 (a 118) (i 7467) (a 141)).2.1 from (by first | rfl | (simp only [(kg56.fi 7464 rfl : ig56 7464 = i50 7464), E55_1, sMn, sMx, gBuy, sCome, sC1, sC2, sC3, sC4, sC5]; done) | (simp only [(kg56.fi 7464 rfl : ig56 7464 = i50 7464), E55_1, sMn, sMx, gBuy, sCome, sC1, sC2, sC3, sC4, sC5]; rfl)))), (fun _ => (show ig56 7465 = (gPaid (i 7426) x1 (a 118) (i 7467) (a 141)).2.2.1 from (by first | rfl | (simp only [(kg56.fi 7465 rfl : ig56 7465 = i50 7465), E55_2, sMn, sMx, gBuy, sCome, sC1, sC2, sC3, sC4, sC5]; done) | (simp only [(kg56.fi 7465 rfl : ig56 7465 = i50 7465), E55_2, sMn, sMx, gBuy, sCome, sC1, sC2, sC3, sC4, sC5]; rfl)))), (fun _ => (show vg56 = (gBuy (i 7431) (a 120) (a 121) (a 122) (a 123) (i 7432) (a 117) (a 118) (gPaid (i 7426) x1 (a 118) (i 7467) (a 141)).1 x1) from (by first | rfl | (simp only [q57, (hL50.fi 7431 rfl : i50 7431 = i 7431), hL50.fa 120 rfl, hL50.fa 121 rfl, hL50.fa 122 rfl, hL50.fa 123 rfl, hL50.fa 117 rfl, E55_0, (hL50.fi 7432 rfl : i50 7432 = i 7432), sMn, sMx, gBuy, sCome, sC1, sC2, sC3, sC4, sC5]; done) | (simp only [q57, (hL50.fi 7431 rfl : i50 7431 = i 7431), hL50.fa 120 rfl, hL50.fa 121 rfl, hL50.fa 122 rfl, hL50.fa 123 rfl, hL50.fa 117 rfl, E55_0, (hL50.fi 7432 rfl : i50 7432 = i 7432), sMn, sMx, gBuy, sCome, sC1, sC2, sC3, sC4, sC5]; rfl)))), (fun _ => (show ig56 7467 = (gPaid (i 7426) x1 (a 118) (i 7467) (a 141)).2.2.2.1 from (by first | rfl | (simp only [(kg56.fi 7467 rfl : ig56 7467 = i50 7467), E55_3, sMn, sMx, gBuy, sCome, sC1, sC2, sC3, sC4, sC5]; done) | (simp only [(kg56.fi 7467 rfl : ig56 7467 = i50 7467), E55_3, sMn, sMx, gBuy, sCome, sC1, sC2, sC3, sC4, sC5]; rfl)))), (fun _ => (show a85 141 = (gPaid (i 7426) x1 (a 118) (i 7467) (a 141)).2.2.2.2 from (by first | rfl | (simp only [fa85 141 (by decide), fa76 141 (by decide), fa70 141 (by decide), fa66 141 (by decide), fa62 141 (by decide), kg56.fa 141 rfl, E55_4, sMn, sMx, gBuy, sCome, sC1, sC2, sC3, sC4, sC5]; done) | (simp only [fa85 141 (by decide), fa76 141 (by decide), fa70 141 (by decide), fa66 141 (by decide), fa62 141 (by decide), kg56.fa 141 rfl, E55_4, sMn, sMx, gBuy, sCome, sC1, sC2, sC3, sC4, sC5]; rfl)))), (fun h => absurd h (oh202 c48 koh0)), (fun h => absurd h (oh202 c48 koh0)), (fun h => absurd h (oh202 c48 koh0)), (fun h => absurd h (oh202 c48 koh0)), (fun h => absurd h (oh202 c48 koh0)), (fun h => absurd h (oh202 c48 koh0))⟩⟩)
          ·
            have c86 : (i50 7426).toInt ≤ ((a50 118).getD (18 : Int32).toNatClampNeg 0).toInt := kd_ltF c; clear c
            refine fo_goS mi_k166 fz166_59_2_61 [.int x1, .ref 116] rfl ?_
            refine ko_callN mi_k166.1 (pc := 61) (ls := [(2, .int ((a 118).getD x1.toNatClampNeg 0)), (0, .ref 116), (1, .int x1)]) (st := [.int x1, .ref 116]) (h := ks i50 a50 q50 r50) (i := (.invokevirtual 250, 3, 165, 0, 9, 0, 416)) (mi_k166.2 _ _ (by rfl)) (ft_invS mi_pq165 (by rfl)) (cy := mi_c165) mi_pq165 rfl (kf165_116 hL50.I hL50.R x1 (oh175 hp0.1 hp0.2) (oh197 c86 fi50_7426.1)) (by decide) ?_
            intro ig87 ag87 qg87 rg87 kg87 hg87
            have hGg87 := kG_call hL50 kg87 (by decide +kernel)
            obtain ⟨hg87, og87⟩ := hg87
            have r88 : ((0 : Int) ≤ ((ag87 118).getD (18 : Int32).toNatClampNeg 0).toInt) ∧ (((ag87 118).getD (18 : Int32).toNatClampNeg 0).toInt ≤ 5) := kE_n18 (p := 118) hGg87.I (by decide)
            have z89 : ((ag87 118).getD (18 : Int32).toNatClampNeg 0).toInt = (((a50 118).getD (18 : Int32).toNatClampNeg 0).toInt - 1) := hg87
            first | refine fo_goL mi_k166 fz166_44_1_45 [(2, .int ((a 118).getD x1.toNatClampNeg 0)), (0, .ref 116), (1, .int x1)] [] (by rfl) ?_ | refine fo_goS mi_k166 fz166_64_1_45 [] (by rfl) ?_
            exact ih50 _ _ _ _ hGg87 (sP_again (S := (a50 118, i50 7464, i50 7465, i50 7467, a50 141)) (S1 := (ag87 118, ig87 7464, ig87 7465, ig87 7467, ag87 141)) O50_0 og87 (oh198 fi_7426.1) (oh103 c86 efi50_7426) (oh199 z89)) (kj_meas (oh200 z89) (oh197 c86 fi50_7426.1) hm50)
      exact lp50 _ _ _ _ _ (kG_self _ hJ3.I hJ3.R) rfl (Nat.lt_succ_self _)
    ·
      have c90 : (i 7427).toInt = (0 : Int32).toInt := kd_neF c; clear c
      refine ft_goS mi_k166 1 37 [.int 0] (by rfl) ?_
      exact ft_ret mi_k166 (by rfl) (hP 0 _ _ _ _ hJ3 ⟨(oh203 c47 c90 koh1 koh0), ⟨(fun h => absurd h (oh204 c47 c90 koh1 koh0)), (fun h => absurd h (oh204 c47 c90 koh1 koh0)), (fun h => absurd h (oh204 c47 c90 koh1 koh0)), (fun h => absurd h (oh204 c47 c90 koh1 koh0)), (fun h => absurd h (oh204 c47 c90 koh1 koh0)), (fun h => absurd h (oh204 c47 c90 koh1 koh0)), (fun _ => (show a 118 = a 118 from rfl)), (fun _ => (show (8 : Int32) = 8 from (by first | rfl | (simp only [sMn, sMx, gBuy, sCome, sC1, sC2, sC3, sC4, sC5]; done) | (simp only [sMn, sMx, gBuy, sCome, sC1, sC2, sC3, sC4, sC5]; rfl)))), (fun _ => (show (0 : Int32) = 0 from (by first | rfl | (simp only [sMn, sMx, gBuy, sCome, sC1, sC2, sC3, sC4, sC5]; done) | (simp only [sMn, sMx, gBuy, sCome, sC1, sC2, sC3, sC4, sC5]; rfl)))), (fun _ => (show (0 : Int32) = 0 from (by first | rfl | (simp only [sMn, sMx, gBuy, sCome, sC1, sC2, sC3, sC4, sC5]; done) | (simp only [sMn, sMx, gBuy, sCome, sC1, sC2, sC3, sC4, sC5]; rfl)))), (fun _ => (show i 7467 = i 7467 from rfl)), (fun _ => (show a 141 = a 141 from rfl))⟩⟩)
end
section
/-! ONE COMES IN, PURELY, AS THE CLASS HAS IT -/
noncomputable def cT0 (p : Nat) (i : Nat → Int32) (a : Nat → List Int32) : kCt := (i (64 * (p + 6) + 2), a (p + 7), a (p + 8), a (p + 1), 8, 0, a (p + 13), cRow p a)
theorem cP_again {b b1 t3 c : Int32} {m n : Nat} {T T1 R : kCt} (h : cPaid b t3 c m T = R) (hm : m = n + 1) (ht : t3.toInt ≤ T.1.toInt) (o : T1 = cPay b1 c T) (eb : b1 = b) : cPaid b t3 c n T1 = R := by
  subst eb
  subst o
  subst hm
  rw [← h]
  exact (cPaid_more ht).symm
theorem cP_done {b t3 c : Int32} {m : Nat} {T R : kCt} (h : cPaid b t3 c m T = R) (ht : T.1.toInt < t3.toInt) : T = R := (cPaid_done ht).symm.trans h
theorem cP_end {b t3 c : Int32} {m : Nat} {T R : kCt} (h : cPaid b t3 c m T = R) (hm : m = 0) : T = R := by
  subst hm
  exact h
theorem kj_five {x x1 : Int} (h : x < 5) (e : x1 = x + 1) : (5 - x).toNat = (5 - x1).toNat + 1 := by omega
theorem kj_five0 {x : Int} (h : 5 ≤ x) : (5 - x).toNat = 0 := by omega
end
section
theorem koi0 : (0 : Int32).toInt = 0 := by decide
theorem koi1 : (1 : Int32).toInt = 1 := by decide
theorem koi5 : (5 : Int32).toInt = 5 := by decide
theorem oi4 {a0 : Int} (h0 : (0 : Int) ≤ a0) : (0 : Int) ≤ a0 := oz3 h0
theorem oi5 {a0 a1 : Int} (h0 : a0 ≤ 8) (h1 : a1 < a0) : a1 < 8 := oz974 h0 h1
theorem oi6 {a0 a1 : Int} (h0 : a0 ≤ a1) (h1 : a0 = 5) : 5 ≤ a1 := by omega
theorem oi9 {a0 : Int} (h0 : a0 = 0) : (0 : Int) ≤ a0 := oz46 h0
theorem oi11 {a0 : Int} (h0 : a0 = 1) : (0 : Int) ≤ a0 := oz246 h0
theorem oi32 {a0 a1 : Int} (h0 : (0 : Int) ≤ a0) (h1 : a1 = 1) : (-2147483648 : Int) ≤ a0 + a1 := oz12 h0 h1
theorem oi34 {a0 a1 a2 : Int} (h0 : (0 : Int) ≤ a0) (h1 : a1 = a0 + a2) (h2 : a2 = 1) : (0 : Int) ≤ a1 := oz14 h0 h1 h2
theorem oi39 {a0 a1 a2 : Int} (h0 : a0 < a1) (h1 : a1 = a2) : a0 < a2 := od20 h0 h1
theorem oi40 {a0 a1 a2 : Int} (h0 : a0 = a1 + a2) (h1 : a2 = 1) : a0 = a1 + 1 := oz169 h0 h1
theorem oi67 {a0 a1 : Int} (h0 : a0 ≤ 8) (h1 : (0 : Int) ≤ a1) (h2 : a1 < a0) : ((0 : Int) ≤ a1) ∧ (a1 ≤ 7) := oz423 h0 h1 h2
theorem oi68 {a0 a1 : Int} (h0 : a0 ≤ a1) (h1 : a1 ≤ 4) (h2 : a0 = 5) : False := oc0 h0 h1 h2
theorem oi69 {a0 : Int} (h0 : a0 ≤ 4) : a0 < 5 := oc2 h0
theorem oi70 {a0 a1 : Int} (h0 : a0 ≤ 5) (h1 : a1 = 1) : a0 + a1 ≤ 2147483647 := oz323 h0 h1
theorem oi71 {a0 a1 a2 : Int} (h0 : a0 ≤ 4) (h1 : a1 = a0 + a2) (h2 : a2 = 1) : a1 ≤ 5 := oc6 h0 h1 h2
theorem oi72 {a0 a1 a2 : Int} (h0 : a0 = a1 + a2) (h1 : a2 = 1) : a0 = (a1 + 1) := oz748 h0 h1
theorem oi73 {a0 a1 a2 a3 : Int} (h0 : a0 ≤ a1) (h1 : a2 = a3) (h2 : a3 ≤ (5 - a1)) (h3 : a0 = 5) : a2 ≤ 4 := by omega
theorem oi74 {a0 : Int} (h0 : a0 = 0) : a0 < 5 := oz547 h0
theorem oi75 {a0 : Int} (h0 : a0 = 1) : a0 < 5 := oz548 h0
theorem oi78 {a0 a1 a2 a3 a4 : Int} (h0 : a0 ≠ a1) (h1 : (0 : Int) ≤ a2) (h2 : a2 < a3) (h3 : a1 = 0) : ¬ (¬ (((0 : Int) ≤ a2) ∧ (a2 < a3) ∧ (¬ ((a0 = 0) ∧ (a4 = 1))))) := by omega
theorem oi79 {a0 a1 a2 a3 : Int} (h0 : a0 < a1) (h1 : a1 = a2) (h2 : a3 = a0) (h3 : a2 ≤ 5) : a3 ≤ 4 := by omega
theorem oi179 {a0 a1 a2 : Int} (h0 : a0 ≤ a1) (h1 : a0 = a2) (h2 : (1 : Int) ≤ a2) : (1 : Int) ≤ a1 := by omega
theorem oi180 {a0 a1 a2 : Int} (h0 : a0 < a1) (h1 : a1 = 5) (h2 : a2 = 1) : a0 + a2 ≤ 2147483647 := oz561 h0 h1 h2
theorem oi181 {a0 a1 a2 a3 a4 : Int} (h0 : a0 ≤ (5 - a1)) (h1 : a2 = a1 + a3) (h2 : a4 = (a0 - 1)) (h3 : a3 = 1) : a4 ≤ (5 - a2) := by omega
theorem oi182 {a0 a1 : Int} (h0 : a0 < a1) (h1 : a1 = 5) : a0 < 5 := oz560 h0 h1
theorem oi183 {a0 a1 a2 : Int} (h0 : a0 ≤ a1) (h1 : a0 = a2) : a2 ≤ a1 := oz1318 h0 h1
theorem oi184 {a0 a1 a2 : Int} (h0 : a0 = a1 + a2) (h1 : a2 = 1) : (5 - a0) < (5 - a1) := oz372 h0 h1
theorem oi185 {a0 a1 : Int} (h0 : a0 < a1) (h1 : a1 = 5) : (1 : Int) ≤ (5 - a0) := oz562 h0 h1
theorem oi186 {a0 a1 : Int} (h0 : a0 ≤ 5) (h1 : a1 = 0) : a0 ≤ (5 - a1) := by omega
theorem oi187 {a0 a1 a2 a3 a4 : Int} (h0 : a0 ≠ a1) (h1 : (0 : Int) ≤ a2) (h2 : a2 < a3) (h3 : a1 = 1) : ¬ (¬ (((0 : Int) ≤ a2) ∧ (a2 < a3) ∧ (¬ ((a4 = 0) ∧ (a0 = 1))))) := by omega
theorem oi188 {a0 a1 a2 a3 a4 a5 : Int} (h0 : a0 = a1) (h1 : a2 = a3) (h2 : a1 = 1) (h3 : a3 = 0) : ¬ (((0 : Int) ≤ a4) ∧ (a4 < a5) ∧ (¬ ((a2 = 0) ∧ (a0 = 1)))) := by omega
theorem oi189 {a0 a1 a2 a3 : Int} (h0 : ¬ (((0 : Int) ≤ a0) ∧ (a0 < a1))) : ¬ (((0 : Int) ≤ a0) ∧ (a0 < a1) ∧ (¬ ((a2 = 0) ∧ (a3 = 1)))) := by omega
noncomputable def zw1_7 : kW := ([450], [8, 9], [], [])
set_option maxRecDepth 100000 in
theorem kf1_7 {i : Nat → Int32} {a : Nat → List Int32} {q : Nat → List Int64} {r : Nat → Nat} (hI : kI i a q) (hr : kr r) (x1 : Int32) (x2 : Int32) (hp0 : (i 450).toInt ≤ 4) : km 1 1 [.ref 7, .int x1, .int x2] (ks i a q r) (kVN zw1_7 i a q r (fun i1 a1 q1 r1 => ((i1 450).toInt = ((i 450).toInt + 1)) ∧ (a1 8 = (a 8).set (i 450).toNatClampNeg x1 ∧ a1 9 = (a 9).set (i 450).toNatClampNeg x2 ∧ i1 450 = i 450 + 1))) := by
  have hG := kG_self zw1_7 hI hr
  refine km_ofN (q := (mi_h1, mi_c1)) rfl (by decide) (Nat.le_of_ble_eq_true rfl) ?_
  intro P hP
  have fi_450 : ((0 : Int) ≤ (i 450).toInt) ∧ ((i 450).toInt ≤ 5) := hG.I.1 450
  refine fo_goL mi_k1 fz1_0_3_5 [(0, .ref 7), (1, .int x1), (2, .int x2)] [.int 5, .int (i 450)] rfl ?_
  refine ft_ifS mi_k1 (decide (5 ≤ (i 450))) 38 8 [] (by rfl) (fun c => ?_) (fun c => ?_)
  ·
    have c1 : (5 : Int32).toInt ≤ (i 450).toInt := kd_le c; clear c
    exact (oi68 c1 hp0 koi5).elim
  ·
    have c2 : (i 450).toInt < (5 : Int32).toInt := kd_leF c; clear c
    refine fo_goS mi_k1 fz1_8_5_17 [.int x1, .int (i 450), .ref 8] rfl ?_
    refine ko_iast3 mi_k1.1 (n := 5) (c := 5) (ax := (0, 0, 0, 0, 0)) (mi_k1.2 _ _ (by rfl)) (by rfl) (ksG8 _ _ _ _) (ksA8 _ _ _ _) (hG.I.2.1 8) rfl (oi4 fi_450.1) (oi69 hp0) ?_
    intro a3 ea3 fa3
    have hJ3 := kG_a3 hG 8 rfl ea3 fa3 (kd_bd _)
    refine fo_goS mi_k1 fz1_18_5_27 [.int x2, .int (i 450), .ref 9] rfl ?_
    refine ko_iast3 mi_k1.1 (n := 5) (c := 5) (ax := (0, 0, 0, 0, 0)) (mi_k1.2 _ _ (by rfl)) (by rfl) (ksG9 _ _ _ _) (ksA9 _ _ _ _) (hJ3.I.2.1 9) rfl (oi4 fi_450.1) (oi69 hp0) ?_
    intro a4 ea4 fa4
    have hJ4 := kG_a3 hJ3 9 rfl ea4 fa4 (kd_bd _)
    have s5 : ((i 450) + 1).toInt = (i 450).toInt + (1 : Int32).toInt := kd_add (oi32 fi_450.1 koi1) (oi70 fi_450.2 koi1)
    have hJ6 := kG_i hJ4 450 rfl (v := ((i 450) + 1)) ⟨(oi34 fi_450.1 s5 koi1), (oi71 hp0 s5 koi1)⟩
    first | refine fo_goI mi_k1 fz1_28_6_38 [] (ku i 450 ((i 450) + 1)) (by rfl) ?_ | refine ft_go mi_k1 6 38 [(0, .ref 7), (1, .int x1), (2, .int x2)] [] (ku i 450 ((i 450) + 1)) a4 q r (by rfl) ?_
    exact ft_ret mi_k1 (by rfl) (hP  _ _ _ _ hJ6 ⟨(oi72 s5 koi1), ⟨(show a4 8 = (a 8).set (i 450).toNatClampNeg x1 from (by first | rfl | (simp only [fa4 8 (by decide), ea3, sMn, sMx]; done) | (simp only [fa4 8 (by decide), ea3, sMn, sMx]; rfl))), (show a4 9 = (a 9).set (i 450).toNatClampNeg x2 from (by first | rfl | (simp only [ea4, fa3 9 (by decide), sMn, sMx]; done) | (simp only [ea4, fa3 9 (by decide), sMn, sMx]; rfl))), (show ((i 450) + 1) = i 450 + 1 from (by first | rfl | (simp only [sMn, sMx]; done) | (simp only [sMn, sMx]; rfl)))⟩⟩)
noncomputable def yw29_1 : kW := ([73, 78, 79, 80, 450, 645, 6405], [2, 6, 8, 9, 13, 14, 16, 17, 18, 19, 20, 21, 22, 23, 24, 103], [], [])
noncomputable def yw29_1_L52 : kW := ([78, 79, 450], [2, 8, 9, 14, 16, 17, 18, 19, 20, 21, 22, 23], [], [])
set_option maxRecDepth 100000 in
theorem ke29_1 {i : Nat → Int32} {a : Nat → List Int32} {q : Nat → List Int64} {r : Nat → Nat} (hI : kI i a q) (hr : kr r) (x1 : Int32) (hp0 : ((1 : Int) ≤ (i 70).toInt) ∧ ((i 70).toInt ≤ 5)) : km 7 29 [.ref 1, .int x1] (ks i a q r) (kVI yw29_1 i a q r (fun v i1 a1 q1 r1 => (True) ∧ ((((0 : Int) ≤ x1.toInt) ∧ (x1.toInt < (i 64).toInt) ∧ (¬ (((i 71).toInt = 0) ∧ (((a 5).getD x1.toNatClampNeg 0).toInt = 1))) → i1 450 = (cPaid (i 64) (i 70) x1 5 (cT0 1 i a)).1 + 1) ∧ (((0 : Int) ≤ x1.toInt) ∧ (x1.toInt < (i 64).toInt) ∧ (¬ (((i 71).toInt = 0) ∧ (((a 5).getD x1.toNatClampNeg 0).toInt = 1))) → a1 8 = (cPaid (i 64) (i 70) x1 5 (cT0 1 i a)).2.1.set (cPaid (i 64) (i 70) x1 5 (cT0 1 i a)).1.toNatClampNeg x1) ∧ (((0 : Int) ≤ x1.toInt) ∧ (x1.toInt < (i 64).toInt) ∧ (¬ (((i 71).toInt = 0) ∧ (((a 5).getD x1.toNatClampNeg 0).toInt = 1))) → a1 9 = (cPaid (i 64) (i 70) x1 5 (cT0 1 i a)).2.2.1.set (cPaid (i 64) (i 70) x1 5 (cT0 1 i a)).1.toNatClampNeg (cBuyV (i (64 * r 0)) (a (r 0 + 1)) (a (r 0 + 2)) (a (r 0 + 3)) (i (64 * r 0 + 3)) ((a 3).getD x1.toNatClampNeg 0) ((a 2).getD x1.toNatClampNeg 0) ((a 4).getD x1.toNatClampNeg 0) (i 73) ((a 6).getD x1.toNatClampNeg 0) (i 72))) ∧ (((0 : Int) ≤ x1.toInt) ∧ (x1.toInt < (i 64).toInt) ∧ (¬ (((i 71).toInt = 0) ∧ (((a 5).getD x1.toNatClampNeg 0).toInt = 1))) → a1 2 = (cPaid (i 64) (i 70) x1 5 (cT0 1 i a)).2.2.2.1) ∧ (((0 : Int) ≤ x1.toInt) ∧ (x1.toInt < (i 64).toInt) ∧ (¬ (((i 71).toInt = 0) ∧ (((a 5).getD x1.toNatClampNeg 0).toInt = 1))) → i1 78 = (cPaid (i 64) (i 70) x1 5 (cT0 1 i a)).2.2.2.2.1) ∧ (((0 : Int) ≤ x1.toInt) ∧ (x1.toInt < (i 64).toInt) ∧ (¬ (((i 71).toInt = 0) ∧ (((a 5).getD x1.toNatClampNeg 0).toInt = 1))) → i1 79 = (cPaid (i 64) (i 70) x1 5 (cT0 1 i a)).2.2.2.2.2.1) ∧ (((0 : Int) ≤ x1.toInt) ∧ (x1.toInt < (i 64).toInt) ∧ (¬ (((i 71).toInt = 0) ∧ (((a 5).getD x1.toNatClampNeg 0).toInt = 1))) → i1 80 = (cBuyV (i (64 * r 0)) (a (r 0 + 1)) (a (r 0 + 2)) (a (r 0 + 3)) (i (64 * r 0 + 3)) ((a 3).getD x1.toNatClampNeg 0) ((a 2).getD x1.toNatClampNeg 0) ((a 4).getD x1.toNatClampNeg 0) (i 73) ((a 6).getD x1.toNatClampNeg 0) (i 72))) ∧ (((0 : Int) ≤ x1.toInt) ∧ (x1.toInt < (i 64).toInt) ∧ (¬ (((i 71).toInt = 0) ∧ (((a 5).getD x1.toNatClampNeg 0).toInt = 1))) → i1 73 = i 73 + 1) ∧ (((0 : Int) ≤ x1.toInt) ∧ (x1.toInt < (i 64).toInt) ∧ (¬ (((i 71).toInt = 0) ∧ (((a 5).getD x1.toNatClampNeg 0).toInt = 1))) → a1 6 = (a 6).set x1.toNatClampNeg ((a 6).getD x1.toNatClampNeg 0 + 1)) ∧ (((0 : Int) ≤ x1.toInt) ∧ (x1.toInt < (i 64).toInt) ∧ (¬ (((i 71).toInt = 0) ∧ (((a 5).getD x1.toNatClampNeg 0).toInt = 1))) → a1 14 = ((cPaid (i 64) (i 70) x1 5 (cT0 1 i a)).2.2.2.2.2.2.1.set (0 : Int32).toNatClampNeg ((cPaid (i 64) (i 70) x1 5 (cT0 1 i a)).2.2.2.2.2.2.1.getD (0 : Int32).toNatClampNeg 0 + 1)).set (1 : Int32).toNatClampNeg (((cPaid (i 64) (i 70) x1 5 (cT0 1 i a)).2.2.2.2.2.2.1.set (0 : Int32).toNatClampNeg ((cPaid (i 64) (i 70) x1 5 (cT0 1 i a)).2.2.2.2.2.2.1.getD (0 : Int32).toNatClampNeg 0 + 1)).getD (1 : Int32).toNatClampNeg 0 + (cPaid (i 64) (i 70) x1 5 (cT0 1 i a)).2.2.2.2.2.1)) ∧ (((0 : Int) ≤ x1.toInt) ∧ (x1.toInt < (i 64).toInt) ∧ (¬ (((i 71).toInt = 0) ∧ (((a 5).getD x1.toNatClampNeg 0).toInt = 1))) → v = (cPaid (i 64) (i 70) x1 5 (cT0 1 i a)).2.2.2.2.2.1) ∧ (((0 : Int) ≤ x1.toInt) ∧ (x1.toInt < (i 64).toInt) ∧ (¬ (((i 71).toInt = 0) ∧ (((a 5).getD x1.toNatClampNeg 0).toInt = 1))) → a1 16 = (cPaid (i 64) (i 70) x1 5 (cT0 1 i a)).2.2.2.2.2.2.2 0) ∧ (((0 : Int) ≤ x1.toInt) ∧ (x1.toInt < (i 64).toInt) ∧ (¬ (((i 71).toInt = 0) ∧ (((a 5).getD x1.toNatClampNeg 0).toInt = 1))) → a1 17 = (cPaid (i 64) (i 70) x1 5 (cT0 1 i a)).2.2.2.2.2.2.2 1) ∧ (((0 : Int) ≤ x1.toInt) ∧ (x1.toInt < (i 64).toInt) ∧ (¬ (((i 71).toInt = 0) ∧ (((a 5).getD x1.toNatClampNeg 0).toInt = 1))) → a1 18 = (cPaid (i 64) (i 70) x1 5 (cT0 1 i a)).2.2.2.2.2.2.2 2) ∧ (((0 : Int) ≤ x1.toInt) ∧ (x1.toInt < (i 64).toInt) ∧ (¬ (((i 71).toInt = 0) ∧ (((a 5).getD x1.toNatClampNeg 0).toInt = 1))) → a1 19 = (cPaid (i 64) (i 70) x1 5 (cT0 1 i a)).2.2.2.2.2.2.2 3) ∧ (((0 : Int) ≤ x1.toInt) ∧ (x1.toInt < (i 64).toInt) ∧ (¬ (((i 71).toInt = 0) ∧ (((a 5).getD x1.toNatClampNeg 0).toInt = 1))) → a1 20 = (cPaid (i 64) (i 70) x1 5 (cT0 1 i a)).2.2.2.2.2.2.2 4) ∧ (((0 : Int) ≤ x1.toInt) ∧ (x1.toInt < (i 64).toInt) ∧ (¬ (((i 71).toInt = 0) ∧ (((a 5).getD x1.toNatClampNeg 0).toInt = 1))) → a1 21 = (cPaid (i 64) (i 70) x1 5 (cT0 1 i a)).2.2.2.2.2.2.2 5) ∧ (((0 : Int) ≤ x1.toInt) ∧ (x1.toInt < (i 64).toInt) ∧ (¬ (((i 71).toInt = 0) ∧ (((a 5).getD x1.toNatClampNeg 0).toInt = 1))) → a1 22 = (cPaid (i 64) (i 70) x1 5 (cT0 1 i a)).2.2.2.2.2.2.2 6) ∧ (((0 : Int) ≤ x1.toInt) ∧ (x1.toInt < (i 64).toInt) ∧ (¬ (((i 71).toInt = 0) ∧ (((a 5).getD x1.toNatClampNeg 0).toInt = 1))) → a1 23 = (cPaid (i 64) (i 70) x1 5 (cT0 1 i a)).2.2.2.2.2.2.2 7) ∧ (¬ (((0 : Int) ≤ x1.toInt) ∧ (x1.toInt < (i 64).toInt) ∧ (¬ (((i 71).toInt = 0) ∧ (((a 5).getD x1.toNatClampNeg 0).toInt = 1)))) → i1 450 = i 450) ∧ (¬ (((0 : Int) ≤ x1.toInt) ∧ (x1.toInt < (i 64).toInt) ∧ (¬ (((i 71).toInt = 0) ∧ (((a 5).getD x1.toNatClampNeg 0).toInt = 1)))) → a1 8 = a 8) ∧ (¬ (((0 : Int) ≤ x1.toInt) ∧ (x1.toInt < (i 64).toInt) ∧ (¬ (((i 71).toInt = 0) ∧ (((a 5).getD x1.toNatClampNeg 0).toInt = 1)))) → a1 9 = a 9) ∧ (¬ (((0 : Int) ≤ x1.toInt) ∧ (x1.toInt < (i 64).toInt) ∧ (¬ (((i 71).toInt = 0) ∧ (((a 5).getD x1.toNatClampNeg 0).toInt = 1)))) → a1 2 = a 2) ∧ (¬ (((0 : Int) ≤ x1.toInt) ∧ (x1.toInt < (i 64).toInt) ∧ (¬ (((i 71).toInt = 0) ∧ (((a 5).getD x1.toNatClampNeg 0).toInt = 1)))) → a1 6 = a 6) ∧ (¬ (((0 : Int) ≤ x1.toInt) ∧ (x1.toInt < (i 64).toInt) ∧ (¬ (((i 71).toInt = 0) ∧ (((a 5).getD x1.toNatClampNeg 0).toInt = 1)))) → a1 14 = a 14) ∧ (¬ (((0 : Int) ≤ x1.toInt) ∧ (x1.toInt < (i 64).toInt) ∧ (¬ (((i 71).toInt = 0) ∧ (((a 5).getD x1.toNatClampNeg 0).toInt = 1)))) → i1 78 = 8) ∧ (¬ (((0 : Int) ≤ x1.toInt) ∧ (x1.toInt < (i 64).toInt) ∧ (¬ (((i 71).toInt = 0) ∧ (((a 5).getD x1.toNatClampNeg 0).toInt = 1)))) → i1 79 = 0) ∧ (¬ (((0 : Int) ≤ x1.toInt) ∧ (x1.toInt < (i 64).toInt) ∧ (¬ (((i 71).toInt = 0) ∧ (((a 5).getD x1.toNatClampNeg 0).toInt = 1)))) → i1 80 = 0) ∧ (¬ (((0 : Int) ≤ x1.toInt) ∧ (x1.toInt < (i 64).toInt) ∧ (¬ (((i 71).toInt = 0) ∧ (((a 5).getD x1.toNatClampNeg 0).toInt = 1)))) → i1 73 = i 73) ∧ (¬ (((0 : Int) ≤ x1.toInt) ∧ (x1.toInt < (i 64).toInt) ∧ (¬ (((i 71).toInt = 0) ∧ (((a 5).getD x1.toNatClampNeg 0).toInt = 1)))) → v = 0) ∧ (¬ (((0 : Int) ≤ x1.toInt) ∧ (x1.toInt < (i 64).toInt) ∧ (¬ (((i 71).toInt = 0) ∧ (((a 5).getD x1.toNatClampNeg 0).toInt = 1)))) → a1 16 = a 16) ∧ (¬ (((0 : Int) ≤ x1.toInt) ∧ (x1.toInt < (i 64).toInt) ∧ (¬ (((i 71).toInt = 0) ∧ (((a 5).getD x1.toNatClampNeg 0).toInt = 1)))) → a1 17 = a 17) ∧ (¬ (((0 : Int) ≤ x1.toInt) ∧ (x1.toInt < (i 64).toInt) ∧ (¬ (((i 71).toInt = 0) ∧ (((a 5).getD x1.toNatClampNeg 0).toInt = 1)))) → a1 18 = a 18) ∧ (¬ (((0 : Int) ≤ x1.toInt) ∧ (x1.toInt < (i 64).toInt) ∧ (¬ (((i 71).toInt = 0) ∧ (((a 5).getD x1.toNatClampNeg 0).toInt = 1)))) → a1 19 = a 19) ∧ (¬ (((0 : Int) ≤ x1.toInt) ∧ (x1.toInt < (i 64).toInt) ∧ (¬ (((i 71).toInt = 0) ∧ (((a 5).getD x1.toNatClampNeg 0).toInt = 1)))) → a1 20 = a 20) ∧ (¬ (((0 : Int) ≤ x1.toInt) ∧ (x1.toInt < (i 64).toInt) ∧ (¬ (((i 71).toInt = 0) ∧ (((a 5).getD x1.toNatClampNeg 0).toInt = 1)))) → a1 21 = a 21) ∧ (¬ (((0 : Int) ≤ x1.toInt) ∧ (x1.toInt < (i 64).toInt) ∧ (¬ (((i 71).toInt = 0) ∧ (((a 5).getD x1.toNatClampNeg 0).toInt = 1)))) → a1 22 = a 22) ∧ (¬ (((0 : Int) ≤ x1.toInt) ∧ (x1.toInt < (i 64).toInt) ∧ (¬ (((i 71).toInt = 0) ∧ (((a 5).getD x1.toNatClampNeg 0).toInt = 1)))) → a1 23 = a 23)))) := by
  have hG := kG_self yw29_1 hI hr
  refine km_ofI (q := (mi_h29, mi_c29)) rfl (by decide) (Nat.le_of_ble_eq_true rfl) ?_
  intro P hP
  have hJ1 := kG_i hG 78 rfl (v := 8) (kd_bd _)
  have hJ2 := kG_i hJ1 79 rfl (v := 0) (kd_bd _)
  have hJ3 := kG_i hJ2 80 rfl (v := 0) (kd_bd _)
  first | refine fo_go mi_k29 fz29_0_11_18 [(0, .ref 1), (1, .int x1)] [.int x1, .ref 1] (ku (ku (ku i 78 8) 79 0) 80 0) a q r (by rfl) ?_ | refine ft_go mi_k29 11 18 [(0, .ref 1), (1, .int x1)] [.int x1, .ref 1] (ku (ku (ku i 78 8) 79 0) 80 0) a q r (by rfl) ?_
  refine ko_callPI mi_k29.1 (pc := 18) (ls := [(0, .ref 1), (1, .int x1)]) (st := [.int x1, .ref 1]) (h := ks (ku (ku (ku i 78 8) 79 0) 80 0) a q r) (i := (.invokevirtual 85, 3, 24, 0, 9, 0, 165)) (mi_k29.2 _ _ (by rfl)) (ft_invS mi_pq24 (by rfl)) (cy := mi_c24) mi_pq24 rfl (kc24_1 hJ3.I hJ3.R x1) (by decide) ?_
  intro vg4 hg4
  rcases hg4 with ⟨eg4, hg4⟩ | ⟨eg4, hg4⟩
  ·
    subst eg4
    have fi_64 : ((0 : Int) ≤ (i 64).toInt) ∧ ((i 64).toInt ≤ 8) := hJ3.I.1 64
    have z5 : ((0 : Int) ≤ x1.toInt) ∧ (x1.toInt < (i 64).toInt) := hg4
    refine fo_goS mi_k29 fz29_21_3_28 [.int (i 71)] rfl ?_
    refine ft_ifS mi_k29 ((i 71) != 0) 43 31 [] (by rfl) (fun c => ?_) (fun c => ?_)
    ·
      have c6 : (i 71).toInt ≠ (0 : Int32).toInt := kd_ne c; clear c
      refine fo_goS mi_k29 fz29_43_3_48 [.int x1, .ref 2] rfl ?_
      refine ko_iald3 mi_k29.1 (n := 8) (c := 8) (ax := (0, 0, 0, 0, 0)) (mi_k29.2 _ _ (by rfl)) (by rfl) (ksG2 _ _ _ _) (hJ3.I.2.1 2) rfl (oi4 z5.1) (oi5 fi_64.2 z5.2) ?_
      first | refine fo_goL mi_k29 fz29_49_3_52 [(3, .int 0), (2, .int ((a 2).getD x1.toNatClampNeg 0)), (0, .ref 1), (1, .int x1)] [] (by rfl) ?_ | refine ft_goL mi_k29 3 52 [(3, .int 0), (2, .int ((a 2).getD x1.toNatClampNeg 0)), (0, .ref 1), (1, .int x1)] [] (by rfl) ?_
      have lp7 : ∀ (nz : Nat) (i7 : Nat → Int32) (a7 : Nat → List Int32) (q7 : Nat → List Int64) (r7 : Nat → Nat) (l3_7 : Int32), kG yw29_1_L52 (ku (ku (ku i 78 8) 79 0) 80 0) a q r i7 a7 q7 r7 → (0 : Int) ≤ l3_7.toInt → (i7 450).toInt ≤ (5 - l3_7.toInt) → cPaid (i 64) (i 70) x1 (5 - l3_7.toInt).toNat (cT 1 i7 a7) = (cPaid (i 64) (i 70) x1 5 (cT0 1 i a)) → ((5 - l3_7.toInt)).toNat < nz → ko 7 (mi_h29, mi_c29) P (52, [(3, .int l3_7), (2, .int ((a 2).getD x1.toNatClampNeg 0)), (0, .ref 1), (1, .int x1)], [], (0, 0), ks i7 a7 q7 r7) := by
        intro nz
        induction nz with
        | zero =>
          intro _ _ _ _ _ _ _ _ _ hm
          exact absurd hm (Nat.not_lt_zero _)
        | succ nz ih7 =>
          intro i7 a7 q7 r7 l3_7 hL7 p7_0 p7_1 O7_0 hm7
          refine fo_goL mi_k29 fz29_52_2_54 [(3, .int l3_7), (2, .int ((a 2).getD x1.toNatClampNeg 0)), (0, .ref 1), (1, .int x1)] [.int 5, .int l3_7] rfl ?_
          refine ft_ifS mi_k29 (decide (5 ≤ l3_7)) 82 57 [] (by rfl) (fun c => ?_) (fun c => ?_)
          ·
            have c8 : (5 : Int32).toInt ≤ l3_7.toInt := kd_le c; clear c
            have hG9 := kG_call hJ3 hL7 (by decide +kernel)
            have E10 : cT 1 i7 a7 = (cPaid (i 64) (i 70) x1 5 (cT0 1 i a)) := cP_end O7_0 (kj_five0 (oi6 c8 koi5))
            have E10_0 : i7 450 = (cPaid (i 64) (i 70) x1 5 (cT0 1 i a)).1 := (cT_1 E10).1
            have E10_1 : a7 8 = (cPaid (i 64) (i 70) x1 5 (cT0 1 i a)).2.1 := (cT_1 E10).2.1
            have E10_2 : a7 9 = (cPaid (i 64) (i 70) x1 5 (cT0 1 i a)).2.2.1 := (cT_1 E10).2.2.1
            have E10_3 : a7 2 = (cPaid (i 64) (i 70) x1 5 (cT0 1 i a)).2.2.2.1 := (cT_1 E10).2.2.2.1
            have E10_4 : i7 78 = (cPaid (i 64) (i 70) x1 5 (cT0 1 i a)).2.2.2.2.1 := (cT_1 E10).2.2.2.2.1
            have E10_5 : i7 79 = (cPaid (i 64) (i 70) x1 5 (cT0 1 i a)).2.2.2.2.2.1 := (cT_1 E10).2.2.2.2.2.1
            have E10_6 : a7 14 = (cPaid (i 64) (i 70) x1 5 (cT0 1 i a)).2.2.2.2.2.2.1 := (cT_1 E10).2.2.2.2.2.2.1
            have E10_r0 : a7 16 = (cPaid (i 64) (i 70) x1 5 (cT0 1 i a)).2.2.2.2.2.2.2 0 := (cT_1 E10).2.2.2.2.2.2.2 0 (by decide)
            have E10_r1 : a7 17 = (cPaid (i 64) (i 70) x1 5 (cT0 1 i a)).2.2.2.2.2.2.2 1 := (cT_1 E10).2.2.2.2.2.2.2 1 (by decide)
            have E10_r2 : a7 18 = (cPaid (i 64) (i 70) x1 5 (cT0 1 i a)).2.2.2.2.2.2.2 2 := (cT_1 E10).2.2.2.2.2.2.2 2 (by decide)
            have E10_r3 : a7 19 = (cPaid (i 64) (i 70) x1 5 (cT0 1 i a)).2.2.2.2.2.2.2 3 := (cT_1 E10).2.2.2.2.2.2.2 3 (by decide)
            have E10_r4 : a7 20 = (cPaid (i 64) (i 70) x1 5 (cT0 1 i a)).2.2.2.2.2.2.2 4 := (cT_1 E10).2.2.2.2.2.2.2 4 (by decide)
            have E10_r5 : a7 21 = (cPaid (i 64) (i 70) x1 5 (cT0 1 i a)).2.2.2.2.2.2.2 5 := (cT_1 E10).2.2.2.2.2.2.2 5 (by decide)
            have E10_r6 : a7 22 = (cPaid (i 64) (i 70) x1 5 (cT0 1 i a)).2.2.2.2.2.2.2 6 := (cT_1 E10).2.2.2.2.2.2.2 6 (by decide)
            have E10_r7 : a7 23 = (cPaid (i 64) (i 70) x1 5 (cT0 1 i a)).2.2.2.2.2.2.2 7 := (cT_1 E10).2.2.2.2.2.2.2 7 (by decide)
            have er11 : r7 0 = r 0 := hL7.fr 0 rfl
            have el12 : a7 (r 0 + 1) = a (r 0 + 1) := by rcases hr.1 with ⟨hz, _⟩ | ⟨hz, _⟩ <;> rw [hz] <;> exact hL7.fa _ rfl
            have el13 : a7 (r 0 + 2) = a (r 0 + 2) := by rcases hr.1 with ⟨hz, _⟩ | ⟨hz, _⟩ <;> rw [hz] <;> exact hL7.fa _ rfl
            have el14 : a7 (r 0 + 3) = a (r 0 + 3) := by rcases hr.1 with ⟨hz, _⟩ | ⟨hz, _⟩ <;> rw [hz] <;> exact hL7.fa _ rfl
            have el15 : i7 (64 * r 0) = i (64 * r 0) := by rcases hr.1 with ⟨hz, _⟩ | ⟨hz, _⟩ <;> rw [hz] <;> exact hL7.fi _ rfl
            have el16 : i7 (64 * r 0 + 3) = i (64 * r 0 + 3) := by rcases hr.1 with ⟨hz, _⟩ | ⟨hz, _⟩ <;> rw [hz] <;> exact hL7.fi _ rfl
            refine fo_goS mi_k29 fz29_82_4_86 [.int ((a 2).getD x1.toNatClampNeg 0), .int x1, .ref 1, .ref 1] rfl ?_
            refine ko_callI mi_k29.1 (pc := 86) (ls := [(3, .int l3_7), (2, .int ((a 2).getD x1.toNatClampNeg 0)), (0, .ref 1), (1, .int x1)]) (st := [.int ((a 2).getD x1.toNatClampNeg 0), .int x1, .ref 1, .ref 1]) (h := ks i7 a7 q7 r7) (i := (.invokevirtual 100, 3, 31, 0, 9, 0, 223)) (mi_k29.2 _ _ (by rfl)) (ft_invS mi_pq31 (by rfl)) (cy := mi_c31) mi_pq31 rfl (ke31_1 hG9.I hG9.R x1 ((a 2).getD x1.toNatClampNeg 0) (oi67 fi_64.2 z5.1 z5.2)) (by decide) ?_
            intro vg17 ig17 ag17 qg17 rg17 kg17 hg17
            have hGg17 := kG_call hG9 kg17 (by decide +kernel)
            obtain ⟨hg17, og17⟩ := hg17
            have q18 : vg17 = cBuyV (i7 (64 * r7 0)) (a7 (r7 0 + 1)) (a7 (r7 0 + 2)) (a7 (r7 0 + 3)) (i7 (64 * r7 0 + 3)) ((a7 3).getD x1.toNatClampNeg 0) ((a 2).getD x1.toNatClampNeg 0) ((a7 4).getD x1.toNatClampNeg 0) (i7 73) ((a7 6).getD x1.toNatClampNeg 0) (i7 72) := og17
            have hJ19 := kG_i hGg17 80 rfl (v := vg17) (kd_bd _)
            first | refine fo_goI mi_k29 fz29_89_6_101 [.int vg17, .int x1, .ref 7] (ku ig17 80 vg17) (by rfl) ?_ | refine ft_go mi_k29 6 101 [(3, .int l3_7), (2, .int ((a 2).getD x1.toNatClampNeg 0)), (0, .ref 1), (1, .int x1)] [.int vg17, .int x1, .ref 7] (ku ig17 80 vg17) ag17 qg17 rg17 (by rfl) ?_
            have efig17_450 : (ig17 450).toInt = (i7 450).toInt := kg17.ti 450 rfl
            refine ko_callN mi_k29.1 (pc := 101) (ls := [(3, .int l3_7), (2, .int ((a 2).getD x1.toNatClampNeg 0)), (0, .ref 1), (1, .int x1)]) (st := [.int vg17, .int x1, .ref 7]) (h := ks (ku ig17 80 vg17) ag17 qg17 rg17) (i := (.invokevirtual 104, 3, 1, 0, 9, 0, 228)) (mi_k29.2 _ _ (by rfl)) (ft_invS mi_pq1 (by rfl)) (cy := mi_c1) mi_pq1 rfl (kf1_7 hJ19.I hJ19.R x1 vg17 (oi73 c8 efig17_450 p7_1 koi5)) (by decide) ?_
            intro ig20 ag20 qg20 rg20 kg20 hg20
            have hGg20 := kG_call hJ19 kg20 (by decide +kernel)
            obtain ⟨hg20, og20⟩ := hg20
            have q22 : ag20 8 = (ag17 8).set (ig17 450).toNatClampNeg x1 := og20.1
            have q23 : ag20 9 = (ag17 9).set (ig17 450).toNatClampNeg vg17 := og20.2.1
            have q24 : ig20 450 = ig17 450 + 1 := og20.2.2
            have b25 : ((-2147483648 : Int) ≤ (ig20 73).toInt) ∧ ((ig20 73).toInt ≤ 2147483647) := kd_bd (ig20 73)
            have hJ26 := kG_i hGg20 73 rfl (v := ((ig20 73) + 1)) (kd_bd _)
            first | refine fo_goI mi_k29 fz29_104_10_120 [.int x1, .ref 6, .int x1, .ref 6] (ku ig20 73 ((ig20 73) + 1)) (by rfl) ?_ | refine ft_go mi_k29 10 120 [(3, .int l3_7), (2, .int ((a 2).getD x1.toNatClampNeg 0)), (0, .ref 1), (1, .int x1)] [.int x1, .ref 6, .int x1, .ref 6] (ku ig20 73 ((ig20 73) + 1)) ag20 qg20 rg20 (by rfl) ?_
            refine ko_iald3 mi_k29.1 (n := 8) (c := 8) (ax := (0, 0, 0, 0, 0)) (mi_k29.2 _ _ (by rfl)) (by rfl) (ksG6 _ _ _ _) (hJ26.I.2.1 6) rfl (oi4 z5.1) (oi5 fi_64.2 z5.2) ?_
            have b27 : ((-2147483648 : Int) ≤ ((ag20 6).getD x1.toNatClampNeg 0).toInt) ∧ (((ag20 6).getD x1.toNatClampNeg 0).toInt ≤ 2147483647) := kd_bd ((ag20 6).getD x1.toNatClampNeg 0)
            refine fo_goS mi_k29 fz29_121_2_123 [.int (((ag20 6).getD x1.toNatClampNeg 0) + 1), .int x1, .ref 6] rfl ?_
            refine ko_iast3 mi_k29.1 (n := 8) (c := 8) (ax := (0, 0, 0, 0, 0)) (mi_k29.2 _ _ (by rfl)) (by rfl) (ksG6 _ _ _ _) (ksA6 _ _ _ _) (hJ26.I.2.1 6) rfl (oi4 z5.1) (oi5 fi_64.2 z5.2) ?_
            intro a28 ea28 fa28
            have hJ28 := kG_a3 hJ26 6 rfl ea28 fa28 (kd_bd _)
            refine fo_goS mi_k29 fz29_124_4_130 [.int 0, .ref 14, .int 0, .ref 14] rfl ?_
            refine ko_iald3 mi_k29.1 (n := 5) (c := 5) (ax := (0, 0, 0, 0, 0)) (mi_k29.2 _ _ (by rfl)) (by rfl) (ksG14 _ _ _ _) (hJ28.I.2.1 14) rfl (oi9 koi0) (oi74 koi0) ?_
            have b29 : ((-2147483648 : Int) ≤ ((a28 14).getD (0 : Int32).toNatClampNeg 0).toInt) ∧ (((a28 14).getD (0 : Int32).toNatClampNeg 0).toInt ≤ 2147483647) := kd_bd ((a28 14).getD (0 : Int32).toNatClampNeg 0)
            refine fo_goS mi_k29 fz29_131_2_133 [.int (((a28 14).getD (0 : Int32).toNatClampNeg 0) + 1), .int 0, .ref 14] rfl ?_
            refine ko_iast3 mi_k29.1 (n := 5) (c := 5) (ax := (0, 0, 0, 0, 0)) (mi_k29.2 _ _ (by rfl)) (by rfl) (ksG14 _ _ _ _) (ksA14 _ _ _ _) (hJ28.I.2.1 14) rfl (oi9 koi0) (oi74 koi0) ?_
            intro a30 ea30 fa30
            have hJ30 := kG_a3 hJ28 14 rfl ea30 fa30 (kd_bd _)
            refine fo_goS mi_k29 fz29_134_4_140 [.int 1, .ref 14, .int 1, .ref 14] rfl ?_
            refine ko_iald3 mi_k29.1 (n := 5) (c := 5) (ax := (0, 0, 0, 0, 0)) (mi_k29.2 _ _ (by rfl)) (by rfl) (ksG14 _ _ _ _) (hJ30.I.2.1 14) rfl (oi11 koi1) (oi75 koi1) ?_
            have b31 : ((-2147483648 : Int) ≤ ((a30 14).getD (1 : Int32).toNatClampNeg 0).toInt) ∧ (((a30 14).getD (1 : Int32).toNatClampNeg 0).toInt ≤ 2147483647) := kd_bd ((a30 14).getD (1 : Int32).toNatClampNeg 0)
            have b32 : ((-2147483648 : Int) ≤ (ig20 79).toInt) ∧ ((ig20 79).toInt ≤ 2147483647) := kd_bd (ig20 79)
            refine fo_goS mi_k29 fz29_141_3_146 [.int (((a30 14).getD (1 : Int32).toNatClampNeg 0) + (ig20 79)), .int 1, .ref 14] rfl ?_
            refine ko_iast3 mi_k29.1 (n := 5) (c := 5) (ax := (0, 0, 0, 0, 0)) (mi_k29.2 _ _ (by rfl)) (by rfl) (ksG14 _ _ _ _) (ksA14 _ _ _ _) (hJ30.I.2.1 14) rfl (oi11 koi1) (oi75 koi1) ?_
            intro a33 ea33 fa33
            have hJ33 := kG_a3 hJ30 14 rfl ea33 fa33 (kd_bd _)
            refine fo_goS mi_k29 fz29_147_2_151 [.int (ig20 79)] rfl ?_
            exact ft_ret mi_k29 (by rfl) (hP (ig20 79) _ _ _ _ hJ33 ⟨trivial, ⟨(fun _ => (show ig20 450 = (cPaid (i 64) (i 70) x1 5 (cT0 1 i a)).1 + 1 from (by first | rfl | (simp only [q24, (show ig17 450 = i7 450 from kg17.fi 450 rfl), E10_0, er11, el12, el13, el14, el15, el16, sMn, sMx]; done) | (simp only [q24, (show ig17 450 = i7 450 from kg17.fi 450 rfl), E10_0, er11, el12, el13, el14, el15, el16, sMn, sMx]; rfl)))), (fun _ => (show a33 8 = (cPaid (i 64) (i 70) x1 5 (cT0 1 i a)).2.1.set (cPaid (i 64) (i 70) x1 5 (cT0 1 i a)).1.toNatClampNeg x1 from (by first | rfl | (simp only [fa33 8 (by decide), fa30 8 (by decide), fa28 8 (by decide), q22, kg17.fa 8 rfl, (show ig17 450 = i7 450 from kg17.fi 450 rfl), E10_0, E10_1, er11, el12, el13, el14, el15, el16, sMn, sMx]; done) | (simp only [fa33 8 (by decide), fa30 8 (by decide), fa28 8 (by decide), q22, kg17.fa 8 rfl, (show ig17 450 = i7 450 from kg17.fi 450 rfl), E10_0, E10_1, er11, el12, el13, el14, el15, el16, sMn, sMx]; rfl)))), (fun _ => (show a33 9 = (cPaid (i 64) (i 70) x1 5 (cT0 1 i a)).2.2.1.set (cPaid (i 64) (i 70) x1 5 (cT0 1 i a)).1.toNatClampNeg (cBuyV (i (64 * r 0)) (a (r 0 + 1)) (a (r 0 + 2)) (a (r 0 + 3)) (i (64 * r 0 + 3)) ((a 3).getD x1.toNatClampNeg 0) ((a 2).getD x1.toNatClampNeg 0) ((a 4).getD x1.toNatClampNeg 0) (i 73) ((a 6).getD x1.toNatClampNeg 0) (i 72)) from (by first | rfl | (simp only [fa33 9 (by decide), fa30 9 (by decide), fa28 9 (by decide), q23, kg17.fa 9 rfl, (show ig17 450 = i7 450 from kg17.fi 450 rfl), q18, hL7.fa 3 rfl, hL7.fa 4 rfl, (show i7 73 = i 73 from hL7.fi 73 rfl), hL7.fa 6 rfl, (show i7 72 = i 72 from hL7.fi 72 rfl), E10_0, E10_2, er11, el12, el13, el14, el15, el16, sMn, sMx]; done) | (simp only [fa33 9 (by decide), fa30 9 (by decide), fa28 9 (by decide), q23, kg17.fa 9 rfl, (show ig17 450 = i7 450 from kg17.fi 450 rfl), q18, hL7.fa 3 rfl, hL7.fa 4 rfl, (show i7 73 = i 73 from hL7.fi 73 rfl), hL7.fa 6 rfl, (show i7 72 = i 72 from hL7.fi 72 rfl), E10_0, E10_2, er11, el12, el13, el14, el15, el16, sMn, sMx]; rfl)))), (fun _ => (show a33 2 = (cPaid (i 64) (i 70) x1 5 (cT0 1 i a)).2.2.2.1 from (by first | rfl | (simp only [fa33 2 (by decide), fa30 2 (by decide), fa28 2 (by decide), kg20.fa 2 rfl, kg17.fa 2 rfl, E10_3, er11, el12, el13, el14, el15, el16, sMn, sMx]; done) | (simp only [fa33 2 (by decide), fa30 2 (by decide), fa28 2 (by decide), kg20.fa 2 rfl, kg17.fa 2 rfl, E10_3, er11, el12, el13, el14, el15, el16, sMn, sMx]; rfl)))), (fun _ => (show ig20 78 = (cPaid (i 64) (i 70) x1 5 (cT0 1 i a)).2.2.2.2.1 from (by first | rfl | (simp only [(show ig20 78 = ig17 78 from kg20.fi 78 rfl), (show ig17 78 = i7 78 from kg17.fi 78 rfl), E10_4, er11, el12, el13, el14, el15, el16, sMn, sMx]; done) | (simp only [(show ig20 78 = ig17 78 from kg20.fi 78 rfl), (show ig17 78 = i7 78 from kg17.fi 78 rfl), E10_4, er11, el12, el13, el14, el15, el16, sMn, sMx]; rfl)))), (fun _ => (show ig20 79 = (cPaid (i 64) (i 70) x1 5 (cT0 1 i a)).2.2.2.2.2.1 from (by first | rfl | (simp only [(show ig20 79 = ig17 79 from kg20.fi 79 rfl), (show ig17 79 = i7 79 from kg17.fi 79 rfl), E10_5, er11, el12, el13, el14, el15, el16, sMn, sMx]; done) | (simp only [(show ig20 79 = ig17 79 from kg20.fi 79 rfl), (show ig17 79 = i7 79 from kg17.fi 79 rfl), E10_5, er11, el12, el13, el14, el15, el16, sMn, sMx]; rfl)))), (fun _ => (show ig20 80 = (cBuyV (i (64 * r 0)) (a (r 0 + 1)) (a (r 0 + 2)) (a (r 0 + 3)) (i (64 * r 0 + 3)) ((a 3).getD x1.toNatClampNeg 0) ((a 2).getD x1.toNatClampNeg 0) ((a 4).getD x1.toNatClampNeg 0) (i 73) ((a 6).getD x1.toNatClampNeg 0) (i 72)) from (by first | rfl | (simp only [(show ig20 80 = vg17 from kg20.fi 80 rfl), q18, hL7.fa 3 rfl, hL7.fa 4 rfl, (show i7 73 = i 73 from hL7.fi 73 rfl), hL7.fa 6 rfl, (show i7 72 = i 72 from hL7.fi 72 rfl), er11, el12, el13, el14, el15, el16, sMn, sMx]; done) | (simp only [(show ig20 80 = vg17 from kg20.fi 80 rfl), q18, hL7.fa 3 rfl, hL7.fa 4 rfl, (show i7 73 = i 73 from hL7.fi 73 rfl), hL7.fa 6 rfl, (show i7 72 = i 72 from hL7.fi 72 rfl), er11, el12, el13, el14, el15, el16, sMn, sMx]; rfl)))), (fun _ => (show ((ig20 73) + 1) = i 73 + 1 from (by first | rfl | (simp only [(show ig20 73 = ig17 73 from kg20.fi 73 rfl), (show ig17 73 = i7 73 from kg17.fi 73 rfl), (show i7 73 = i 73 from hL7.fi 73 rfl), er11, el12, el13, el14, el15, el16, sMn, sMx]; done) | (simp only [(show ig20 73 = ig17 73 from kg20.fi 73 rfl), (show ig17 73 = i7 73 from kg17.fi 73 rfl), (show i7 73 = i 73 from hL7.fi 73 rfl), er11, el12, el13, el14, el15, el16, sMn, sMx]; rfl)))), (fun _ => (show a33 6 = (a 6).set x1.toNatClampNeg ((a 6).getD x1.toNatClampNeg 0 + 1) from (by first | rfl | (simp only [fa33 6 (by decide), fa30 6 (by decide), ea28, kg20.fa 6 rfl, kg17.fa 6 rfl, hL7.fa 6 rfl, er11, el12, el13, el14, el15, el16, sMn, sMx]; done) | (simp only [fa33 6 (by decide), fa30 6 (by decide), ea28, kg20.fa 6 rfl, kg17.fa 6 rfl, hL7.fa 6 rfl, er11, el12, el13, el14, el15, el16, sMn, sMx]; rfl)))), (fun _ => (show a33 14 = ((cPaid (i 64) (i 70) x1 5 (cT0 1 i a)).2.2.2.2.2.2.1.set (0 : Int32).toNatClampNeg ((cPaid (i 64) (i 70) x1 5 (cT0 1 i a)).2.2.2.2.2.2.1.getD (0 : Int32).toNatClampNeg 0 + 1)).set (1 : Int32).toNatClampNeg (((cPaid (i 64) (i 70) x1 5 (cT0 1 i a)).2.2.2.2.2.2.1.set (0 : Int32).toNatClampNeg ((cPaid (i 64) (i 70) x1 5 (cT0 1 i a)).2.2.2.2.2.2.1.getD (0 : Int32).toNatClampNeg 0 + 1)).getD (1 : Int32).toNatClampNeg 0 + (cPaid (i 64) (i 70) x1 5 (cT0 1 i a)).2.2.2.2.2.1) from (by first | rfl | (simp only [ea33, ea30, (show ig20 79 = ig17 79 from kg20.fi 79 rfl), (show ig17 79 = i7 79 from kg17.fi 79 rfl), E10_5, fa28 14 (by decide), kg20.fa 14 rfl, kg17.fa 14 rfl, E10_6, er11, el12, el13, el14, el15, el16, sMn, sMx]; done) | (simp only [ea33, ea30, (show ig20 79 = ig17 79 from kg20.fi 79 rfl), (show ig17 79 = i7 79 from kg17.fi 79 rfl), E10_5, fa28 14 (by decide), kg20.fa 14 rfl, kg17.fa 14 rfl, E10_6, er11, el12, el13, el14, el15, el16, sMn, sMx]; rfl)))), (fun _ => (show (ig20 79) = (cPaid (i 64) (i 70) x1 5 (cT0 1 i a)).2.2.2.2.2.1 from (by first | rfl | (simp only [(show ig20 79 = ig17 79 from kg20.fi 79 rfl), (show ig17 79 = i7 79 from kg17.fi 79 rfl), E10_5, er11, el12, el13, el14, el15, el16, sMn, sMx]; done) | (simp only [(show ig20 79 = ig17 79 from kg20.fi 79 rfl), (show ig17 79 = i7 79 from kg17.fi 79 rfl), E10_5, er11, el12, el13, el14, el15, el16, sMn, sMx]; rfl)))), (fun _ => (show a33 16 = (cPaid (i 64) (i 70) x1 5 (cT0 1 i a)).2.2.2.2.2.2.2 0 from (by first | rfl | (simp only [fa33 16 (by decide), fa30 16 (by decide), fa28 16 (by decide), kg20.fa 16 rfl, kg17.fa 16 rfl, E10_r0, er11, el12, el13, el14, el15, el16, sMn, sMx]; done) | (simp only [fa33 16 (by decide), fa30 16 (by decide), fa28 16 (by decide), kg20.fa 16 rfl, kg17.fa 16 rfl, E10_r0, er11, el12, el13, el14, el15, el16, sMn, sMx]; rfl)))), (fun _ => (show a33 17 = (cPaid (i 64) (i 70) x1 5 (cT0 1 i a)).2.2.2.2.2.2.2 1 from (by first | rfl | (simp only [fa33 17 (by decide), fa30 17 (by decide), fa28 17 (by decide), kg20.fa 17 rfl, kg17.fa 17 rfl, E10_r1, er11, el12, el13, el14, el15, el16, sMn, sMx]; done) | (simp only [fa33 17 (by decide), fa30 17 (by decide), fa28 17 (by decide), kg20.fa 17 rfl, kg17.fa 17 rfl, E10_r1, er11, el12, el13, el14, el15, el16, sMn, sMx]; rfl)))), (fun _ => (show a33 18 = (cPaid (i 64) (i 70) x1 5 (cT0 1 i a)).2.2.2.2.2.2.2 2 from (by first | rfl | (simp only [fa33 18 (by decide), fa30 18 (by decide), fa28 18 (by decide), kg20.fa 18 rfl, kg17.fa 18 rfl, E10_r2, er11, el12, el13, el14, el15, el16, sMn, sMx]; done) | (simp only [fa33 18 (by decide), fa30 18 (by decide), fa28 18 (by decide), kg20.fa 18 rfl, kg17.fa 18 rfl, E10_r2, er11, el12, el13, el14, el15, el16, sMn, sMx]; rfl)))), (fun _ => (show a33 19 = (cPaid (i 64) (i 70) x1 5 (cT0 1 i a)).2.2.2.2.2.2.2 3 from (by first | rfl | (simp only [fa33 19 (by decide), fa30 19 (by decide), fa28 19 (by decide), kg20.fa 19 rfl, kg17.fa 19 rfl, E10_r3, er11, el12, el13, el14, el15, el16, sMn, sMx]; done) | (simp only [fa33 19 (by decide), fa30 19 (by decide), fa28 19 (by decide), kg20.fa 19 rfl, kg17.fa 19 rfl, E10_r3, er11, el12, el13, el14, el15, el16, sMn, sMx]; rfl)))), (fun _ => (show a33 20 = (cPaid (i 64) (i 70) x1 5 (cT0 1 i a)).2.2.2.2.2.2.2 4 from (by first | rfl | (simp only [fa33 20 (by decide), fa30 20 (by decide), fa28 20 (by decide), kg20.fa 20 rfl, kg17.fa 20 rfl, E10_r4, er11, el12, el13, el14, el15, el16, sMn, sMx]; done) | (simp only [fa33 20 (by decide), fa30 20 (by decide), fa28 20 (by decide), kg20.fa 20 rfl, kg17.fa 20 rfl, E10_r4, er11, el12, el13, el14, el15, el16, sMn, sMx]; rfl)))), (fun _ => (show a33 21 = (cPaid (i 64) (i 70) x1 5 (cT0 1 i a)).2.2.2.2.2.2.2 5 from (by first | rfl | (simp only [fa33 21 (by decide), fa30 21 (by decide), fa28 21 (by decide), kg20.fa 21 rfl, kg17.fa 21 rfl, E10_r5, er11, el12, el13, el14, el15, el16, sMn, sMx]; done) | (simp only [fa33 21 (by decide), fa30 21 (by decide), fa28 21 (by decide), kg20.fa 21 rfl, kg17.fa 21 rfl, E10_r5, er11, el12, el13, el14, el15, el16, sMn, sMx]; rfl)))), (fun _ => (show a33 22 = (cPaid (i 64) (i 70) x1 5 (cT0 1 i a)).2.2.2.2.2.2.2 6 from (by first | rfl | (simp only [fa33 22 (by decide), fa30 22 (by decide), fa28 22 (by decide), kg20.fa 22 rfl, kg17.fa 22 rfl, E10_r6, er11, el12, el13, el14, el15, el16, sMn, sMx]; done) | (simp only [fa33 22 (by decide), fa30 22 (by decide), fa28 22 (by decide), kg20.fa 22 rfl, kg17.fa 22 rfl, E10_r6, er11, el12, el13, el14, el15, el16, sMn, sMx]; rfl)))), (fun _ => (show a33 23 = (cPaid (i 64) (i 70) x1 5 (cT0 1 i a)).2.2.2.2.2.2.2 7 from (by first | rfl | (simp only [fa33 23 (by decide), fa30 23 (by decide), fa28 23 (by decide), kg20.fa 23 rfl, kg17.fa 23 rfl, E10_r7, er11, el12, el13, el14, el15, el16, sMn, sMx]; done) | (simp only [fa33 23 (by decide), fa30 23 (by decide), fa28 23 (by decide), kg20.fa 23 rfl, kg17.fa 23 rfl, E10_r7, er11, el12, el13, el14, el15, el16, sMn, sMx]; rfl)))), (fun h => absurd h (oi78 c6 z5.1 z5.2 koi0)), (fun h => absurd h (oi78 c6 z5.1 z5.2 koi0)), (fun h => absurd h (oi78 c6 z5.1 z5.2 koi0)), (fun h => absurd h (oi78 c6 z5.1 z5.2 koi0)), (fun h => absurd h (oi78 c6 z5.1 z5.2 koi0)), (fun h => absurd h (oi78 c6 z5.1 z5.2 koi0)), (fun h => absurd h (oi78 c6 z5.1 z5.2 koi0)), (fun h => absurd h (oi78 c6 z5.1 z5.2 koi0)), (fun h => absurd h (oi78 c6 z5.1 z5.2 koi0)), (fun h => absurd h (oi78 c6 z5.1 z5.2 koi0)), (fun h => absurd h (oi78 c6 z5.1 z5.2 koi0)), (fun h => absurd h (oi78 c6 z5.1 z5.2 koi0)), (fun h => absurd h (oi78 c6 z5.1 z5.2 koi0)), (fun h => absurd h (oi78 c6 z5.1 z5.2 koi0)), (fun h => absurd h (oi78 c6 z5.1 z5.2 koi0)), (fun h => absurd h (oi78 c6 z5.1 z5.2 koi0)), (fun h => absurd h (oi78 c6 z5.1 z5.2 koi0)), (fun h => absurd h (oi78 c6 z5.1 z5.2 koi0)), (fun h => absurd h (oi78 c6 z5.1 z5.2 koi0))⟩⟩)
          ·
            have c34 : l3_7.toInt < (5 : Int32).toInt := kd_leF c; clear c
            have efi7_70 : (i7 70).toInt = (i 70).toInt := hL7.ti 70 rfl
            refine fo_goS mi_k29 fz29_57_5_68 [.int (i7 70), .int (i7 450)] rfl ?_
            refine ft_ifS mi_k29 (decide ((i7 450) < (i7 70))) 82 71 [] (by rfl) (fun c => ?_) (fun c => ?_)
            ·
              have c35 : (i7 450).toInt < (i7 70).toInt := kd_lt c; clear c
              have hG36 := kG_call hJ3 hL7 (by decide +kernel)
              have E37 : cT 1 i7 a7 = (cPaid (i 64) (i 70) x1 5 (cT0 1 i a)) := cP_done O7_0 (oi39 c35 efi7_70)
              have E37_0 : i7 450 = (cPaid (i 64) (i 70) x1 5 (cT0 1 i a)).1 := (cT_1 E37).1
              have E37_1 : a7 8 = (cPaid (i 64) (i 70) x1 5 (cT0 1 i a)).2.1 := (cT_1 E37).2.1
              have E37_2 : a7 9 = (cPaid (i 64) (i 70) x1 5 (cT0 1 i a)).2.2.1 := (cT_1 E37).2.2.1
              have E37_3 : a7 2 = (cPaid (i 64) (i 70) x1 5 (cT0 1 i a)).2.2.2.1 := (cT_1 E37).2.2.2.1
              have E37_4 : i7 78 = (cPaid (i 64) (i 70) x1 5 (cT0 1 i a)).2.2.2.2.1 := (cT_1 E37).2.2.2.2.1
              have E37_5 : i7 79 = (cPaid (i 64) (i 70) x1 5 (cT0 1 i a)).2.2.2.2.2.1 := (cT_1 E37).2.2.2.2.2.1
              have E37_6 : a7 14 = (cPaid (i 64) (i 70) x1 5 (cT0 1 i a)).2.2.2.2.2.2.1 := (cT_1 E37).2.2.2.2.2.2.1
              have E37_r0 : a7 16 = (cPaid (i 64) (i 70) x1 5 (cT0 1 i a)).2.2.2.2.2.2.2 0 := (cT_1 E37).2.2.2.2.2.2.2 0 (by decide)
              have E37_r1 : a7 17 = (cPaid (i 64) (i 70) x1 5 (cT0 1 i a)).2.2.2.2.2.2.2 1 := (cT_1 E37).2.2.2.2.2.2.2 1 (by decide)
              have E37_r2 : a7 18 = (cPaid (i 64) (i 70) x1 5 (cT0 1 i a)).2.2.2.2.2.2.2 2 := (cT_1 E37).2.2.2.2.2.2.2 2 (by decide)
              have E37_r3 : a7 19 = (cPaid (i 64) (i 70) x1 5 (cT0 1 i a)).2.2.2.2.2.2.2 3 := (cT_1 E37).2.2.2.2.2.2.2 3 (by decide)
              have E37_r4 : a7 20 = (cPaid (i 64) (i 70) x1 5 (cT0 1 i a)).2.2.2.2.2.2.2 4 := (cT_1 E37).2.2.2.2.2.2.2 4 (by decide)
              have E37_r5 : a7 21 = (cPaid (i 64) (i 70) x1 5 (cT0 1 i a)).2.2.2.2.2.2.2 5 := (cT_1 E37).2.2.2.2.2.2.2 5 (by decide)
              have E37_r6 : a7 22 = (cPaid (i 64) (i 70) x1 5 (cT0 1 i a)).2.2.2.2.2.2.2 6 := (cT_1 E37).2.2.2.2.2.2.2 6 (by decide)
              have E37_r7 : a7 23 = (cPaid (i 64) (i 70) x1 5 (cT0 1 i a)).2.2.2.2.2.2.2 7 := (cT_1 E37).2.2.2.2.2.2.2 7 (by decide)
              have er38 : r7 0 = r 0 := hL7.fr 0 rfl
              have el39 : a7 (r 0 + 1) = a (r 0 + 1) := by rcases hr.1 with ⟨hz, _⟩ | ⟨hz, _⟩ <;> rw [hz] <;> exact hL7.fa _ rfl
              have el40 : a7 (r 0 + 2) = a (r 0 + 2) := by rcases hr.1 with ⟨hz, _⟩ | ⟨hz, _⟩ <;> rw [hz] <;> exact hL7.fa _ rfl
              have el41 : a7 (r 0 + 3) = a (r 0 + 3) := by rcases hr.1 with ⟨hz, _⟩ | ⟨hz, _⟩ <;> rw [hz] <;> exact hL7.fa _ rfl
              have el42 : i7 (64 * r 0) = i (64 * r 0) := by rcases hr.1 with ⟨hz, _⟩ | ⟨hz, _⟩ <;> rw [hz] <;> exact hL7.fi _ rfl
              have el43 : i7 (64 * r 0 + 3) = i (64 * r 0 + 3) := by rcases hr.1 with ⟨hz, _⟩ | ⟨hz, _⟩ <;> rw [hz] <;> exact hL7.fi _ rfl
              refine fo_goS mi_k29 fz29_82_4_86 [.int ((a 2).getD x1.toNatClampNeg 0), .int x1, .ref 1, .ref 1] rfl ?_
              refine ko_callI mi_k29.1 (pc := 86) (ls := [(3, .int l3_7), (2, .int ((a 2).getD x1.toNatClampNeg 0)), (0, .ref 1), (1, .int x1)]) (st := [.int ((a 2).getD x1.toNatClampNeg 0), .int x1, .ref 1, .ref 1]) (h := ks i7 a7 q7 r7) (i := (.invokevirtual 100, 3, 31, 0, 9, 0, 223)) (mi_k29.2 _ _ (by rfl)) (ft_invS mi_pq31 (by rfl)) (cy := mi_c31) mi_pq31 rfl (ke31_1 hG36.I hG36.R x1 ((a 2).getD x1.toNatClampNeg 0) (oi67 fi_64.2 z5.1 z5.2)) (by decide) ?_
              intro vg44 ig44 ag44 qg44 rg44 kg44 hg44
              have hGg44 := kG_call hG36 kg44 (by decide +kernel)
              obtain ⟨hg44, og44⟩ := hg44
              have q45 : vg44 = cBuyV (i7 (64 * r7 0)) (a7 (r7 0 + 1)) (a7 (r7 0 + 2)) (a7 (r7 0 + 3)) (i7 (64 * r7 0 + 3)) ((a7 3).getD x1.toNatClampNeg 0) ((a 2).getD x1.toNatClampNeg 0) ((a7 4).getD x1.toNatClampNeg 0) (i7 73) ((a7 6).getD x1.toNatClampNeg 0) (i7 72) := og44
              have hJ46 := kG_i hGg44 80 rfl (v := vg44) (kd_bd _)
              first | refine fo_goI mi_k29 fz29_89_6_101 [.int vg44, .int x1, .ref 7] (ku ig44 80 vg44) (by rfl) ?_ | refine ft_go mi_k29 6 101 [(3, .int l3_7), (2, .int ((a 2).getD x1.toNatClampNeg 0)), (0, .ref 1), (1, .int x1)] [.int vg44, .int x1, .ref 7] (ku ig44 80 vg44) ag44 qg44 rg44 (by rfl) ?_
              have efig44_450 : (ig44 450).toInt = (i7 450).toInt := kg44.ti 450 rfl
              refine ko_callN mi_k29.1 (pc := 101) (ls := [(3, .int l3_7), (2, .int ((a 2).getD x1.toNatClampNeg 0)), (0, .ref 1), (1, .int x1)]) (st := [.int vg44, .int x1, .ref 7]) (h := ks (ku ig44 80 vg44) ag44 qg44 rg44) (i := (.invokevirtual 104, 3, 1, 0, 9, 0, 228)) (mi_k29.2 _ _ (by rfl)) (ft_invS mi_pq1 (by rfl)) (cy := mi_c1) mi_pq1 rfl (kf1_7 hJ46.I hJ46.R x1 vg44 (oi79 c35 efi7_70 efig44_450 hp0.2)) (by decide) ?_
              intro ig47 ag47 qg47 rg47 kg47 hg47
              have hGg47 := kG_call hJ46 kg47 (by decide +kernel)
              obtain ⟨hg47, og47⟩ := hg47
              have q49 : ag47 8 = (ag44 8).set (ig44 450).toNatClampNeg x1 := og47.1
              have q50 : ag47 9 = (ag44 9).set (ig44 450).toNatClampNeg vg44 := og47.2.1
              have q51 : ig47 450 = ig44 450 + 1 := og47.2.2
              have b52 : ((-2147483648 : Int) ≤ (ig47 73).toInt) ∧ ((ig47 73).toInt ≤ 2147483647) := kd_bd (ig47 73)
              have hJ53 := kG_i hGg47 73 rfl (v := ((ig47 73) + 1)) (kd_bd _)
              first | refine fo_goI mi_k29 fz29_104_10_120 [.int x1, .ref 6, .int x1, .ref 6] (ku ig47 73 ((ig47 73) + 1)) (by rfl) ?_ | refine ft_go mi_k29 10 120 [(3, .int l3_7), (2, .int ((a 2).getD x1.toNatClampNeg 0)), (0, .ref 1), (1, .int x1)] [.int x1, .ref 6, .int x1, .ref 6] (ku ig47 73 ((ig47 73) + 1)) ag47 qg47 rg47 (by rfl) ?_
              refine ko_iald3 mi_k29.1 (n := 8) (c := 8) (ax := (0, 0, 0, 0, 0)) (mi_k29.2 _ _ (by rfl)) (by rfl) (ksG6 _ _ _ _) (hJ53.I.2.1 6) rfl (oi4 z5.1) (oi5 fi_64.2 z5.2) ?_
              have b54 : ((-2147483648 : Int) ≤ ((ag47 6).getD x1.toNatClampNeg 0).toInt) ∧ (((ag47 6).getD x1.toNatClampNeg 0).toInt ≤ 2147483647) := kd_bd ((ag47 6).getD x1.toNatClampNeg 0)
              refine fo_goS mi_k29 fz29_121_2_123 [.int (((ag47 6).getD x1.toNatClampNeg 0) + 1), .int x1, .ref 6] rfl ?_
              refine ko_iast3 mi_k29.1 (n := 8) (c := 8) (ax := (0, 0, 0, 0, 0)) (mi_k29.2 _ _ (by rfl)) (by rfl) (ksG6 _ _ _ _) (ksA6 _ _ _ _) (hJ53.I.2.1 6) rfl (oi4 z5.1) (oi5 fi_64.2 z5.2) ?_
              intro a55 ea55 fa55
              have hJ55 := kG_a3 hJ53 6 rfl ea55 fa55 (kd_bd _)
              refine fo_goS mi_k29 fz29_124_4_130 [.int 0, .ref 14, .int 0, .ref 14] rfl ?_
              refine ko_iald3 mi_k29.1 (n := 5) (c := 5) (ax := (0, 0, 0, 0, 0)) (mi_k29.2 _ _ (by rfl)) (by rfl) (ksG14 _ _ _ _) (hJ55.I.2.1 14) rfl (oi9 koi0) (oi74 koi0) ?_
              have b56 : ((-2147483648 : Int) ≤ ((a55 14).getD (0 : Int32).toNatClampNeg 0).toInt) ∧ (((a55 14).getD (0 : Int32).toNatClampNeg 0).toInt ≤ 2147483647) := kd_bd ((a55 14).getD (0 : Int32).toNatClampNeg 0)
              refine fo_goS mi_k29 fz29_131_2_133 [.int (((a55 14).getD (0 : Int32).toNatClampNeg 0) + 1), .int 0, .ref 14] rfl ?_
              refine ko_iast3 mi_k29.1 (n := 5) (c := 5) (ax := (0, 0, 0, 0, 0)) (mi_k29.2 _ _ (by rfl)) (by rfl) (ksG14 _ _ _ _) (ksA14 _ _ _ _) (hJ55.I.2.1 14) rfl (oi9 koi0) (oi74 koi0) ?_
              intro a57 ea57 fa57
              have hJ57 := kG_a3 hJ55 14 rfl ea57 fa57 (kd_bd _)
              refine fo_goS mi_k29 fz29_134_4_140 [.int 1, .ref 14, .int 1, .ref 14] rfl ?_
              refine ko_iald3 mi_k29.1 (n := 5) (c := 5) (ax := (0, 0, 0, 0, 0)) (mi_k29.2 _ _ (by rfl)) (by rfl) (ksG14 _ _ _ _) (hJ57.I.2.1 14) rfl (oi11 koi1) (oi75 koi1) ?_
              have b58 : ((-2147483648 : Int) ≤ ((a57 14).getD (1 : Int32).toNatClampNeg 0).toInt) ∧ (((a57 14).getD (1 : Int32).toNatClampNeg 0).toInt ≤ 2147483647) := kd_bd ((a57 14).getD (1 : Int32).toNatClampNeg 0)
              have b59 : ((-2147483648 : Int) ≤ (ig47 79).toInt) ∧ ((ig47 79).toInt ≤ 2147483647) := kd_bd (ig47 79)
              refine fo_goS mi_k29 fz29_141_3_146 [.int (((a57 14).getD (1 : Int32).toNatClampNeg 0) + (ig47 79)), .int 1, .ref 14] rfl ?_
              refine ko_iast3 mi_k29.1 (n := 5) (c := 5) (ax := (0, 0, 0, 0, 0)) (mi_k29.2 _ _ (by rfl)) (by rfl) (ksG14 _ _ _ _) (ksA14 _ _ _ _) (hJ57.I.2.1 14) rfl (oi11 koi1) (oi75 koi1) ?_
              intro a60 ea60 fa60
              have hJ60 := kG_a3 hJ57 14 rfl ea60 fa60 (kd_bd _)
              refine fo_goS mi_k29 fz29_147_2_151 [.int (ig47 79)] rfl ?_
              exact ft_ret mi_k29 (by rfl) (hP (ig47 79) _ _ _ _ hJ60 ⟨trivial, ⟨(fun _ => (show ig47 450 = (cPaid (i 64) (i 70) x1 5 (cT0 1 i a)).1 + 1 from (by first | rfl | (simp only [q51, (show ig44 450 = i7 450 from kg44.fi 450 rfl), E37_0, er38, el39, el40, el41, el42, el43, sMn, sMx]; done) | (simp only [q51, (show ig44 450 = i7 450 from kg44.fi 450 rfl), E37_0, er38, el39, el40, el41, el42, el43, sMn, sMx]; rfl)))), (fun _ => (show a60 8 = (cPaid (i 64) (i 70) x1 5 (cT0 1 i a)).2.1.set (cPaid (i 64) (i 70) x1 5 (cT0 1 i a)).1.toNatClampNeg x1 from (by first | rfl | (simp only [fa60 8 (by decide), fa57 8 (by decide), fa55 8 (by decide), q49, kg44.fa 8 rfl, (show ig44 450 = i7 450 from kg44.fi 450 rfl), E37_0, E37_1, er38, el39, el40, el41, el42, el43, sMn, sMx]; done) | (simp only [fa60 8 (by decide), fa57 8 (by decide), fa55 8 (by decide), q49, kg44.fa 8 rfl, (show ig44 450 = i7 450 from kg44.fi 450 rfl), E37_0, E37_1, er38, el39, el40, el41, el42, el43, sMn, sMx]; rfl)))), (fun _ => (show a60 9 = (cPaid (i 64) (i 70) x1 5 (cT0 1 i a)).2.2.1.set (cPaid (i 64) (i 70) x1 5 (cT0 1 i a)).1.toNatClampNeg (cBuyV (i (64 * r 0)) (a (r 0 + 1)) (a (r 0 + 2)) (a (r 0 + 3)) (i (64 * r 0 + 3)) ((a 3).getD x1.toNatClampNeg 0) ((a 2).getD x1.toNatClampNeg 0) ((a 4).getD x1.toNatClampNeg 0) (i 73) ((a 6).getD x1.toNatClampNeg 0) (i 72)) from (by first | rfl | (simp only [fa60 9 (by decide), fa57 9 (by decide), fa55 9 (by decide), q50, kg44.fa 9 rfl, (show ig44 450 = i7 450 from kg44.fi 450 rfl), q45, hL7.fa 3 rfl, hL7.fa 4 rfl, (show i7 73 = i 73 from hL7.fi 73 rfl), hL7.fa 6 rfl, (show i7 72 = i 72 from hL7.fi 72 rfl), E37_0, E37_2, er38, el39, el40, el41, el42, el43, sMn, sMx]; done) | (simp only [fa60 9 (by decide), fa57 9 (by decide), fa55 9 (by decide), q50, kg44.fa 9 rfl, (show ig44 450 = i7 450 from kg44.fi 450 rfl), q45, hL7.fa 3 rfl, hL7.fa 4 rfl, (show i7 73 = i 73 from hL7.fi 73 rfl), hL7.fa 6 rfl, (show i7 72 = i 72 from hL7.fi 72 rfl), E37_0, E37_2, er38, el39, el40, el41, el42, el43, sMn, sMx]; rfl)))), (fun _ => (show a60 2 = (cPaid (i 64) (i 70) x1 5 (cT0 1 i a)).2.2.2.1 from (by first | rfl | (simp only [fa60 2 (by decide), fa57 2 (by decide), fa55 2 (by decide), kg47.fa 2 rfl, kg44.fa 2 rfl, E37_3, er38, el39, el40, el41, el42, el43, sMn, sMx]; done) | (simp only [fa60 2 (by decide), fa57 2 (by decide), fa55 2 (by decide), kg47.fa 2 rfl, kg44.fa 2 rfl, E37_3, er38, el39, el40, el41, el42, el43, sMn, sMx]; rfl)))), (fun _ => (show ig47 78 = (cPaid (i 64) (i 70) x1 5 (cT0 1 i a)).2.2.2.2.1 from (by first | rfl | (simp only [(show ig47 78 = ig44 78 from kg47.fi 78 rfl), (show ig44 78 = i7 78 from kg44.fi 78 rfl), E37_4, er38, el39, el40, el41, el42, el43, sMn, sMx]; done) | (simp only [(show ig47 78 = ig44 78 from kg47.fi 78 rfl), (show ig44 78 = i7 78 from kg44.fi 78 rfl), E37_4, er38, el39, el40, el41, el42, el43, sMn, sMx]; rfl)))), (fun _ => (show ig47 79 = (cPaid (i 64) (i 70) x1 5 (cT0 1 i a)).2.2.2.2.2.1 from (by first | rfl | (simp only [(show ig47 79 = ig44 79 from kg47.fi 79 rfl), (show ig44 79 = i7 79 from kg44.fi 79 rfl), E37_5, er38, el39, el40, el41, el42, el43, sMn, sMx]; done) | (simp only [(show ig47 79 = ig44 79 from kg47.fi 79 rfl), (show ig44 79 = i7 79 from kg44.fi 79 rfl), E37_5, er38, el39, el40, el41, el42, el43, sMn, sMx]; rfl)))), (fun _ => (show ig47 80 = (cBuyV (i (64 * r 0)) (a (r 0 + 1)) (a (r 0 + 2)) (a (r 0 + 3)) (i (64 * r 0 + 3)) ((a 3).getD x1.toNatClampNeg 0) ((a 2).getD x1.toNatClampNeg 0) ((a 4).getD x1.toNatClampNeg 0) (i 73) ((a 6).getD x1.toNatClampNeg 0) (i 72)) from (by first | rfl | (simp only [(show ig47 80 = vg44 from kg47.fi 80 rfl), q45, hL7.fa 3 rfl, hL7.fa 4 rfl, (show i7 73 = i 73 from hL7.fi 73 rfl), hL7.fa 6 rfl, (show i7 72 = i 72 from hL7.fi 72 rfl), er38, el39, el40, el41, el42, el43, sMn, sMx]; done) | (simp only [(show ig47 80 = vg44 from kg47.fi 80 rfl), q45, hL7.fa 3 rfl, hL7.fa 4 rfl, (show i7 73 = i 73 from hL7.fi 73 rfl), hL7.fa 6 rfl, (show i7 72 = i 72 from hL7.fi 72 rfl), er38, el39, el40, el41, el42, el43, sMn, sMx]; rfl)))), (fun _ => (show ((ig47 73) + 1) = i 73 + 1 from (by first | rfl | (simp only [(show ig47 73 = ig44 73 from kg47.fi 73 rfl), (show ig44 73 = i7 73 from kg44.fi 73 rfl), (show i7 73 = i 73 from hL7.fi 73 rfl), er38, el39, el40, el41, el42, el43, sMn, sMx]; done) | (simp only [(show ig47 73 = ig44 73 from kg47.fi 73 rfl), (show ig44 73 = i7 73 from kg44.fi 73 rfl), (show i7 73 = i 73 from hL7.fi 73 rfl), er38, el39, el40, el41, el42, el43, sMn, sMx]; rfl)))), (fun _ => (show a60 6 = (a 6).set x1.toNatClampNeg ((a 6).getD x1.toNatClampNeg 0 + 1) from (by first | rfl | (simp only [fa60 6 (by decide), fa57 6 (by decide), ea55, kg47.fa 6 rfl, kg44.fa 6 rfl, hL7.fa 6 rfl, er38, el39, el40, el41, el42, el43, sMn, sMx]; done) | (simp only [fa60 6 (by decide), fa57 6 (by decide), ea55, kg47.fa 6 rfl, kg44.fa 6 rfl, hL7.fa 6 rfl, er38, el39, el40, el41, el42, el43, sMn, sMx]; rfl)))), (fun _ => (show a60 14 = ((cPaid (i 64) (i 70) x1 5 (cT0 1 i a)).2.2.2.2.2.2.1.set (0 : Int32).toNatClampNeg ((cPaid (i 64) (i 70) x1 5 (cT0 1 i a)).2.2.2.2.2.2.1.getD (0 : Int32).toNatClampNeg 0 + 1)).set (1 : Int32).toNatClampNeg (((cPaid (i 64) (i 70) x1 5 (cT0 1 i a)).2.2.2.2.2.2.1.set (0 : Int32).toNatClampNeg ((cPaid (i 64) (i 70) x1 5 (cT0 1 i a)).2.2.2.2.2.2.1.getD (0 : Int32).toNatClampNeg 0 + 1)).getD (1 : Int32).toNatClampNeg 0 + (cPaid (i 64) (i 70) x1 5 (cT0 1 i a)).2.2.2.2.2.1) from (by first | rfl | (simp only [ea60, ea57, (show ig47 79 = ig44 79 from kg47.fi 79 rfl), (show ig44 79 = i7 79 from kg44.fi 79 rfl), E37_5, fa55 14 (by decide), kg47.fa 14 rfl, kg44.fa 14 rfl, E37_6, er38, el39, el40, el41, el42, el43, sMn, sMx]; done) | (simp only [ea60, ea57, (show ig47 79 = ig44 79 from kg47.fi 79 rfl), (show ig44 79 = i7 79 from kg44.fi 79 rfl), E37_5, fa55 14 (by decide), kg47.fa 14 rfl, kg44.fa 14 rfl, E37_6, er38, el39, el40, el41, el42, el43, sMn, sMx]; rfl)))), (fun _ => (show (ig47 79) = (cPaid (i 64) (i 70) x1 5 (cT0 1 i a)).2.2.2.2.2.1 from (by first | rfl | (simp only [(show ig47 79 = ig44 79 from kg47.fi 79 rfl), (show ig44 79 = i7 79 from kg44.fi 79 rfl), E37_5, er38, el39, el40, el41, el42, el43, sMn, sMx]; done) | (simp only [(show ig47 79 = ig44 79 from kg47.fi 79 rfl), (show ig44 79 = i7 79 from kg44.fi 79 rfl), E37_5, er38, el39, el40, el41, el42, el43, sMn, sMx]; rfl)))), (fun _ => (show a60 16 = (cPaid (i 64) (i 70) x1 5 (cT0 1 i a)).2.2.2.2.2.2.2 0 from (by first | rfl | (simp only [fa60 16 (by decide), fa57 16 (by decide), fa55 16 (by decide), kg47.fa 16 rfl, kg44.fa 16 rfl, E37_r0, er38, el39, el40, el41, el42, el43, sMn, sMx]; done) | (simp only [fa60 16 (by decide), fa57 16 (by decide), fa55 16 (by decide), kg47.fa 16 rfl, kg44.fa 16 rfl, E37_r0, er38, el39, el40, el41, el42, el43, sMn, sMx]; rfl)))), (fun _ => (show a60 17 = (cPaid (i 64) (i 70) x1 5 (cT0 1 i a)).2.2.2.2.2.2.2 1 from (by first | rfl | (simp only [fa60 17 (by decide), fa57 17 (by decide), fa55 17 (by decide), kg47.fa 17 rfl, kg44.fa 17 rfl, E37_r1, er38, el39, el40, el41, el42, el43, sMn, sMx]; done) | (simp only [fa60 17 (by decide), fa57 17 (by decide), fa55 17 (by decide), kg47.fa 17 rfl, kg44.fa 17 rfl, E37_r1, er38, el39, el40, el41, el42, el43, sMn, sMx]; rfl)))), (fun _ => (show a60 18 = (cPaid (i 64) (i 70) x1 5 (cT0 1 i a)).2.2.2.2.2.2.2 2 from (by first | rfl | (simp only [fa60 18 (by decide), fa57 18 (by decide), fa55 18 (by decide), kg47.fa 18 rfl, kg44.fa 18 rfl, E37_r2, er38, el39, el40, el41, el42, el43, sMn, sMx]; done) | (simp only [fa60 18 (by decide), fa57 18 (by decide), fa55 18 (by decide), kg47.fa 18 rfl, kg44.fa 18 rfl, E37_r2, er38, el39, el40, el41, el42, el43, sMn, sMx]; rfl)))), (fun _ => (show a60 19 = (cPaid (i 64) (i 70) x1 5 (cT0 1 i a)).2.2.2.2.2.2.2 3 from (by first | rfl | (simp only [fa60 19 (by decide), fa57 19 (by decide), fa55 19 (by decide), kg47.fa 19 rfl, kg44.fa 19 rfl, E37_r3, er38, el39, el40, el41, el42, el43, sMn, sMx]; done) | (simp only [fa60 19 (by decide), fa57 19 (by decide), fa55 19 (by decide), kg47.fa 19 rfl, kg44.fa 19 rfl, E37_r3, er38, el39, el40, el41, el42, el43, sMn, sMx]; rfl)))), (fun _ => (show a60 20 = (cPaid (i 64) (i 70) x1 5 (cT0 1 i a)).2.2.2.2.2.2.2 4 from (by first | rfl | (simp only [fa60 20 (by decide), fa57 20 (by decide), fa55 20 (by decide), kg47.fa 20 rfl, kg44.fa 20 rfl, E37_r4, er38, el39, el40, el41, el42, el43, sMn, sMx]; done) | (simp only [fa60 20 (by decide), fa57 20 (by decide), fa55 20 (by decide), kg47.fa 20 rfl, kg44.fa 20 rfl, E37_r4, er38, el39, el40, el41, el42, el43, sMn, sMx]; rfl)))), (fun _ => (show a60 21 = (cPaid (i 64) (i 70) x1 5 (cT0 1 i a)).2.2.2.2.2.2.2 5 from (by first | rfl | (simp only [fa60 21 (by decide), fa57 21 (by decide), fa55 21 (by decide), kg47.fa 21 rfl, kg44.fa 21 rfl, E37_r5, er38, el39, el40, el41, el42, el43, sMn, sMx]; done) | (simp only [fa60 21 (by decide), fa57 21 (by decide), fa55 21 (by decide), kg47.fa 21 rfl, kg44.fa 21 rfl, E37_r5, er38, el39, el40, el41, el42, el43, sMn, sMx]; rfl)))), (fun _ => (show a60 22 = (cPaid (i 64) (i 70) x1 5 (cT0 1 i a)).2.2.2.2.2.2.2 6 from (by first | rfl | (simp only [fa60 22 (by decide), fa57 22 (by decide), fa55 22 (by decide), kg47.fa 22 rfl, kg44.fa 22 rfl, E37_r6, er38, el39, el40, el41, el42, el43, sMn, sMx]; done) | (simp only [fa60 22 (by decide), fa57 22 (by decide), fa55 22 (by decide), kg47.fa 22 rfl, kg44.fa 22 rfl, E37_r6, er38, el39, el40, el41, el42, el43, sMn, sMx]; rfl)))), (fun _ => (show a60 23 = (cPaid (i 64) (i 70) x1 5 (cT0 1 i a)).2.2.2.2.2.2.2 7 from (by first | rfl | (simp only [fa60 23 (by decide), fa57 23 (by decide), fa55 23 (by decide), kg47.fa 23 rfl, kg44.fa 23 rfl, E37_r7, er38, el39, el40, el41, el42, el43, sMn, sMx]; done) | (simp only [fa60 23 (by decide), fa57 23 (by decide), fa55 23 (by decide), kg47.fa 23 rfl, kg44.fa 23 rfl, E37_r7, er38, el39, el40, el41, el42, el43, sMn, sMx]; rfl)))), (fun h => absurd h (oi78 c6 z5.1 z5.2 koi0)), (fun h => absurd h (oi78 c6 z5.1 z5.2 koi0)), (fun h => absurd h (oi78 c6 z5.1 z5.2 koi0)), (fun h => absurd h (oi78 c6 z5.1 z5.2 koi0)), (fun h => absurd h (oi78 c6 z5.1 z5.2 koi0)), (fun h => absurd h (oi78 c6 z5.1 z5.2 koi0)), (fun h => absurd h (oi78 c6 z5.1 z5.2 koi0)), (fun h => absurd h (oi78 c6 z5.1 z5.2 koi0)), (fun h => absurd h (oi78 c6 z5.1 z5.2 koi0)), (fun h => absurd h (oi78 c6 z5.1 z5.2 koi0)), (fun h => absurd h (oi78 c6 z5.1 z5.2 koi0)), (fun h => absurd h (oi78 c6 z5.1 z5.2 koi0)), (fun h => absurd h (oi78 c6 z5.1 z5.2 koi0)), (fun h => absurd h (oi78 c6 z5.1 z5.2 koi0)), (fun h => absurd h (oi78 c6 z5.1 z5.2 koi0)), (fun h => absurd h (oi78 c6 z5.1 z5.2 koi0)), (fun h => absurd h (oi78 c6 z5.1 z5.2 koi0)), (fun h => absurd h (oi78 c6 z5.1 z5.2 koi0)), (fun h => absurd h (oi78 c6 z5.1 z5.2 koi0))⟩⟩)
            ·
              have c61 : (i7 70).toInt ≤ (i7 450).toInt := kd_ltF c; clear c
              refine fo_goS mi_k29 fz29_71_2_73 [.int x1, .ref 1] rfl ?_
              refine ko_callN mi_k29.1 (pc := 73) (ls := [(3, .int l3_7), (2, .int ((a 2).getD x1.toNatClampNeg 0)), (0, .ref 1), (1, .int x1)]) (st := [.int x1, .ref 1]) (h := ks i7 a7 q7 r7) (i := (.invokevirtual 96, 3, 30, 0, 9, 0, 221)) (mi_k29.2 _ _ (by rfl)) (ft_invS mi_pq30 (by rfl)) (cy := mi_c30) mi_pq30 rfl (ke30_1 hL7.I hL7.R x1 (oi67 fi_64.2 z5.1 z5.2) (oi179 c61 efi7_70 hp0.1)) (by decide) ?_
              intro ig62 ag62 qg62 rg62 kg62 hg62
              have hGg62 := kG_call hL7 kg62 (by decide +kernel)
              obtain ⟨hg62, og62⟩ := hg62
              have z63 : (ig62 450).toInt = ((i7 450).toInt - 1) := hg62
              have s64 : (l3_7 + 1).toInt = l3_7.toInt + (1 : Int32).toInt := kd_add (oi32 p7_0 koi1) (oi180 c34 koi5 koi1)
              first | refine fo_goL mi_k29 fz29_50_2_52 [(3, .int (l3_7 + 1)), (2, .int ((a 2).getD x1.toNatClampNeg 0)), (0, .ref 1), (1, .int x1)] [] (by rfl) ?_ | refine fo_goL mi_k29 fz29_76_2_52 [(3, .int (l3_7 + 1)), (2, .int ((a 2).getD x1.toNatClampNeg 0)), (0, .ref 1), (1, .int x1)] [] (by rfl) ?_
              exact ih7 _ _ _ _ _ hGg62 (oi34 p7_0 s64 koi1) (oi181 p7_1 s64 z63 koi1) (cP_again (T := cT 1 i7 a7) O7_0 (kj_five (oi182 c34 koi5) (oi40 s64 koi1)) (oi183 c61 efi7_70) og62 (by first | rfl | (simp only [(show i7 64 = i 64 from hL7.fi 64 rfl), sMn, sMx]; done) | (simp only [(show i7 64 = i 64 from hL7.fi 64 rfl), sMn, sMx]; rfl))) (kj_meas (oi184 s64 koi1) (oi185 c34 koi5) hm7)
      have fi_450 : ((0 : Int) ≤ (i 450).toInt) ∧ ((i 450).toInt ≤ 5) := hJ3.I.1 450
      exact lp7 _ _ _ _ _ _ (kG_self _ hJ3.I hJ3.R) (oi9 koi0) (oi186 fi_450.2 koi0) (by rw [koi0]; rfl) (Nat.lt_succ_self _)
    ·
      have c65 : (i 71).toInt = (0 : Int32).toInt := kd_neF c; clear c
      refine fo_goS mi_k29 fz29_31_3_36 [.int x1, .ref 5] rfl ?_
      refine ko_iald3 mi_k29.1 (n := 8) (c := 8) (ax := (0, 0, 0, 0, 0)) (mi_k29.2 _ _ (by rfl)) (by rfl) (ksG5 _ _ _ _) (hJ3.I.2.1 5) rfl (oi4 z5.1) (oi5 fi_64.2 z5.2) ?_
      refine ft_goS mi_k29 1 38 [.int 1, .int ((a 5).getD x1.toNatClampNeg 0)] (by rfl) ?_
      refine ft_ifS mi_k29 (((a 5).getD x1.toNatClampNeg 0) != 1) 43 41 [] (by rfl) (fun c => ?_) (fun c => ?_)
      ·
        have c66 : ((a 5).getD x1.toNatClampNeg 0).toInt ≠ (1 : Int32).toInt := kd_ne c; clear c
        refine fo_goS mi_k29 fz29_43_3_48 [.int x1, .ref 2] rfl ?_
        refine ko_iald3 mi_k29.1 (n := 8) (c := 8) (ax := (0, 0, 0, 0, 0)) (mi_k29.2 _ _ (by rfl)) (by rfl) (ksG2 _ _ _ _) (hJ3.I.2.1 2) rfl (oi4 z5.1) (oi5 fi_64.2 z5.2) ?_
        first | refine fo_goL mi_k29 fz29_49_3_52 [(3, .int 0), (2, .int ((a 2).getD x1.toNatClampNeg 0)), (0, .ref 1), (1, .int x1)] [] (by rfl) ?_ | refine ft_goL mi_k29 3 52 [(3, .int 0), (2, .int ((a 2).getD x1.toNatClampNeg 0)), (0, .ref 1), (1, .int x1)] [] (by rfl) ?_
        have lp67 : ∀ (nz : Nat) (i67 : Nat → Int32) (a67 : Nat → List Int32) (q67 : Nat → List Int64) (r67 : Nat → Nat) (l3_67 : Int32), kG yw29_1_L52 (ku (ku (ku i 78 8) 79 0) 80 0) a q r i67 a67 q67 r67 → (0 : Int) ≤ l3_67.toInt → (i67 450).toInt ≤ (5 - l3_67.toInt) → cPaid (i 64) (i 70) x1 (5 - l3_67.toInt).toNat (cT 1 i67 a67) = (cPaid (i 64) (i 70) x1 5 (cT0 1 i a)) → ((5 - l3_67.toInt)).toNat < nz → ko 7 (mi_h29, mi_c29) P (52, [(3, .int l3_67), (2, .int ((a 2).getD x1.toNatClampNeg 0)), (0, .ref 1), (1, .int x1)], [], (0, 0), ks i67 a67 q67 r67) := by
          intro nz
          induction nz with
          | zero =>
            intro _ _ _ _ _ _ _ _ _ hm
            exact absurd hm (Nat.not_lt_zero _)
          | succ nz ih67 =>
            intro i67 a67 q67 r67 l3_67 hL67 p67_0 p67_1 O67_0 hm67
            refine fo_goL mi_k29 fz29_52_2_54 [(3, .int l3_67), (2, .int ((a 2).getD x1.toNatClampNeg 0)), (0, .ref 1), (1, .int x1)] [.int 5, .int l3_67] rfl ?_
            refine ft_ifS mi_k29 (decide (5 ≤ l3_67)) 82 57 [] (by rfl) (fun c => ?_) (fun c => ?_)
            ·
              have c68 : (5 : Int32).toInt ≤ l3_67.toInt := kd_le c; clear c
              have hG69 := kG_call hJ3 hL67 (by decide +kernel)
              have E70 : cT 1 i67 a67 = (cPaid (i 64) (i 70) x1 5 (cT0 1 i a)) := cP_end O67_0 (kj_five0 (oi6 c68 koi5))
              have E70_0 : i67 450 = (cPaid (i 64) (i 70) x1 5 (cT0 1 i a)).1 := (cT_1 E70).1
              have E70_1 : a67 8 = (cPaid (i 64) (i 70) x1 5 (cT0 1 i a)).2.1 := (cT_1 E70).2.1
              have E70_2 : a67 9 = (cPaid (i 64) (i 70) x1 5 (cT0 1 i a)).2.2.1 := (cT_1 E70).2.2.1
              have E70_3 : a67 2 = (cPaid (i 64) (i 70) x1 5 (cT0 1 i a)).2.2.2.1 := (cT_1 E70).2.2.2.1
              have E70_4 : i67 78 = (cPaid (i 64) (i 70) x1 5 (cT0 1 i a)).2.2.2.2.1 := (cT_1 E70).2.2.2.2.1
              have E70_5 : i67 79 = (cPaid (i 64) (i 70) x1 5 (cT0 1 i a)).2.2.2.2.2.1 := (cT_1 E70).2.2.2.2.2.1
              have E70_6 : a67 14 = (cPaid (i 64) (i 70) x1 5 (cT0 1 i a)).2.2.2.2.2.2.1 := (cT_1 E70).2.2.2.2.2.2.1
              have E70_r0 : a67 16 = (cPaid (i 64) (i 70) x1 5 (cT0 1 i a)).2.2.2.2.2.2.2 0 := (cT_1 E70).2.2.2.2.2.2.2 0 (by decide)
              have E70_r1 : a67 17 = (cPaid (i 64) (i 70) x1 5 (cT0 1 i a)).2.2.2.2.2.2.2 1 := (cT_1 E70).2.2.2.2.2.2.2 1 (by decide)
              have E70_r2 : a67 18 = (cPaid (i 64) (i 70) x1 5 (cT0 1 i a)).2.2.2.2.2.2.2 2 := (cT_1 E70).2.2.2.2.2.2.2 2 (by decide)
              have E70_r3 : a67 19 = (cPaid (i 64) (i 70) x1 5 (cT0 1 i a)).2.2.2.2.2.2.2 3 := (cT_1 E70).2.2.2.2.2.2.2 3 (by decide)
              have E70_r4 : a67 20 = (cPaid (i 64) (i 70) x1 5 (cT0 1 i a)).2.2.2.2.2.2.2 4 := (cT_1 E70).2.2.2.2.2.2.2 4 (by decide)
              have E70_r5 : a67 21 = (cPaid (i 64) (i 70) x1 5 (cT0 1 i a)).2.2.2.2.2.2.2 5 := (cT_1 E70).2.2.2.2.2.2.2 5 (by decide)
              have E70_r6 : a67 22 = (cPaid (i 64) (i 70) x1 5 (cT0 1 i a)).2.2.2.2.2.2.2 6 := (cT_1 E70).2.2.2.2.2.2.2 6 (by decide)
              have E70_r7 : a67 23 = (cPaid (i 64) (i 70) x1 5 (cT0 1 i a)).2.2.2.2.2.2.2 7 := (cT_1 E70).2.2.2.2.2.2.2 7 (by decide)
              have er71 : r67 0 = r 0 := hL67.fr 0 rfl
              have el72 : a67 (r 0 + 1) = a (r 0 + 1) := by rcases hr.1 with ⟨hz, _⟩ | ⟨hz, _⟩ <;> rw [hz] <;> exact hL67.fa _ rfl
              have el73 : a67 (r 0 + 2) = a (r 0 + 2) := by rcases hr.1 with ⟨hz, _⟩ | ⟨hz, _⟩ <;> rw [hz] <;> exact hL67.fa _ rfl
              have el74 : a67 (r 0 + 3) = a (r 0 + 3) := by rcases hr.1 with ⟨hz, _⟩ | ⟨hz, _⟩ <;> rw [hz] <;> exact hL67.fa _ rfl
              have el75 : i67 (64 * r 0) = i (64 * r 0) := by rcases hr.1 with ⟨hz, _⟩ | ⟨hz, _⟩ <;> rw [hz] <;> exact hL67.fi _ rfl
              have el76 : i67 (64 * r 0 + 3) = i (64 * r 0 + 3) := by rcases hr.1 with ⟨hz, _⟩ | ⟨hz, _⟩ <;> rw [hz] <;> exact hL67.fi _ rfl
              refine fo_goS mi_k29 fz29_82_4_86 [.int ((a 2).getD x1.toNatClampNeg 0), .int x1, .ref 1, .ref 1] rfl ?_
              refine ko_callI mi_k29.1 (pc := 86) (ls := [(3, .int l3_67), (2, .int ((a 2).getD x1.toNatClampNeg 0)), (0, .ref 1), (1, .int x1)]) (st := [.int ((a 2).getD x1.toNatClampNeg 0), .int x1, .ref 1, .ref 1]) (h := ks i67 a67 q67 r67) (i := (.invokevirtual 100, 3, 31, 0, 9, 0, 223)) (mi_k29.2 _ _ (by rfl)) (ft_invS mi_pq31 (by rfl)) (cy := mi_c31) mi_pq31 rfl (ke31_1 hG69.I hG69.R x1 ((a 2).getD x1.toNatClampNeg 0) (oi67 fi_64.2 z5.1 z5.2)) (by decide) ?_
              intro vg77 ig77 ag77 qg77 rg77 kg77 hg77
              have hGg77 := kG_call hG69 kg77 (by decide +kernel)
              obtain ⟨hg77, og77⟩ := hg77
              have q78 : vg77 = cBuyV (i67 (64 * r67 0)) (a67 (r67 0 + 1)) (a67 (r67 0 + 2)) (a67 (r67 0 + 3)) (i67 (64 * r67 0 + 3)) ((a67 3).getD x1.toNatClampNeg 0) ((a 2).getD x1.toNatClampNeg 0) ((a67 4).getD x1.toNatClampNeg 0) (i67 73) ((a67 6).getD x1.toNatClampNeg 0) (i67 72) := og77
              have hJ79 := kG_i hGg77 80 rfl (v := vg77) (kd_bd _)
              first | refine fo_goI mi_k29 fz29_89_6_101 [.int vg77, .int x1, .ref 7] (ku ig77 80 vg77) (by rfl) ?_ | refine ft_go mi_k29 6 101 [(3, .int l3_67), (2, .int ((a 2).getD x1.toNatClampNeg 0)), (0, .ref 1), (1, .int x1)] [.int vg77, .int x1, .ref 7] (ku ig77 80 vg77) ag77 qg77 rg77 (by rfl) ?_
              have efig77_450 : (ig77 450).toInt = (i67 450).toInt := kg77.ti 450 rfl
              refine ko_callN mi_k29.1 (pc := 101) (ls := [(3, .int l3_67), (2, .int ((a 2).getD x1.toNatClampNeg 0)), (0, .ref 1), (1, .int x1)]) (st := [.int vg77, .int x1, .ref 7]) (h := ks (ku ig77 80 vg77) ag77 qg77 rg77) (i := (.invokevirtual 104, 3, 1, 0, 9, 0, 228)) (mi_k29.2 _ _ (by rfl)) (ft_invS mi_pq1 (by rfl)) (cy := mi_c1) mi_pq1 rfl (kf1_7 hJ79.I hJ79.R x1 vg77 (oi73 c68 efig77_450 p67_1 koi5)) (by decide) ?_
              intro ig80 ag80 qg80 rg80 kg80 hg80
              have hGg80 := kG_call hJ79 kg80 (by decide +kernel)
              obtain ⟨hg80, og80⟩ := hg80
              have q82 : ag80 8 = (ag77 8).set (ig77 450).toNatClampNeg x1 := og80.1
              have q83 : ag80 9 = (ag77 9).set (ig77 450).toNatClampNeg vg77 := og80.2.1
              have q84 : ig80 450 = ig77 450 + 1 := og80.2.2
              have b85 : ((-2147483648 : Int) ≤ (ig80 73).toInt) ∧ ((ig80 73).toInt ≤ 2147483647) := kd_bd (ig80 73)
              have hJ86 := kG_i hGg80 73 rfl (v := ((ig80 73) + 1)) (kd_bd _)
              first | refine fo_goI mi_k29 fz29_104_10_120 [.int x1, .ref 6, .int x1, .ref 6] (ku ig80 73 ((ig80 73) + 1)) (by rfl) ?_ | refine ft_go mi_k29 10 120 [(3, .int l3_67), (2, .int ((a 2).getD x1.toNatClampNeg 0)), (0, .ref 1), (1, .int x1)] [.int x1, .ref 6, .int x1, .ref 6] (ku ig80 73 ((ig80 73) + 1)) ag80 qg80 rg80 (by rfl) ?_
              refine ko_iald3 mi_k29.1 (n := 8) (c := 8) (ax := (0, 0, 0, 0, 0)) (mi_k29.2 _ _ (by rfl)) (by rfl) (ksG6 _ _ _ _) (hJ86.I.2.1 6) rfl (oi4 z5.1) (oi5 fi_64.2 z5.2) ?_
              have b87 : ((-2147483648 : Int) ≤ ((ag80 6).getD x1.toNatClampNeg 0).toInt) ∧ (((ag80 6).getD x1.toNatClampNeg 0).toInt ≤ 2147483647) := kd_bd ((ag80 6).getD x1.toNatClampNeg 0)
              refine fo_goS mi_k29 fz29_121_2_123 [.int (((ag80 6).getD x1.toNatClampNeg 0) + 1), .int x1, .ref 6] rfl ?_
              refine ko_iast3 mi_k29.1 (n := 8) (c := 8) (ax := (0, 0, 0, 0, 0)) (mi_k29.2 _ _ (by rfl)) (by rfl) (ksG6 _ _ _ _) (ksA6 _ _ _ _) (hJ86.I.2.1 6) rfl (oi4 z5.1) (oi5 fi_64.2 z5.2) ?_
              intro a88 ea88 fa88
              have hJ88 := kG_a3 hJ86 6 rfl ea88 fa88 (kd_bd _)
              refine fo_goS mi_k29 fz29_124_4_130 [.int 0, .ref 14, .int 0, .ref 14] rfl ?_
              refine ko_iald3 mi_k29.1 (n := 5) (c := 5) (ax := (0, 0, 0, 0, 0)) (mi_k29.2 _ _ (by rfl)) (by rfl) (ksG14 _ _ _ _) (hJ88.I.2.1 14) rfl (oi9 koi0) (oi74 koi0) ?_
              have b89 : ((-2147483648 : Int) ≤ ((a88 14).getD (0 : Int32).toNatClampNeg 0).toInt) ∧ (((a88 14).getD (0 : Int32).toNatClampNeg 0).toInt ≤ 2147483647) := kd_bd ((a88 14).getD (0 : Int32).toNatClampNeg 0)
              refine fo_goS mi_k29 fz29_131_2_133 [.int (((a88 14).getD (0 : Int32).toNatClampNeg 0) + 1), .int 0, .ref 14] rfl ?_
              refine ko_iast3 mi_k29.1 (n := 5) (c := 5) (ax := (0, 0, 0, 0, 0)) (mi_k29.2 _ _ (by rfl)) (by rfl) (ksG14 _ _ _ _) (ksA14 _ _ _ _) (hJ88.I.2.1 14) rfl (oi9 koi0) (oi74 koi0) ?_
              intro a90 ea90 fa90
              have hJ90 := kG_a3 hJ88 14 rfl ea90 fa90 (kd_bd _)
              refine fo_goS mi_k29 fz29_134_4_140 [.int 1, .ref 14, .int 1, .ref 14] rfl ?_
              refine ko_iald3 mi_k29.1 (n := 5) (c := 5) (ax := (0, 0, 0, 0, 0)) (mi_k29.2 _ _ (by rfl)) (by rfl) (ksG14 _ _ _ _) (hJ90.I.2.1 14) rfl (oi11 koi1) (oi75 koi1) ?_
              have b91 : ((-2147483648 : Int) ≤ ((a90 14).getD (1 : Int32).toNatClampNeg 0).toInt) ∧ (((a90 14).getD (1 : Int32).toNatClampNeg 0).toInt ≤ 2147483647) := kd_bd ((a90 14).getD (1 : Int32).toNatClampNeg 0)
              have b92 : ((-2147483648 : Int) ≤ (ig80 79).toInt) ∧ ((ig80 79).toInt ≤ 2147483647) := kd_bd (ig80 79)
              refine fo_goS mi_k29 fz29_141_3_146 [.int (((a90 14).getD (1 : Int32).toNatClampNeg 0) + (ig80 79)), .int 1, .ref 14] rfl ?_
              refine ko_iast3 mi_k29.1 (n := 5) (c := 5) (ax := (0, 0, 0, 0, 0)) (mi_k29.2 _ _ (by rfl)) (by rfl) (ksG14 _ _ _ _) (ksA14 _ _ _ _) (hJ90.I.2.1 14) rfl (oi11 koi1) (oi75 koi1) ?_
              intro a93 ea93 fa93
              have hJ93 := kG_a3 hJ90 14 rfl ea93 fa93 (kd_bd _)
              refine fo_goS mi_k29 fz29_147_2_151 [.int (ig80 79)] rfl ?_
              exact ft_ret mi_k29 (by rfl) (hP (ig80 79) _ _ _ _ hJ93 ⟨trivial, ⟨(fun _ => (show ig80 450 = (cPaid (i 64) (i 70) x1 5 (cT0 1 i a)).1 + 1 from (by first | rfl | (simp only [q84, (show ig77 450 = i67 450 from kg77.fi 450 rfl), E70_0, er71, el72, el73, el74, el75, el76, sMn, sMx]; done) | (simp only [q84, (show ig77 450 = i67 450 from kg77.fi 450 rfl), E70_0, er71, el72, el73, el74, el75, el76, sMn, sMx]; rfl)))), (fun _ => (show a93 8 = (cPaid (i 64) (i 70) x1 5 (cT0 1 i a)).2.1.set (cPaid (i 64) (i 70) x1 5 (cT0 1 i a)).1.toNatClampNeg x1 from (by first | rfl | (simp only [fa93 8 (by decide), fa90 8 (by decide), fa88 8 (by decide), q82, kg77.fa 8 rfl, (show ig77 450 = i67 450 from kg77.fi 450 rfl), E70_0, E70_1, er71, el72, el73, el74, el75, el76, sMn, sMx]; done) | (simp only [fa93 8 (by decide), fa90 8 (by decide), fa88 8 (by decide), q82, kg77.fa 8 rfl, (show ig77 450 = i67 450 from kg77.fi 450 rfl), E70_0, E70_1, er71, el72, el73, el74, el75, el76, sMn, sMx]; rfl)))), (fun _ => (show a93 9 = (cPaid (i 64) (i 70) x1 5 (cT0 1 i a)).2.2.1.set (cPaid (i 64) (i 70) x1 5 (cT0 1 i a)).1.toNatClampNeg (cBuyV (i (64 * r 0)) (a (r 0 + 1)) (a (r 0 + 2)) (a (r 0 + 3)) (i (64 * r 0 + 3)) ((a 3).getD x1.toNatClampNeg 0) ((a 2).getD x1.toNatClampNeg 0) ((a 4).getD x1.toNatClampNeg 0) (i 73) ((a 6).getD x1.toNatClampNeg 0) (i 72)) from (by first | rfl | (simp only [fa93 9 (by decide), fa90 9 (by decide), fa88 9 (by decide), q83, kg77.fa 9 rfl, (show ig77 450 = i67 450 from kg77.fi 450 rfl), q78, hL67.fa 3 rfl, hL67.fa 4 rfl, (show i67 73 = i 73 from hL67.fi 73 rfl), hL67.fa 6 rfl, (show i67 72 = i 72 from hL67.fi 72 rfl), E70_0, E70_2, er71, el72, el73, el74, el75, el76, sMn, sMx]; done) | (simp only [fa93 9 (by decide), fa90 9 (by decide), fa88 9 (by decide), q83, kg77.fa 9 rfl, (show ig77 450 = i67 450 from kg77.fi 450 rfl), q78, hL67.fa 3 rfl, hL67.fa 4 rfl, (show i67 73 = i 73 from hL67.fi 73 rfl), hL67.fa 6 rfl, (show i67 72 = i 72 from hL67.fi 72 rfl), E70_0, E70_2, er71, el72, el73, el74, el75, el76, sMn, sMx]; rfl)))), (fun _ => (show a93 2 = (cPaid (i 64) (i 70) x1 5 (cT0 1 i a)).2.2.2.1 from (by first | rfl | (simp only [fa93 2 (by decide), fa90 2 (by decide), fa88 2 (by decide), kg80.fa 2 rfl, kg77.fa 2 rfl, E70_3, er71, el72, el73, el74, el75, el76, sMn, sMx]; done) | (simp only [fa93 2 (by decide), fa90 2 (by decide), fa88 2 (by decide), kg80.fa 2 rfl, kg77.fa 2 rfl, E70_3, er71, el72, el73, el74, el75, el76, sMn, sMx]; rfl)))), (fun _ => (show ig80 78 = (cPaid (i 64) (i 70) x1 5 (cT0 1 i a)).2.2.2.2.1 from (by first | rfl | (simp only [(show ig80 78 = ig77 78 from kg80.fi 78 rfl), (show ig77 78 = i67 78 from kg77.fi 78 rfl), E70_4, er71, el72, el73, el74, el75, el76, sMn, sMx]; done) | (simp only [(show ig80 78 = ig77 78 from kg80.fi 78 rfl), (show ig77 78 = i67 78 from kg77.fi 78 rfl), E70_4, er71, el72, el73, el74, el75, el76, sMn, sMx]; rfl)))), (fun _ => (show ig80 79 = (cPaid (i 64) (i 70) x1 5 (cT0 1 i a)).2.2.2.2.2.1 from (by first | rfl | (simp only [(show ig80 79 = ig77 79 from kg80.fi 79 rfl), (show ig77 79 = i67 79 from kg77.fi 79 rfl), E70_5, er71, el72, el73, el74, el75, el76, sMn, sMx]; done) | (simp only [(show ig80 79 = ig77 79 from kg80.fi 79 rfl), (show ig77 79 = i67 79 from kg77.fi 79 rfl), E70_5, er71, el72, el73, el74, el75, el76, sMn, sMx]; rfl)))), (fun _ => (show ig80 80 = (cBuyV (i (64 * r 0)) (a (r 0 + 1)) (a (r 0 + 2)) (a (r 0 + 3)) (i (64 * r 0 + 3)) ((a 3).getD x1.toNatClampNeg 0) ((a 2).getD x1.toNatClampNeg 0) ((a 4).getD x1.toNatClampNeg 0) (i 73) ((a 6).getD x1.toNatClampNeg 0) (i 72)) from (by first | rfl | (simp only [(show ig80 80 = vg77 from kg80.fi 80 rfl), q78, hL67.fa 3 rfl, hL67.fa 4 rfl, (show i67 73 = i 73 from hL67.fi 73 rfl), hL67.fa 6 rfl, (show i67 72 = i 72 from hL67.fi 72 rfl), er71, el72, el73, el74, el75, el76, sMn, sMx]; done) | (simp only [(show ig80 80 = vg77 from kg80.fi 80 rfl), q78, hL67.fa 3 rfl, hL67.fa 4 rfl, (show i67 73 = i 73 from hL67.fi 73 rfl), hL67.fa 6 rfl, (show i67 72 = i 72 from hL67.fi 72 rfl), er71, el72, el73, el74, el75, el76, sMn, sMx]; rfl)))), (fun _ => (show ((ig80 73) + 1) = i 73 + 1 from (by first | rfl | (simp only [(show ig80 73 = ig77 73 from kg80.fi 73 rfl), (show ig77 73 = i67 73 from kg77.fi 73 rfl), (show i67 73 = i 73 from hL67.fi 73 rfl), er71, el72, el73, el74, el75, el76, sMn, sMx]; done) | (simp only [(show ig80 73 = ig77 73 from kg80.fi 73 rfl), (show ig77 73 = i67 73 from kg77.fi 73 rfl), (show i67 73 = i 73 from hL67.fi 73 rfl), er71, el72, el73, el74, el75, el76, sMn, sMx]; rfl)))), (fun _ => (show a93 6 = (a 6).set x1.toNatClampNeg ((a 6).getD x1.toNatClampNeg 0 + 1) from (by first | rfl | (simp only [fa93 6 (by decide), fa90 6 (by decide), ea88, kg80.fa 6 rfl, kg77.fa 6 rfl, hL67.fa 6 rfl, er71, el72, el73, el74, el75, el76, sMn, sMx]; done) | (simp only [fa93 6 (by decide), fa90 6 (by decide), ea88, kg80.fa 6 rfl, kg77.fa 6 rfl, hL67.fa 6 rfl, er71, el72, el73, el74, el75, el76, sMn, sMx]; rfl)))), (fun _ => (show a93 14 = ((cPaid (i 64) (i 70) x1 5 (cT0 1 i a)).2.2.2.2.2.2.1.set (0 : Int32).toNatClampNeg ((cPaid (i 64) (i 70) x1 5 (cT0 1 i a)).2.2.2.2.2.2.1.getD (0 : Int32).toNatClampNeg 0 + 1)).set (1 : Int32).toNatClampNeg (((cPaid (i 64) (i 70) x1 5 (cT0 1 i a)).2.2.2.2.2.2.1.set (0 : Int32).toNatClampNeg ((cPaid (i 64) (i 70) x1 5 (cT0 1 i a)).2.2.2.2.2.2.1.getD (0 : Int32).toNatClampNeg 0 + 1)).getD (1 : Int32).toNatClampNeg 0 + (cPaid (i 64) (i 70) x1 5 (cT0 1 i a)).2.2.2.2.2.1) from (by first | rfl | (simp only [ea93, ea90, (show ig80 79 = ig77 79 from kg80.fi 79 rfl), (show ig77 79 = i67 79 from kg77.fi 79 rfl), E70_5, fa88 14 (by decide), kg80.fa 14 rfl, kg77.fa 14 rfl, E70_6, er71, el72, el73, el74, el75, el76, sMn, sMx]; done) | (simp only [ea93, ea90, (show ig80 79 = ig77 79 from kg80.fi 79 rfl), (show ig77 79 = i67 79 from kg77.fi 79 rfl), E70_5, fa88 14 (by decide), kg80.fa 14 rfl, kg77.fa 14 rfl, E70_6, er71, el72, el73, el74, el75, el76, sMn, sMx]; rfl)))), (fun _ => (show (ig80 79) = (cPaid (i 64) (i 70) x1 5 (cT0 1 i a)).2.2.2.2.2.1 from (by first | rfl | (simp only [(show ig80 79 = ig77 79 from kg80.fi 79 rfl), (show ig77 79 = i67 79 from kg77.fi 79 rfl), E70_5, er71, el72, el73, el74, el75, el76, sMn, sMx]; done) | (simp only [(show ig80 79 = ig77 79 from kg80.fi 79 rfl), (show ig77 79 = i67 79 from kg77.fi 79 rfl), E70_5, er71, el72, el73, el74, el75, el76, sMn, sMx]; rfl)))), (fun _ => (show a93 16 = (cPaid (i 64) (i 70) x1 5 (cT0 1 i a)).2.2.2.2.2.2.2 0 from (by first | rfl | (simp only [fa93 16 (by decide), fa90 16 (by decide), fa88 16 (by decide), kg80.fa 16 rfl, kg77.fa 16 rfl, E70_r0, er71, el72, el73, el74, el75, el76, sMn, sMx]; done) | (simp only [fa93 16 (by decide), fa90 16 (by decide), fa88 16 (by decide), kg80.fa 16 rfl, kg77.fa 16 rfl, E70_r0, er71, el72, el73, el74, el75, el76, sMn, sMx]; rfl)))), (fun _ => (show a93 17 = (cPaid (i 64) (i 70) x1 5 (cT0 1 i a)).2.2.2.2.2.2.2 1 from (by first | rfl | (simp only [fa93 17 (by decide), fa90 17 (by decide), fa88 17 (by decide), kg80.fa 17 rfl, kg77.fa 17 rfl, E70_r1, er71, el72, el73, el74, el75, el76, sMn, sMx]; done) | (simp only [fa93 17 (by decide), fa90 17 (by decide), fa88 17 (by decide), kg80.fa 17 rfl, kg77.fa 17 rfl, E70_r1, er71, el72, el73, el74, el75, el76, sMn, sMx]; rfl)))), (fun _ => (show a93 18 = (cPaid (i 64) (i 70) x1 5 (cT0 1 i a)).2.2.2.2.2.2.2 2 from (by first | rfl | (simp only [fa93 18 (by decide), fa90 18 (by decide), fa88 18 (by decide), kg80.fa 18 rfl, kg77.fa 18 rfl, E70_r2, er71, el72, el73, el74, el75, el76, sMn, sMx]; done) | (simp only [fa93 18 (by decide), fa90 18 (by decide), fa88 18 (by decide), kg80.fa 18 rfl, kg77.fa 18 rfl, E70_r2, er71, el72, el73, el74, el75, el76, sMn, sMx]; rfl)))), (fun _ => (show a93 19 = (cPaid (i 64) (i 70) x1 5 (cT0 1 i a)).2.2.2.2.2.2.2 3 from (by first | rfl | (simp only [fa93 19 (by decide), fa90 19 (by decide), fa88 19 (by decide), kg80.fa 19 rfl, kg77.fa 19 rfl, E70_r3, er71, el72, el73, el74, el75, el76, sMn, sMx]; done) | (simp only [fa93 19 (by decide), fa90 19 (by decide), fa88 19 (by decide), kg80.fa 19 rfl, kg77.fa 19 rfl, E70_r3, er71, el72, el73, el74, el75, el76, sMn, sMx]; rfl)))), (fun _ => (show a93 20 = (cPaid (i 64) (i 70) x1 5 (cT0 1 i a)).2.2.2.2.2.2.2 4 from (by first | rfl | (simp only [fa93 20 (by decide), fa90 20 (by decide), fa88 20 (by decide), kg80.fa 20 rfl, kg77.fa 20 rfl, E70_r4, er71, el72, el73, el74, el75, el76, sMn, sMx]; done) | (simp only [fa93 20 (by decide), fa90 20 (by decide), fa88 20 (by decide), kg80.fa 20 rfl, kg77.fa 20 rfl, E70_r4, er71, el72, el73, el74, el75, el76, sMn, sMx]; rfl)))), (fun _ => (show a93 21 = (cPaid (i 64) (i 70) x1 5 (cT0 1 i a)).2.2.2.2.2.2.2 5 from (by first | rfl | (simp only [fa93 21 (by decide), fa90 21 (by decide), fa88 21 (by decide), kg80.fa 21 rfl, kg77.fa 21 rfl, E70_r5, er71, el72, el73, el74, el75, el76, sMn, sMx]; done) | (simp only [fa93 21 (by decide), fa90 21 (by decide), fa88 21 (by decide), kg80.fa 21 rfl, kg77.fa 21 rfl, E70_r5, er71, el72, el73, el74, el75, el76, sMn, sMx]; rfl)))), (fun _ => (show a93 22 = (cPaid (i 64) (i 70) x1 5 (cT0 1 i a)).2.2.2.2.2.2.2 6 from (by first | rfl | (simp only [fa93 22 (by decide), fa90 22 (by decide), fa88 22 (by decide), kg80.fa 22 rfl, kg77.fa 22 rfl, E70_r6, er71, el72, el73, el74, el75, el76, sMn, sMx]; done) | (simp only [fa93 22 (by decide), fa90 22 (by decide), fa88 22 (by decide), kg80.fa 22 rfl, kg77.fa 22 rfl, E70_r6, er71, el72, el73, el74, el75, el76, sMn, sMx]; rfl)))), (fun _ => (show a93 23 = (cPaid (i 64) (i 70) x1 5 (cT0 1 i a)).2.2.2.2.2.2.2 7 from (by first | rfl | (simp only [fa93 23 (by decide), fa90 23 (by decide), fa88 23 (by decide), kg80.fa 23 rfl, kg77.fa 23 rfl, E70_r7, er71, el72, el73, el74, el75, el76, sMn, sMx]; done) | (simp only [fa93 23 (by decide), fa90 23 (by decide), fa88 23 (by decide), kg80.fa 23 rfl, kg77.fa 23 rfl, E70_r7, er71, el72, el73, el74, el75, el76, sMn, sMx]; rfl)))), (fun h => absurd h (oi187 c66 z5.1 z5.2 koi1)), (fun h => absurd h (oi187 c66 z5.1 z5.2 koi1)), (fun h => absurd h (oi187 c66 z5.1 z5.2 koi1)), (fun h => absurd h (oi187 c66 z5.1 z5.2 koi1)), (fun h => absurd h (oi187 c66 z5.1 z5.2 koi1)), (fun h => absurd h (oi187 c66 z5.1 z5.2 koi1)), (fun h => absurd h (oi187 c66 z5.1 z5.2 koi1)), (fun h => absurd h (oi187 c66 z5.1 z5.2 koi1)), (fun h => absurd h (oi187 c66 z5.1 z5.2 koi1)), (fun h => absurd h (oi187 c66 z5.1 z5.2 koi1)), (fun h => absurd h (oi187 c66 z5.1 z5.2 koi1)), (fun h => absurd h (oi187 c66 z5.1 z5.2 koi1)), (fun h => absurd h (oi187 c66 z5.1 z5.2 koi1)), (fun h => absurd h (oi187 c66 z5.1 z5.2 koi1)), (fun h => absurd h (oi187 c66 z5.1 z5.2 koi1)), (fun h => absurd h (oi187 c66 z5.1 z5.2 koi1)), (fun h => absurd h (oi187 c66 z5.1 z5.2 koi1)), (fun h => absurd h (oi187 c66 z5.1 z5.2 koi1)), (fun h => absurd h (oi187 c66 z5.1 z5.2 koi1))⟩⟩)
            ·
              have c94 : l3_67.toInt < (5 : Int32).toInt := kd_leF c; clear c
              have efi67_70 : (i67 70).toInt = (i 70).toInt := hL67.ti 70 rfl
              refine fo_goS mi_k29 fz29_57_5_68 [.int (i67 70), .int (i67 450)] rfl ?_
              refine ft_ifS mi_k29 (decide ((i67 450) < (i67 70))) 82 71 [] (by rfl) (fun c => ?_) (fun c => ?_)
              ·
                have c95 : (i67 450).toInt < (i67 70).toInt := kd_lt c; clear c
                have hG96 := kG_call hJ3 hL67 (by decide +kernel)
                have E97 : cT 1 i67 a67 = (cPaid (i 64) (i 70) x1 5 (cT0 1 i a)) := cP_done O67_0 (oi39 c95 efi67_70)
                have E97_0 : i67 450 = (cPaid (i 64) (i 70) x1 5 (cT0 1 i a)).1 := (cT_1 E97).1
                have E97_1 : a67 8 = (cPaid (i 64) (i 70) x1 5 (cT0 1 i a)).2.1 := (cT_1 E97).2.1
                have E97_2 : a67 9 = (cPaid (i 64) (i 70) x1 5 (cT0 1 i a)).2.2.1 := (cT_1 E97).2.2.1
                have E97_3 : a67 2 = (cPaid (i 64) (i 70) x1 5 (cT0 1 i a)).2.2.2.1 := (cT_1 E97).2.2.2.1
                have E97_4 : i67 78 = (cPaid (i 64) (i 70) x1 5 (cT0 1 i a)).2.2.2.2.1 := (cT_1 E97).2.2.2.2.1
                have E97_5 : i67 79 = (cPaid (i 64) (i 70) x1 5 (cT0 1 i a)).2.2.2.2.2.1 := (cT_1 E97).2.2.2.2.2.1
                have E97_6 : a67 14 = (cPaid (i 64) (i 70) x1 5 (cT0 1 i a)).2.2.2.2.2.2.1 := (cT_1 E97).2.2.2.2.2.2.1
                have E97_r0 : a67 16 = (cPaid (i 64) (i 70) x1 5 (cT0 1 i a)).2.2.2.2.2.2.2 0 := (cT_1 E97).2.2.2.2.2.2.2 0 (by decide)
                have E97_r1 : a67 17 = (cPaid (i 64) (i 70) x1 5 (cT0 1 i a)).2.2.2.2.2.2.2 1 := (cT_1 E97).2.2.2.2.2.2.2 1 (by decide)
                have E97_r2 : a67 18 = (cPaid (i 64) (i 70) x1 5 (cT0 1 i a)).2.2.2.2.2.2.2 2 := (cT_1 E97).2.2.2.2.2.2.2 2 (by decide)
                have E97_r3 : a67 19 = (cPaid (i 64) (i 70) x1 5 (cT0 1 i a)).2.2.2.2.2.2.2 3 := (cT_1 E97).2.2.2.2.2.2.2 3 (by decide)
                have E97_r4 : a67 20 = (cPaid (i 64) (i 70) x1 5 (cT0 1 i a)).2.2.2.2.2.2.2 4 := (cT_1 E97).2.2.2.2.2.2.2 4 (by decide)
                have E97_r5 : a67 21 = (cPaid (i 64) (i 70) x1 5 (cT0 1 i a)).2.2.2.2.2.2.2 5 := (cT_1 E97).2.2.2.2.2.2.2 5 (by decide)
                have E97_r6 : a67 22 = (cPaid (i 64) (i 70) x1 5 (cT0 1 i a)).2.2.2.2.2.2.2 6 := (cT_1 E97).2.2.2.2.2.2.2 6 (by decide)
                have E97_r7 : a67 23 = (cPaid (i 64) (i 70) x1 5 (cT0 1 i a)).2.2.2.2.2.2.2 7 := (cT_1 E97).2.2.2.2.2.2.2 7 (by decide)
                have er98 : r67 0 = r 0 := hL67.fr 0 rfl
                have el99 : a67 (r 0 + 1) = a (r 0 + 1) := by rcases hr.1 with ⟨hz, _⟩ | ⟨hz, _⟩ <;> rw [hz] <;> exact hL67.fa _ rfl
                have el100 : a67 (r 0 + 2) = a (r 0 + 2) := by rcases hr.1 with ⟨hz, _⟩ | ⟨hz, _⟩ <;> rw [hz] <;> exact hL67.fa _ rfl
                have el101 : a67 (r 0 + 3) = a (r 0 + 3) := by rcases hr.1 with ⟨hz, _⟩ | ⟨hz, _⟩ <;> rw [hz] <;> exact hL67.fa _ rfl
                have el102 : i67 (64 * r 0) = i (64 * r 0) := by rcases hr.1 with ⟨hz, _⟩ | ⟨hz, _⟩ <;> rw [hz] <;> exact hL67.fi _ rfl
                have el103 : i67 (64 * r 0 + 3) = i (64 * r 0 + 3) := by rcases hr.1 with ⟨hz, _⟩ | ⟨hz, _⟩ <;> rw [hz] <;> exact hL67.fi _ rfl
                refine fo_goS mi_k29 fz29_82_4_86 [.int ((a 2).getD x1.toNatClampNeg 0), .int x1, .ref 1, .ref 1] rfl ?_
                refine ko_callI mi_k29.1 (pc := 86) (ls := [(3, .int l3_67), (2, .int ((a 2).getD x1.toNatClampNeg 0)), (0, .ref 1), (1, .int x1)]) (st := [.int ((a 2).getD x1.toNatClampNeg 0), .int x1, .ref 1, .ref 1]) (h := ks i67 a67 q67 r67) (i := (.invokevirtual 100, 3, 31, 0, 9, 0, 223)) (mi_k29.2 _ _ (by rfl)) (ft_invS mi_pq31 (by rfl)) (cy := mi_c31) mi_pq31 rfl (ke31_1 hG96.I hG96.R x1 ((a 2).getD x1.toNatClampNeg 0) (oi67 fi_64.2 z5.1 z5.2)) (by decide) ?_
                intro vg104 ig104 ag104 qg104 rg104 kg104 hg104
                have hGg104 := kG_call hG96 kg104 (by decide +kernel)
                obtain ⟨hg104, og104⟩ := hg104
                have q105 : vg104 = cBuyV (i67 (64 * r67 0)) (a67 (r67 0 + 1)) (a67 (r67 0 + 2)) (a67 (r67 0 + 3)) (i67 (64 * r67 0 + 3)) ((a67 3).getD x1.toNatClampNeg 0) ((a 2).getD x1.toNatClampNeg 0) ((a67 4).getD x1.toNatClampNeg 0) (i67 73) ((a67 6).getD x1.toNatClampNeg 0) (i67 72) := og104
                have hJ106 := kG_i hGg104 80 rfl (v := vg104) (kd_bd _)
                first | refine fo_goI mi_k29 fz29_89_6_101 [.int vg104, .int x1, .ref 7] (ku ig104 80 vg104) (by rfl) ?_ | refine ft_go mi_k29 6 101 [(3, .int l3_67), (2, .int ((a 2).getD x1.toNatClampNeg 0)), (0, .ref 1), (1, .int x1)] [.int vg104, .int x1, .ref 7] (ku ig104 80 vg104) ag104 qg104 rg104 (by rfl) ?_
                have efig104_450 : (ig104 450).toInt = (i67 450).toInt := kg104.ti 450 rfl
                refine ko_callN mi_k29.1 (pc := 101) (ls := [(3, .int l3_67), (2, .int ((a 2).getD x1.toNatClampNeg 0)), (0, .ref 1), (1, .int x1)]) (st := [.int vg104, .int x1, .ref 7]) (h := ks (ku ig104 80 vg104) ag104 qg104 rg104) (i := (.invokevirtual 104, 3, 1, 0, 9, 0, 228)) (mi_k29.2 _ _ (by rfl)) (ft_invS mi_pq1 (by rfl)) (cy := mi_c1) mi_pq1 rfl (kf1_7 hJ106.I hJ106.R x1 vg104 (oi79 c95 efi67_70 efig104_450 hp0.2)) (by decide) ?_
                intro ig107 ag107 qg107 rg107 kg107 hg107
                have hGg107 := kG_call hJ106 kg107 (by decide +kernel)
                obtain ⟨hg107, og107⟩ := hg107
                have q109 : ag107 8 = (ag104 8).set (ig104 450).toNatClampNeg x1 := og107.1
                have q110 : ag107 9 = (ag104 9).set (ig104 450).toNatClampNeg vg104 := og107.2.1
                have q111 : ig107 450 = ig104 450 + 1 := og107.2.2
                have b112 : ((-2147483648 : Int) ≤ (ig107 73).toInt) ∧ ((ig107 73).toInt ≤ 2147483647) := kd_bd (ig107 73)
                have hJ113 := kG_i hGg107 73 rfl (v := ((ig107 73) + 1)) (kd_bd _)
                first | refine fo_goI mi_k29 fz29_104_10_120 [.int x1, .ref 6, .int x1, .ref 6] (ku ig107 73 ((ig107 73) + 1)) (by rfl) ?_ | refine ft_go mi_k29 10 120 [(3, .int l3_67), (2, .int ((a 2).getD x1.toNatClampNeg 0)), (0, .ref 1), (1, .int x1)] [.int x1, .ref 6, .int x1, .ref 6] (ku ig107 73 ((ig107 73) + 1)) ag107 qg107 rg107 (by rfl) ?_
                refine ko_iald3 mi_k29.1 (n := 8) (c := 8) (ax := (0, 0, 0, 0, 0)) (mi_k29.2 _ _ (by rfl)) (by rfl) (ksG6 _ _ _ _) (hJ113.I.2.1 6) rfl (oi4 z5.1) (oi5 fi_64.2 z5.2) ?_
                have b114 : ((-2147483648 : Int) ≤ ((ag107 6).getD x1.toNatClampNeg 0).toInt) ∧ (((ag107 6).getD x1.toNatClampNeg 0).toInt ≤ 2147483647) := kd_bd ((ag107 6).getD x1.toNatClampNeg 0)
                refine fo_goS mi_k29 fz29_121_2_123 [.int (((ag107 6).getD x1.toNatClampNeg 0) + 1), .int x1, .ref 6] rfl ?_
                refine ko_iast3 mi_k29.1 (n := 8) (c := 8) (ax := (0, 0, 0, 0, 0)) (mi_k29.2 _ _ (by rfl)) (by rfl) (ksG6 _ _ _ _) (ksA6 _ _ _ _) (hJ113.I.2.1 6) rfl (oi4 z5.1) (oi5 fi_64.2 z5.2) ?_
                intro a115 ea115 fa115
                have hJ115 := kG_a3 hJ113 6 rfl ea115 fa115 (kd_bd _)
                refine fo_goS mi_k29 fz29_124_4_130 [.int 0, .ref 14, .int 0, .ref 14] rfl ?_
                refine ko_iald3 mi_k29.1 (n := 5) (c := 5) (ax := (0, 0, 0, 0, 0)) (mi_k29.2 _ _ (by rfl)) (by rfl) (ksG14 _ _ _ _) (hJ115.I.2.1 14) rfl (oi9 koi0) (oi74 koi0) ?_
                have b116 : ((-2147483648 : Int) ≤ ((a115 14).getD (0 : Int32).toNatClampNeg 0).toInt) ∧ (((a115 14).getD (0 : Int32).toNatClampNeg 0).toInt ≤ 2147483647) := kd_bd ((a115 14).getD (0 : Int32).toNatClampNeg 0)
                refine fo_goS mi_k29 fz29_131_2_133 [.int (((a115 14).getD (0 : Int32).toNatClampNeg 0) + 1), .int 0, .ref 14] rfl ?_
                refine ko_iast3 mi_k29.1 (n := 5) (c := 5) (ax := (0, 0, 0, 0, 0)) (mi_k29.2 _ _ (by rfl)) (by rfl) (ksG14 _ _ _ _) (ksA14 _ _ _ _) (hJ115.I.2.1 14) rfl (oi9 koi0) (oi74 koi0) ?_
                intro a117 ea117 fa117
                have hJ117 := kG_a3 hJ115 14 rfl ea117 fa117 (kd_bd _)
                refine fo_goS mi_k29 fz29_134_4_140 [.int 1, .ref 14, .int 1, .ref 14] rfl ?_
                refine ko_iald3 mi_k29.1 (n := 5) (c := 5) (ax := (0, 0, 0, 0, 0)) (mi_k29.2 _ _ (by rfl)) (by rfl) (ksG14 _ _ _ _) (hJ117.I.2.1 14) rfl (oi11 koi1) (oi75 koi1) ?_
                have b118 : ((-2147483648 : Int) ≤ ((a117 14).getD (1 : Int32).toNatClampNeg 0).toInt) ∧ (((a117 14).getD (1 : Int32).toNatClampNeg 0).toInt ≤ 2147483647) := kd_bd ((a117 14).getD (1 : Int32).toNatClampNeg 0)
                have b119 : ((-2147483648 : Int) ≤ (ig107 79).toInt) ∧ ((ig107 79).toInt ≤ 2147483647) := kd_bd (ig107 79)
                refine fo_goS mi_k29 fz29_141_3_146 [.int (((a117 14).getD (1 : Int32).toNatClampNeg 0) + (ig107 79)), .int 1, .ref 14] rfl ?_
                refine ko_iast3 mi_k29.1 (n := 5) (c := 5) (ax := (0, 0, 0, 0, 0)) (mi_k29.2 _ _ (by rfl)) (by rfl) (ksG14 _ _ _ _) (ksA14 _ _ _ _) (hJ117.I.2.1 14) rfl (oi11 koi1) (oi75 koi1) ?_
                intro a120 ea120 fa120
                have hJ120 := kG_a3 hJ117 14 rfl ea120 fa120 (kd_bd _)
                refine fo_goS mi_k29 fz29_147_2_151 [.int (ig107 79)] rfl ?_
                exact ft_ret mi_k29 (by rfl) (hP (ig107 79) _ _ _ _ hJ120 ⟨trivial, ⟨(fun _ => (show ig107 450 = (cPaid (i 64) (i 70) x1 5 (cT0 1 i a)).1 + 1 from (by first | rfl | (simp only [q111, (show ig104 450 = i67 450 from kg104.fi 450 rfl), E97_0, er98, el99, el100, el101, el102, el103, sMn, sMx]; done) | (simp only [q111, (show ig104 450 = i67 450 from kg104.fi 450 rfl), E97_0, er98, el99, el100, el101, el102, el103, sMn, sMx]; rfl)))), (fun _ => (show a120 8 = (cPaid (i 64) (i 70) x1 5 (cT0 1 i a)).2.1.set (cPaid (i 64) (i 70) x1 5 (cT0 1 i a)).1.toNatClampNeg x1 from (by first | rfl | (simp only [fa120 8 (by decide), fa117 8 (by decide), fa115 8 (by decide), q109, kg104.fa 8 rfl, (show ig104 450 = i67 450 from kg104.fi 450 rfl), E97_0, E97_1, er98, el99, el100, el101, el102, el103, sMn, sMx]; done) | (simp only [fa120 8 (by decide), fa117 8 (by decide), fa115 8 (by decide), q109, kg104.fa 8 rfl, (show ig104 450 = i67 450 from kg104.fi 450 rfl), E97_0, E97_1, er98, el99, el100, el101, el102, el103, sMn, sMx]; rfl)))), (fun _ => (show a120 9 = (cPaid (i 64) (i 70) x1 5 (cT0 1 i a)).2.2.1.set (cPaid (i 64) (i 70) x1 5 (cT0 1 i a)).1.toNatClampNeg (cBuyV (i (64 * r 0)) (a (r 0 + 1)) (a (r 0 + 2)) (a (r 0 + 3)) (i (64 * r 0 + 3)) ((a 3).getD x1.toNatClampNeg 0) ((a 2).getD x1.toNatClampNeg 0) ((a 4).getD x1.toNatClampNeg 0) (i 73) ((a 6).getD x1.toNatClampNeg 0) (i 72)) from (by first | rfl | (simp only [fa120 9 (by decide), fa117 9 (by decide), fa115 9 (by decide), q110, kg104.fa 9 rfl, (show ig104 450 = i67 450 from kg104.fi 450 rfl), q105, hL67.fa 3 rfl, hL67.fa 4 rfl, (show i67 73 = i 73 from hL67.fi 73 rfl), hL67.fa 6 rfl, (show i67 72 = i 72 from hL67.fi 72 rfl), E97_0, E97_2, er98, el99, el100, el101, el102, el103, sMn, sMx]; done) | (simp only [fa120 9 (by decide), fa117 9 (by decide), fa115 9 (by decide), q110, kg104.fa 9 rfl, (show ig104 450 = i67 450 from kg104.fi 450 rfl), q105, hL67.fa 3 rfl, hL67.fa 4 rfl, (show i67 73 = i 73 from hL67.fi 73 rfl), hL67.fa 6 rfl, (show i67 72 = i 72 from hL67.fi 72 rfl), E97_0, E97_2, er98, el99, el100, el101, el102, el103, sMn, sMx]; rfl)))), (fun _ => (show a120 2 = (cPaid (i 64) (i 70) x1 5 (cT0 1 i a)).2.2.2.1 from (by first | rfl | (simp only [fa120 2 (by decide), fa117 2 (by decide), fa115 2 (by decide), kg107.fa 2 rfl, kg104.fa 2 rfl, E97_3, er98, el99, el100, el101, el102, el103, sMn, sMx]; done) | (simp only [fa120 2 (by decide), fa117 2 (by decide), fa115 2 (by decide), kg107.fa 2 rfl, kg104.fa 2 rfl, E97_3, er98, el99, el100, el101, el102, el103, sMn, sMx]; rfl)))), (fun _ => (show ig107 78 = (cPaid (i 64) (i 70) x1 5 (cT0 1 i a)).2.2.2.2.1 from (by first | rfl | (simp only [(show ig107 78 = ig104 78 from kg107.fi 78 rfl), (show ig104 78 = i67 78 from kg104.fi 78 rfl), E97_4, er98, el99, el100, el101, el102, el103, sMn, sMx]; done) | (simp only [(show ig107 78 = ig104 78 from kg107.fi 78 rfl), (show ig104 78 = i67 78 from kg104.fi 78 rfl), E97_4, er98, el99, el100, el101, el102, el103, sMn, sMx]; rfl)))), (fun _ => (show ig107 79 = (cPaid (i 64) (i 70) x1 5 (cT0 1 i a)).2.2.2.2.2.1 from (by first | rfl | (simp only [(show ig107 79 = ig104 79 from kg107.fi 79 rfl), (show ig104 79 = i67 79 from kg104.fi 79 rfl), E97_5, er98, el99, el100, el101, el102, el103, sMn, sMx]; done) | (simp only [(show ig107 79 = ig104 79 from kg107.fi 79 rfl), (show ig104 79 = i67 79 from kg104.fi 79 rfl), E97_5, er98, el99, el100, el101, el102, el103, sMn, sMx]; rfl)))), (fun _ => (show ig107 80 = (cBuyV (i (64 * r 0)) (a (r 0 + 1)) (a (r 0 + 2)) (a (r 0 + 3)) (i (64 * r 0 + 3)) ((a 3).getD x1.toNatClampNeg 0) ((a 2).getD x1.toNatClampNeg 0) ((a 4).getD x1.toNatClampNeg 0) (i 73) ((a 6).getD x1.toNatClampNeg 0) (i 72)) from (by first | rfl | (simp only [(show ig107 80 = vg104 from kg107.fi 80 rfl), q105, hL67.fa 3 rfl, hL67.fa 4 rfl, (show i67 73 = i 73 from hL67.fi 73 rfl), hL67.fa 6 rfl, (show i67 72 = i 72 from hL67.fi 72 rfl), er98, el99, el100, el101, el102, el103, sMn, sMx]; done) | (simp only [(show ig107 80 = vg104 from kg107.fi 80 rfl), q105, hL67.fa 3 rfl, hL67.fa 4 rfl, (show i67 73 = i 73 from hL67.fi 73 rfl), hL67.fa 6 rfl, (show i67 72 = i 72 from hL67.fi 72 rfl), er98, el99, el100, el101, el102, el103, sMn, sMx]; rfl)))), (fun _ => (show ((ig107 73) + 1) = i 73 + 1 from (by first | rfl | (simp only [(show ig107 73 = ig104 73 from kg107.fi 73 rfl), (show ig104 73 = i67 73 from kg104.fi 73 rfl), (show i67 73 = i 73 from hL67.fi 73 rfl), er98, el99, el100, el101, el102, el103, sMn, sMx]; done) | (simp only [(show ig107 73 = ig104 73 from kg107.fi 73 rfl), (show ig104 73 = i67 73 from kg104.fi 73 rfl), (show i67 73 = i 73 from hL67.fi 73 rfl), er98, el99, el100, el101, el102, el103, sMn, sMx]; rfl)))), (fun _ => (show a120 6 = (a 6).set x1.toNatClampNeg ((a 6).getD x1.toNatClampNeg 0 + 1) from (by first | rfl | (simp only [fa120 6 (by decide), fa117 6 (by decide), ea115, kg107.fa 6 rfl, kg104.fa 6 rfl, hL67.fa 6 rfl, er98, el99, el100, el101, el102, el103, sMn, sMx]; done) | (simp only [fa120 6 (by decide), fa117 6 (by decide), ea115, kg107.fa 6 rfl, kg104.fa 6 rfl, hL67.fa 6 rfl, er98, el99, el100, el101, el102, el103, sMn, sMx]; rfl)))), (fun _ => (show a120 14 = ((cPaid (i 64) (i 70) x1 5 (cT0 1 i a)).2.2.2.2.2.2.1.set (0 : Int32).toNatClampNeg ((cPaid (i 64) (i 70) x1 5 (cT0 1 i a)).2.2.2.2.2.2.1.getD (0 : Int32).toNatClampNeg 0 + 1)).set (1 : Int32).toNatClampNeg (((cPaid (i 64) (i 70) x1 5 (cT0 1 i a)).2.2.2.2.2.2.1.set (0 : Int32).toNatClampNeg ((cPaid (i 64) (i 70) x1 5 (cT0 1 i a)).2.2.2.2.2.2.1.getD (0 : Int32).toNatClampNeg 0 + 1)).getD (1 : Int32).toNatClampNeg 0 + (cPaid (i 64) (i 70) x1 5 (cT0 1 i a)).2.2.2.2.2.1) from (by first | rfl | (simp only [ea120, ea117, (show ig107 79 = ig104 79 from kg107.fi 79 rfl), (show ig104 79 = i67 79 from kg104.fi 79 rfl), E97_5, fa115 14 (by decide), kg107.fa 14 rfl, kg104.fa 14 rfl, E97_6, er98, el99, el100, el101, el102, el103, sMn, sMx]; done) | (simp only [ea120, ea117, (show ig107 79 = ig104 79 from kg107.fi 79 rfl), (show ig104 79 = i67 79 from kg104.fi 79 rfl), E97_5, fa115 14 (by decide), kg107.fa 14 rfl, kg104.fa 14 rfl, E97_6, er98, el99, el100, el101, el102, el103, sMn, sMx]; rfl)))), (fun _ => (show (ig107 79) = (cPaid (i 64) (i 70) x1 5 (cT0 1 i a)).2.2.2.2.2.1 from (by first | rfl | (simp only [(show ig107 79 = ig104 79 from kg107.fi 79 rfl), (show ig104 79 = i67 79 from kg104.fi 79 rfl), E97_5, er98, el99, el100, el101, el102, el103, sMn, sMx]; done) | (simp only [(show ig107 79 = ig104 79 from kg107.fi 79 rfl), (show ig104 79 = i67 79 from kg104.fi 79 rfl), E97_5, er98, el99, el100, el101, el102, el103, sMn, sMx]; rfl)))), (fun _ => (show a120 16 = (cPaid (i 64) (i 70) x1 5 (cT0 1 i a)).2.2.2.2.2.2.2 0 from (by first | rfl | (simp only [fa120 16 (by decide), fa117 16 (by decide), fa115 16 (by decide), kg107.fa 16 rfl, kg104.fa 16 rfl, E97_r0, er98, el99, el100, el101, el102, el103, sMn, sMx]; done) | (simp only [fa120 16 (by decide), fa117 16 (by decide), fa115 16 (by decide), kg107.fa 16 rfl, kg104.fa 16 rfl, E97_r0, er98, el99, el100, el101, el102, el103, sMn, sMx]; rfl)))), (fun _ => (show a120 17 = (cPaid (i 64) (i 70) x1 5 (cT0 1 i a)).2.2.2.2.2.2.2 1 from (by first | rfl | (simp only [fa120 17 (by decide), fa117 17 (by decide), fa115 17 (by decide), kg107.fa 17 rfl, kg104.fa 17 rfl, E97_r1, er98, el99, el100, el101, el102, el103, sMn, sMx]; done) | (simp only [fa120 17 (by decide), fa117 17 (by decide), fa115 17 (by decide), kg107.fa 17 rfl, kg104.fa 17 rfl, E97_r1, er98, el99, el100, el101, el102, el103, sMn, sMx]; rfl)))), (fun _ => (show a120 18 = (cPaid (i 64) (i 70) x1 5 (cT0 1 i a)).2.2.2.2.2.2.2 2 from (by first | rfl | (simp only [fa120 18 (by decide), fa117 18 (by decide), fa115 18 (by decide), kg107.fa 18 rfl, kg104.fa 18 rfl, E97_r2, er98, el99, el100, el101, el102, el103, sMn, sMx]; done) | (simp only [fa120 18 (by decide), fa117 18 (by decide), fa115 18 (by decide), kg107.fa 18 rfl, kg104.fa 18 rfl, E97_r2, er98, el99, el100, el101, el102, el103, sMn, sMx]; rfl)))), (fun _ => (show a120 19 = (cPaid (i 64) (i 70) x1 5 (cT0 1 i a)).2.2.2.2.2.2.2 3 from (by first | rfl | (simp only [fa120 19 (by decide), fa117 19 (by decide), fa115 19 (by decide), kg107.fa 19 rfl, kg104.fa 19 rfl, E97_r3, er98, el99, el100, el101, el102, el103, sMn, sMx]; done) | (simp only [fa120 19 (by decide), fa117 19 (by decide), fa115 19 (by decide), kg107.fa 19 rfl, kg104.fa 19 rfl, E97_r3, er98, el99, el100, el101, el102, el103, sMn, sMx]; rfl)))), (fun _ => (show a120 20 = (cPaid (i 64) (i 70) x1 5 (cT0 1 i a)).2.2.2.2.2.2.2 4 from (by first | rfl | (simp only [fa120 20 (by decide), fa117 20 (by decide), fa115 20 (by decide), kg107.fa 20 rfl, kg104.fa 20 rfl, E97_r4, er98, el99, el100, el101, el102, el103, sMn, sMx]; done) | (simp only [fa120 20 (by decide), fa117 20 (by decide), fa115 20 (by decide), kg107.fa 20 rfl, kg104.fa 20 rfl, E97_r4, er98, el99, el100, el101, el102, el103, sMn, sMx]; rfl)))), (fun _ => (show a120 21 = (cPaid (i 64) (i 70) x1 5 (cT0 1 i a)).2.2.2.2.2.2.2 5 from (by first | rfl | (simp only [fa120 21 (by decide), fa117 21 (by decide), fa115 21 (by decide), kg107.fa 21 rfl, kg104.fa 21 rfl, E97_r5, er98, el99, el100, el101, el102, el103, sMn, sMx]; done) | (simp only [fa120 21 (by decide), fa117 21 (by decide), fa115 21 (by decide), kg107.fa 21 rfl, kg104.fa 21 rfl, E97_r5, er98, el99, el100, el101, el102, el103, sMn, sMx]; rfl)))), (fun _ => (show a120 22 = (cPaid (i 64) (i 70) x1 5 (cT0 1 i a)).2.2.2.2.2.2.2 6 from (by first | rfl | (simp only [fa120 22 (by decide), fa117 22 (by decide), fa115 22 (by decide), kg107.fa 22 rfl, kg104.fa 22 rfl, E97_r6, er98, el99, el100, el101, el102, el103, sMn, sMx]; done) | (simp only [fa120 22 (by decide), fa117 22 (by decide), fa115 22 (by decide), kg107.fa 22 rfl, kg104.fa 22 rfl, E97_r6, er98, el99, el100, el101, el102, el103, sMn, sMx]; rfl)))), (fun _ => (show a120 23 = (cPaid (i 64) (i 70) x1 5 (cT0 1 i a)).2.2.2.2.2.2.2 7 from (by first | rfl | (simp only [fa120 23 (by decide), fa117 23 (by decide), fa115 23 (by decide), kg107.fa 23 rfl, kg104.fa 23 rfl, E97_r7, er98, el99, el100, el101, el102, el103, sMn, sMx]; done) | (simp only [fa120 23 (by decide), fa117 23 (by decide), fa115 23 (by decide), kg107.fa 23 rfl, kg104.fa 23 rfl, E97_r7, er98, el99, el100, el101, el102, el103, sMn, sMx]; rfl)))), (fun h => absurd h (oi187 c66 z5.1 z5.2 koi1)), (fun h => absurd h (oi187 c66 z5.1 z5.2 koi1)), (fun h => absurd h (oi187 c66 z5.1 z5.2 koi1)), (fun h => absurd h (oi187 c66 z5.1 z5.2 koi1)), (fun h => absurd h (oi187 c66 z5.1 z5.2 koi1)), (fun h => absurd h (oi187 c66 z5.1 z5.2 koi1)), (fun h => absurd h (oi187 c66 z5.1 z5.2 koi1)), (fun h => absurd h (oi187 c66 z5.1 z5.2 koi1)), (fun h => absurd h (oi187 c66 z5.1 z5.2 koi1)), (fun h => absurd h (oi187 c66 z5.1 z5.2 koi1)), (fun h => absurd h (oi187 c66 z5.1 z5.2 koi1)), (fun h => absurd h (oi187 c66 z5.1 z5.2 koi1)), (fun h => absurd h (oi187 c66 z5.1 z5.2 koi1)), (fun h => absurd h (oi187 c66 z5.1 z5.2 koi1)), (fun h => absurd h (oi187 c66 z5.1 z5.2 koi1)), (fun h => absurd h (oi187 c66 z5.1 z5.2 koi1)), (fun h => absurd h (oi187 c66 z5.1 z5.2 koi1)), (fun h => absurd h (oi187 c66 z5.1 z5.2 koi1)), (fun h => absurd h (oi187 c66 z5.1 z5.2 koi1))⟩⟩)
              ·
                have c121 : (i67 70).toInt ≤ (i67 450).toInt := kd_ltF c; clear c
                refine fo_goS mi_k29 fz29_71_2_73 [.int x1, .ref 1] rfl ?_
                refine ko_callN mi_k29.1 (pc := 73) (ls := [(3, .int l3_67), (2, .int ((a 2).getD x1.toNatClampNeg 0)), (0, .ref 1), (1, .int x1)]) (st := [.int x1, .ref 1]) (h := ks i67 a67 q67 r67) (i := (.invokevirtual 96, 3, 30, 0, 9, 0, 221)) (mi_k29.2 _ _ (by rfl)) (ft_invS mi_pq30 (by rfl)) (cy := mi_c30) mi_pq30 rfl (ke30_1 hL67.I hL67.R x1 (oi67 fi_64.2 z5.1 z5.2) (oi179 c121 efi67_70 hp0.1)) (by decide) ?_
                intro ig122 ag122 qg122 rg122 kg122 hg122
                have hGg122 := kG_call hL67 kg122 (by decide +kernel)
                obtain ⟨hg122, og122⟩ := hg122
                have z123 : (ig122 450).toInt = ((i67 450).toInt - 1) := hg122
                have s124 : (l3_67 + 1).toInt = l3_67.toInt + (1 : Int32).toInt := kd_add (oi32 p67_0 koi1) (oi180 c94 koi5 koi1)
                first | refine fo_goL mi_k29 fz29_50_2_52 [(3, .int (l3_67 + 1)), (2, .int ((a 2).getD x1.toNatClampNeg 0)), (0, .ref 1), (1, .int x1)] [] (by rfl) ?_ | refine fo_goL mi_k29 fz29_76_2_52 [(3, .int (l3_67 + 1)), (2, .int ((a 2).getD x1.toNatClampNeg 0)), (0, .ref 1), (1, .int x1)] [] (by rfl) ?_
                exact ih67 _ _ _ _ _ hGg122 (oi34 p67_0 s124 koi1) (oi181 p67_1 s124 z123 koi1) (cP_again (T := cT 1 i67 a67) O67_0 (kj_five (oi182 c94 koi5) (oi40 s124 koi1)) (oi183 c121 efi67_70) og122 (by first | rfl | (simp only [(show i67 64 = i 64 from hL67.fi 64 rfl), sMn, sMx]; done) | (simp only [(show i67 64 = i 64 from hL67.fi 64 rfl), sMn, sMx]; rfl))) (kj_meas (oi184 s124 koi1) (oi185 c94 koi5) hm67)
        have fi_450 : ((0 : Int) ≤ (i 450).toInt) ∧ ((i 450).toInt ≤ 5) := hJ3.I.1 450
        exact lp67 _ _ _ _ _ _ (kG_self _ hJ3.I hJ3.R) (oi9 koi0) (oi186 fi_450.2 koi0) (by rw [koi0]; rfl) (Nat.lt_succ_self _)
      ·
        have c125 : ((a 5).getD x1.toNatClampNeg 0).toInt = (1 : Int32).toInt := kd_neF c; clear c
        refine ft_goS mi_k29 1 42 [.int 0] (by rfl) ?_
        exact ft_ret mi_k29 (by rfl) (hP 0 _ _ _ _ hJ3 ⟨trivial, ⟨(fun h => absurd h (oi188 c125 c65 koi1 koi0)), (fun h => absurd h (oi188 c125 c65 koi1 koi0)), (fun h => absurd h (oi188 c125 c65 koi1 koi0)), (fun h => absurd h (oi188 c125 c65 koi1 koi0)), (fun h => absurd h (oi188 c125 c65 koi1 koi0)), (fun h => absurd h (oi188 c125 c65 koi1 koi0)), (fun h => absurd h (oi188 c125 c65 koi1 koi0)), (fun h => absurd h (oi188 c125 c65 koi1 koi0)), (fun h => absurd h (oi188 c125 c65 koi1 koi0)), (fun h => absurd h (oi188 c125 c65 koi1 koi0)), (fun h => absurd h (oi188 c125 c65 koi1 koi0)), (fun h => absurd h (oi188 c125 c65 koi1 koi0)), (fun h => absurd h (oi188 c125 c65 koi1 koi0)), (fun h => absurd h (oi188 c125 c65 koi1 koi0)), (fun h => absurd h (oi188 c125 c65 koi1 koi0)), (fun h => absurd h (oi188 c125 c65 koi1 koi0)), (fun h => absurd h (oi188 c125 c65 koi1 koi0)), (fun h => absurd h (oi188 c125 c65 koi1 koi0)), (fun h => absurd h (oi188 c125 c65 koi1 koi0)), (fun _ => (show i 450 = i 450 from rfl)), (fun _ => (show a 8 = a 8 from rfl)), (fun _ => (show a 9 = a 9 from rfl)), (fun _ => (show a 2 = a 2 from rfl)), (fun _ => (show a 6 = a 6 from rfl)), (fun _ => (show a 14 = a 14 from rfl)), (fun _ => (show (8 : Int32) = 8 from (by first | rfl | (simp only [sMn, sMx]; done) | (simp only [sMn, sMx]; rfl)))), (fun _ => (show (0 : Int32) = 0 from (by first | rfl | (simp only [sMn, sMx]; done) | (simp only [sMn, sMx]; rfl)))), (fun _ => (show (0 : Int32) = 0 from (by first | rfl | (simp only [sMn, sMx]; done) | (simp only [sMn, sMx]; rfl)))), (fun _ => (show i 73 = i 73 from rfl)), (fun _ => (show (0 : Int32) = 0 from (by first | rfl | (simp only [sMn, sMx]; done) | (simp only [sMn, sMx]; rfl)))), (fun _ => (show a 16 = a 16 from rfl)), (fun _ => (show a 17 = a 17 from rfl)), (fun _ => (show a 18 = a 18 from rfl)), (fun _ => (show a 19 = a 19 from rfl)), (fun _ => (show a 20 = a 20 from rfl)), (fun _ => (show a 21 = a 21 from rfl)), (fun _ => (show a 22 = a 22 from rfl)), (fun _ => (show a 23 = a 23 from rfl))⟩⟩)
  ·
    subst eg4
    have z126 : ¬ (((0 : Int) ≤ x1.toInt) ∧ (x1.toInt < (i 64).toInt)) := hg4
    first | refine fo_goS mi_k29 fz29_21_2_42 [.int 0] (by rfl) ?_ | refine ft_goS mi_k29 2 42 [.int 0] (by rfl) ?_
    exact ft_ret mi_k29 (by rfl) (hP 0 _ _ _ _ hJ3 ⟨trivial, ⟨(fun h => absurd h (oi189 z126)), (fun h => absurd h (oi189 z126)), (fun h => absurd h (oi189 z126)), (fun h => absurd h (oi189 z126)), (fun h => absurd h (oi189 z126)), (fun h => absurd h (oi189 z126)), (fun h => absurd h (oi189 z126)), (fun h => absurd h (oi189 z126)), (fun h => absurd h (oi189 z126)), (fun h => absurd h (oi189 z126)), (fun h => absurd h (oi189 z126)), (fun h => absurd h (oi189 z126)), (fun h => absurd h (oi189 z126)), (fun h => absurd h (oi189 z126)), (fun h => absurd h (oi189 z126)), (fun h => absurd h (oi189 z126)), (fun h => absurd h (oi189 z126)), (fun h => absurd h (oi189 z126)), (fun h => absurd h (oi189 z126)), (fun _ => (show i 450 = i 450 from rfl)), (fun _ => (show a 8 = a 8 from rfl)), (fun _ => (show a 9 = a 9 from rfl)), (fun _ => (show a 2 = a 2 from rfl)), (fun _ => (show a 6 = a 6 from rfl)), (fun _ => (show a 14 = a 14 from rfl)), (fun _ => (show (8 : Int32) = 8 from (by first | rfl | (simp only [sMn, sMx]; done) | (simp only [sMn, sMx]; rfl)))), (fun _ => (show (0 : Int32) = 0 from (by first | rfl | (simp only [sMn, sMx]; done) | (simp only [sMn, sMx]; rfl)))), (fun _ => (show (0 : Int32) = 0 from (by first | rfl | (simp only [sMn, sMx]; done) | (simp only [sMn, sMx]; rfl)))), (fun _ => (show i 73 = i 73 from rfl)), (fun _ => (show (0 : Int32) = 0 from (by first | rfl | (simp only [sMn, sMx]; done) | (simp only [sMn, sMx]; rfl)))), (fun _ => (show a 16 = a 16 from rfl)), (fun _ => (show a 17 = a 17 from rfl)), (fun _ => (show a 18 = a 18 from rfl)), (fun _ => (show a 19 = a 19 from rfl)), (fun _ => (show a 20 = a 20 from rfl)), (fun _ => (show a 21 = a 21 from rfl)), (fun _ => (show a 22 = a 22 from rfl)), (fun _ => (show a 23 = a 23 from rfl))⟩⟩)
end
section
/-! AN EVENING, PURELY -/
noncomputable def sZ : Nat → List Int32 → List Int32
  | 0, M => M
  | n + 1, M => (sZ n M).set (9 + n) 0
noncomputable def sEnds (N : List Int32) : List Int32 := sZ 9 (N.set (8 : Int32).toNatClampNeg (sMn 99 (N.getD (8 : Int32).toNatClampNeg 0 + 1)))
theorem sZ_zero {z : Int32} (B : List Int32) (h : z.toInt = 9) : B = sZ (z.toInt - 9).toNat B := by rw [h]; rfl
theorem sZ_step {M M1 B : List Int32} {x x1 : Int32} (h : M = sZ (x.toInt - 9).toNat B) (h9 : 9 ≤ x.toInt) (h1 : x1.toInt = x.toInt + 1) (e : M1 = M.set x.toNatClampNeg 0) : M1 = sZ (x1.toInt - 9).toNat B := by
  have tx := Int32.toNat_toInt x
  rw [show (x1.toInt - 9).toNat = (x.toInt - 9).toNat + 1 by omega]
  unfold sZ
  rw [← h, e, show x.toNatClampNeg = 9 + (x.toInt - 9).toNat by omega]
theorem sZ_end {M B : List Int32} {x : Int32} (h : M = sZ (x.toInt - 9).toNat B) (hx : x.toInt = 18) : M = sZ 9 B := by rw [hx] at h; exact h
noncomputable def kZr (l : List Int32) (x : Int) : Prop := ∀ j : Nat, (j : Int) < x → l.getD j 0 = 0
theorem kZr_zero {l : List Int32} {z : Int32} (h : z.toInt = 0) : kZr l z.toInt := fun j hj => by omega
theorem kZr_step {l l1 : List Int32} {x x1 : Int32} {n : Nat} (h : kZr l x.toInt) (hl : l.length = n) (h0 : 0 ≤ x.toInt) (hn : x.toInt < (n : Int)) (h1 : x1.toInt = x.toInt + 1) (e : l1 = l.set x.toNatClampNeg 0) : kZr l1 x1.toInt := by
  have tx := Int32.toNat_toInt x
  subst e
  intro j hj
  rw [kset_gI (by omega)]
  by_cases c : j = x.toNatClampNeg
  · rw [if_pos c]
  · rw [if_neg c]; exact h j (by omega)
theorem kZr_end {l : List Int32} {x : Int} {n : Nat} (h : kZr l x) (hl : l.length = n) (hx : (n : Int) ≤ x) : l = List.replicate n 0 := by
  refine List.ext_getElem (by rw [hl, List.length_replicate]) (fun j h1 h2 => ?_)
  have := h j (by omega)
  rw [List.getD_eq_getElem?_getD, List.getElem?_eq_getElem h1] at this
  rw [List.getElem_replicate]
  exact this
end
section
theorem koj1 : (1 : Int32).toInt = 1 := by decide
theorem koj0 : (0 : Int32).toInt = 0 := by decide
theorem koj8 : (8 : Int32).toInt = 8 := by decide
theorem koj3 : (3 : Int32).toInt = 3 := by decide
theorem koj9 : (9 : Int32).toInt = 9 := by decide
theorem koj18 : (18 : Int32).toInt = 18 := by decide
theorem koj999 : (999 : Int32).toInt = 999 := by decide
theorem koj4 : (4 : Int32).toInt = 4 := by decide
theorem oj0 {a0 a1 : Int} (h0 : a0 ≤ a1) (h1 : a0 = 8) : ((8 : Nat) : Int) ≤ a1 := by omega
theorem oj1 {a0 : Int} (h0 : a0 = 3) : (0 : Int) ≤ a0 := oz260 h0
theorem oj2 {a0 : Int} (h0 : a0 = 3) : a0 < 5 := oz550 h0
theorem oj3 {a0 : Int} (h0 : (0 : Int) ≤ a0) : (0 : Int) ≤ a0 := oz3 h0
theorem oj4 {a0 a1 : Int} (h0 : a0 < a1) (h1 : a1 = 8) : a0 < 8 := oz936 h0 h1
theorem oj5 {a0 a1 : Int} (h0 : (0 : Int) ≤ a0) (h1 : a1 = 1) : (-2147483648 : Int) ≤ a0 + a1 := oz12 h0 h1
theorem oj6 {a0 a1 a2 : Int} (h0 : a0 < a1) (h1 : a1 = 8) (h2 : a2 = 1) : a0 + a2 ≤ 2147483647 := oz474 h0 h1 h2
theorem oj7 {a0 a1 a2 : Int} (h0 : (0 : Int) ≤ a0) (h1 : a1 = a0 + a2) (h2 : a2 = 1) : (0 : Int) ≤ a1 := oz14 h0 h1 h2
theorem oj8 {a0 a1 : Int} (h0 : a0 < a1) (h1 : a1 = 8) : a0 < ((8 : Nat) : Int) := by omega
theorem oj9 {a0 a1 a2 : Int} (h0 : a0 = a1 + a2) (h1 : a2 = 1) : a0 = a1 + 1 := oz169 h0 h1
theorem oj10 {a0 a1 a2 : Int} (h0 : a0 = a1 + a2) (h1 : a2 = 1) : (8 - a0) < (8 - a1) := oz475 h0 h1
theorem oj11 {a0 a1 : Int} (h0 : a0 < a1) (h1 : a1 = 8) : (1 : Int) ≤ (8 - a0) := oz476 h0 h1
theorem oj12 {a0 : Int} (h0 : a0 = 0) : (0 : Int) ≤ a0 := oz46 h0
theorem oj13 {a0 : Int} (h0 : a0 = 8) : (0 : Int) ≤ a0 := oz85 h0
theorem oj14 {a0 : Int} (h0 : a0 = 8) : a0 < 31 := oz86 h0
theorem oj15 {a0 a1 : Int} (h0 : a0 = 8) : a0 = 18 → (0 : Int) ≤ a1 ∧ a1 ≤ 5 := oz98 h0
theorem oj16 {a0 a1 : Int} (h0 : a0 = 8) : 19 ≤ a0 → a0 ≤ 24 → (0 : Int) ≤ a1 ∧ a1 ≤ 7 := oz99 h0
theorem oj17 {a0 a1 : Int} (h0 : a0 ≤ a1) (h1 : a1 ≤ 18) (h2 : a0 = 18) : a1 = 18 := by omega
theorem oj18 {a0 : Int} (h0 : (9 : Int) ≤ a0) : (0 : Int) ≤ a0 := oz392 h0
theorem oj19 {a0 : Int} (h0 : a0 ≤ 18) : a0 < 31 := by omega
theorem oj20 {a0 a1 a2 : Int} (h0 : a0 < a1) (h1 : a1 = 18) (h2 : a2 = 0) : a0 = 18 → (0 : Int) ≤ a2 ∧ a2 ≤ 5 := oz394 h0 h1 h2
theorem oj21 {a0 a1 : Int} (h0 : a0 ≤ 18) (h1 : a1 = 0) : 19 ≤ a0 → a0 ≤ 24 → (0 : Int) ≤ a1 ∧ a1 ≤ 7 := by omega
theorem oj22 {a0 a1 : Int} (h0 : (9 : Int) ≤ a0) (h1 : a1 = 1) : (-2147483648 : Int) ≤ a0 + a1 := oz396 h0 h1
theorem oj23 {a0 a1 : Int} (h0 : a0 ≤ 18) (h1 : a1 = 1) : a0 + a1 ≤ 2147483647 := by omega
theorem oj24 {a0 a1 a2 a3 : Int} (h0 : a0 < a1) (h1 : (9 : Int) ≤ a0) (h2 : a2 = a0 + a3) (h3 : a1 = 18) (h4 : a3 = 1) : ((9 : Int) ≤ a2) ∧ (a2 ≤ 18) := by omega
theorem oj25 {a0 : Int} (h0 : (9 : Int) ≤ a0) : (9 : Int) ≤ a0 := by omega
theorem oj26 {a0 a1 a2 : Int} (h0 : a0 = a1 + a2) (h1 : a2 = 1) : (18 - a0) < (18 - a1) := oz399 h0 h1
theorem oj27 {a0 a1 : Int} (h0 : a0 < a1) (h1 : a1 = 18) : (1 : Int) ≤ (18 - a0) := oz400 h0 h1
theorem oj28 {a0 : Int} (h0 : a0 = 9) : ((9 : Int) ≤ a0) ∧ (a0 ≤ 18) := by omega
theorem oj35 {a0 a1 a2 a3 a4 : Int} (h0 : a0 = a1) : ¬ (((0 : Int) ≤ a0) ∧ (a0 < a2) ∧ ((0 : Int) ≤ a1) ∧ (a1 < a2) ∧ (a0 ≠ a1) ∧ ((1 : Int) ≤ a3) ∧ (a3 ≤ 999) ∧ (a3 ≤ a4)) := by omega
theorem oj36 {a0 a1 a2 a3 a4 : Int} (h0 : a0 = a1) : ¬ (((0 : Int) ≤ a0) ∧ (a0 < a2) ∧ ((0 : Int) ≤ a1) ∧ (a1 < a2) ∧ (a0 ≠ a1) ∧ ((1 : Int) ≤ a3) ∧ (a3 ≤ 999) ∧ (a4 < a3)) := by omega
theorem oj40 {a0 a1 : Int} (h0 : a0 ≤ 8) (h1 : a1 < a0) : a1 < 8 := oz974 h0 h1
theorem oj41 {a0 a1 : Int} (h0 : a0 ≤ a1) : (-2147483648 : Int) ≤ a1 - a0 := oz551 h0
theorem oj42 {a0 a1 a2 : Int} (h0 : a0 ≤ 2147483647) (h1 : a1 ≤ a2) (h2 : a1 = 1) : a0 - a2 ≤ 2147483647 := oz552 h0 h1 h2
theorem oj43 {a0 : Int} (h0 : a0 = 4) : (0 : Int) ≤ a0 := oz262 h0
theorem oj44 {a0 : Int} (h0 : a0 = 4) : a0 < 5 := oz555 h0
theorem oj45 {a0 a1 a2 a3 a4 a5 a6 : Int} (h0 : a0 ≠ a1) (h1 : a2 ≤ a3) (h2 : (0 : Int) ≤ a0) (h3 : a0 < a4) (h4 : (0 : Int) ≤ a1) (h5 : a1 < a4) (h6 : a5 ≤ a2) (h7 : a2 ≤ a6) (h8 : a5 = 1) (h9 : a6 = 999) : ¬ (¬ (((0 : Int) ≤ a0) ∧ (a0 < a4) ∧ ((0 : Int) ≤ a1) ∧ (a1 < a4) ∧ (a0 ≠ a1) ∧ ((1 : Int) ≤ a2) ∧ (a2 ≤ 999) ∧ (a2 ≤ a3))) := by omega
theorem oj46 {a0 a1 a2 a3 a4 : Int} (h0 : a0 ≤ a1) : ¬ (((0 : Int) ≤ a2) ∧ (a2 < a3) ∧ ((0 : Int) ≤ a4) ∧ (a4 < a3) ∧ (a2 ≠ a4) ∧ ((1 : Int) ≤ a0) ∧ (a0 ≤ 999) ∧ (a1 < a0)) := by omega
theorem oj47 {a0 a1 a2 a3 a4 a5 : Int} (h0 : a0 ≠ a1) (h1 : (0 : Int) ≤ a0) (h2 : a0 < a2) (h3 : (0 : Int) ≤ a1) (h4 : a1 < a2) (h5 : a3 ≤ a4) (h6 : a4 ≤ a5) (h7 : a3 = 1) (h8 : a5 = 999) : ¬ (¬ (((0 : Int) ≤ a0) ∧ (a0 < a2) ∧ ((0 : Int) ≤ a1) ∧ (a1 < a2) ∧ (a0 ≠ a1) ∧ ((1 : Int) ≤ a4) ∧ (a4 ≤ 999))) := by omega
theorem oj48 {a0 a1 a2 a3 a4 : Int} (h0 : a0 < a1) : ¬ (((0 : Int) ≤ a2) ∧ (a2 < a3) ∧ ((0 : Int) ≤ a4) ∧ (a4 < a3) ∧ (a2 ≠ a4) ∧ ((1 : Int) ≤ a1) ∧ (a1 ≤ 999) ∧ (a1 ≤ a0)) := by omega
theorem oj49 {a0 a1 a2 a3 a4 a5 a6 : Int} (h0 : ¬ ((a0 ≤ a1) ∧ (a1 ≤ a2))) (h1 : a0 = 1) (h2 : a2 = 999) : ¬ (((0 : Int) ≤ a3) ∧ (a3 < a4) ∧ ((0 : Int) ≤ a5) ∧ (a5 < a4) ∧ (a3 ≠ a5) ∧ ((1 : Int) ≤ a1) ∧ (a1 ≤ 999) ∧ (a1 ≤ a6)) := by omega
theorem oj50 {a0 a1 a2 a3 a4 a5 a6 : Int} (h0 : ¬ ((a0 ≤ a1) ∧ (a1 ≤ a2))) (h1 : a0 = 1) (h2 : a2 = 999) : ¬ (((0 : Int) ≤ a3) ∧ (a3 < a4) ∧ ((0 : Int) ≤ a5) ∧ (a5 < a4) ∧ (a3 ≠ a5) ∧ ((1 : Int) ≤ a1) ∧ (a1 ≤ 999) ∧ (a6 < a1)) := by omega
theorem oj51 {a0 a1 a2 a3 a4 : Int} (h0 : ¬ (((0 : Int) ≤ a0) ∧ (a0 < a1))) : ¬ (((0 : Int) ≤ a2) ∧ (a2 < a1) ∧ ((0 : Int) ≤ a0) ∧ (a0 < a1) ∧ (a2 ≠ a0) ∧ ((1 : Int) ≤ a3) ∧ (a3 ≤ 999) ∧ (a3 ≤ a4)) := by omega
theorem oj52 {a0 a1 a2 a3 a4 : Int} (h0 : ¬ (((0 : Int) ≤ a0) ∧ (a0 < a1))) : ¬ (((0 : Int) ≤ a2) ∧ (a2 < a1) ∧ ((0 : Int) ≤ a0) ∧ (a0 < a1) ∧ (a2 ≠ a0) ∧ ((1 : Int) ≤ a3) ∧ (a3 ≤ 999) ∧ (a4 < a3)) := by omega
theorem oj53 {a0 a1 a2 a3 a4 : Int} (h0 : ¬ (((0 : Int) ≤ a0) ∧ (a0 < a1))) : ¬ (((0 : Int) ≤ a0) ∧ (a0 < a1) ∧ ((0 : Int) ≤ a2) ∧ (a2 < a1) ∧ (a0 ≠ a2) ∧ ((1 : Int) ≤ a3) ∧ (a3 ≤ 999) ∧ (a3 ≤ a4)) := by omega
theorem oj54 {a0 a1 a2 a3 a4 : Int} (h0 : ¬ (((0 : Int) ≤ a0) ∧ (a0 < a1))) : ¬ (((0 : Int) ≤ a0) ∧ (a0 < a1) ∧ ((0 : Int) ≤ a2) ∧ (a2 < a1) ∧ (a0 ≠ a2) ∧ ((1 : Int) ≤ a3) ∧ (a3 ≤ 999) ∧ (a4 < a3)) := by omega
noncomputable def yw32_1 : kW := ([72, 73], [6, 14], [], [])
noncomputable def yw32_1_L22 : kW := ([], [6], [], [])
set_option maxRecDepth 100000 in
theorem ke32_1 {i : Nat → Int32} {a : Nat → List Int32} {q : Nat → List Int64} {r : Nat → Nat} (hI : kI i a q) (hr : kr r)  : km 1 32 [.ref 1] (ks i a q r) (kVN yw32_1 i a q r (fun i1 a1 q1 r1 => (True) ∧ (i1 72 = sMn 99 (i 72 + 1) ∧ i1 73 = 0 ∧ a1 6 = List.replicate 8 0 ∧ a1 14 = (a 14).set (3 : Int32).toNatClampNeg ((a 14).getD (3 : Int32).toNatClampNeg 0 + 1)))) := by
  have hG := kG_self yw32_1 hI hr
  refine km_ofN (q := (mi_h32, mi_c32)) rfl (by decide) (Nat.le_of_ble_eq_true rfl) ?_
  intro P hP
  have b1 : ((-2147483648 : Int) ≤ (i 72).toInt) ∧ ((i 72).toInt ≤ 2147483647) := kd_bd (i 72)
  refine fo_goL mi_k32 fz32_0_6_9 [(0, .ref 1)] [.int ((i 72) + 1), .int 99, .ref 1] rfl ?_
  have m3 : (((bif decide (((i 72) + 1) < 99) then ((i 72) + 1) else 99).toInt ≤ (99 : Int32).toInt) ∧ ((bif decide (((i 72) + 1) < 99) then ((i 72) + 1) else 99).toInt ≤ ((i 72) + 1).toInt)) ∧ ((bif decide (((i 72) + 1) < 99) then ((i 72) + 1) else 99).toInt = (99 : Int32).toInt ∨ (bif decide (((i 72) + 1) < 99) then ((i 72) + 1) else 99).toInt = ((i 72) + 1).toInt) := kd_min
  refine ft_goS mi_k32 1 12 [.int (bif decide (((i 72) + 1) < 99) then ((i 72) + 1) else 99), .ref 1] (by rfl) ?_
  generalize hm2 : (bif decide (((i 72) + 1) < 99) then ((i 72) + 1) else 99) = m2 at m3 ⊢
  have qm2 := hm2.symm
  have hJ4 := kG_i hG 72 rfl (v := m2) (kd_bd _)
  have hJ5 := kG_i hJ4 73 rfl (v := 0) (kd_bd _)
  first | refine fo_go mi_k32 fz32_12_6_22 [(1, .int 0), (0, .ref 1)] [] (ku (ku i 72 m2) 73 0) a q r (by rfl) ?_ | refine ft_goL mi_k32 6 22 [(1, .int 0), (0, .ref 1)] [] (by rfl) ?_ | refine ft_go mi_k32 6 22 [(1, .int 0), (0, .ref 1)] [] (ku (ku i 72 m2) 73 0) a q r (by rfl) ?_
  have lp6 : ∀ (nz : Nat) (i6 : Nat → Int32) (a6 : Nat → List Int32) (q6 : Nat → List Int64) (r6 : Nat → Nat) (l1_6 : Int32), kG yw32_1_L22 (ku (ku i 72 m2) 73 0) a q r i6 a6 q6 r6 → (0 : Int) ≤ l1_6.toInt → kZr (a6 6) l1_6.toInt → ((8 - l1_6.toInt)).toNat < nz → ko 1 (mi_h32, mi_c32) P (22, [(1, .int l1_6), (0, .ref 1)], [], (0, 0), ks i6 a6 q6 r6) := by
    intro nz
    induction nz with
    | zero =>
      intro _ _ _ _ _ _ _ _ hm
      exact absurd hm (Nat.not_lt_zero _)
    | succ nz ih6 =>
      intro i6 a6 q6 r6 l1_6 hL6 p6_0 O6_0 hm6
      refine ft_goL mi_k32 2 25 [(1, .int l1_6), (0, .ref 1)] [.int 8, .int l1_6] (by rfl) ?_
      refine ft_ifS mi_k32 (decide (8 ≤ l1_6)) 41 28 [] (by rfl) (fun c => ?_) (fun c => ?_)
      ·
        have c7 : (8 : Int32).toInt ≤ l1_6.toInt := kd_le c; clear c
        have hG8 := kG_call hJ5 hL6 (by decide +kernel)
        have qz9 : a6 6 = List.replicate 8 0 := kZr_end O6_0 (hG8.I.2.1 6) (oj0 c7 koj8)
        refine fo_goS mi_k32 fz32_41_4_47 [.int 3, .ref 14, .int 3, .ref 14] rfl ?_
        refine ko_iald3 mi_k32.1 (n := 5) (c := 5) (ax := (0, 0, 0, 0, 0)) (mi_k32.2 _ _ (by rfl)) (by rfl) (ksG14 _ _ _ _) (hG8.I.2.1 14) rfl (oj1 koj3) (oj2 koj3) ?_
        have b10 : ((-2147483648 : Int) ≤ ((a6 14).getD (3 : Int32).toNatClampNeg 0).toInt) ∧ (((a6 14).getD (3 : Int32).toNatClampNeg 0).toInt ≤ 2147483647) := kd_bd ((a6 14).getD (3 : Int32).toNatClampNeg 0)
        refine ft_goS mi_k32 2 50 [.int (((a6 14).getD (3 : Int32).toNatClampNeg 0) + 1), .int 3, .ref 14] (by rfl) ?_
        refine ko_iast3 mi_k32.1 (n := 5) (c := 5) (ax := (0, 0, 0, 0, 0)) (mi_k32.2 _ _ (by rfl)) (by rfl) (ksG14 _ _ _ _) (ksA14 _ _ _ _) (hG8.I.2.1 14) rfl (oj1 koj3) (oj2 koj3) ?_
        intro a11 ea11 fa11
        have hJ11 := kG_a3 hG8 14 rfl ea11 fa11 (kd_bd _)
        exact ft_ret mi_k32 (by rfl) (hP  _ _ _ _ hJ11 ⟨trivial, ⟨(show i6 72 = sMn 99 (i 72 + 1) from (by first | rfl | (simp only [(show i6 72 = m2 from hL6.fi 72 rfl), qm2, sMn, sMx]; done) | (simp only [(show i6 72 = m2 from hL6.fi 72 rfl), qm2, sMn, sMx]; rfl))), (show i6 73 = 0 from (by first | rfl | (simp only [(show i6 73 = (0 : Int32) from hL6.fi 73 rfl), sMn, sMx]; done) | (simp only [(show i6 73 = (0 : Int32) from hL6.fi 73 rfl), sMn, sMx]; rfl))), (show a11 6 = List.replicate 8 0 from (by first | rfl | (simp only [fa11 6 (by decide), qz9, sMn, sMx]; done) | (simp only [fa11 6 (by decide), qz9, sMn, sMx]; rfl))), (show a11 14 = (a 14).set (3 : Int32).toNatClampNeg ((a 14).getD (3 : Int32).toNatClampNeg 0 + 1) from (by first | rfl | (simp only [ea11, hL6.fa 14 rfl, sMn, sMx]; done) | (simp only [ea11, hL6.fa 14 rfl, sMn, sMx]; rfl)))⟩⟩)
      ·
        have c12 : l1_6.toInt < (8 : Int32).toInt := kd_leF c; clear c
        refine fo_goS mi_k32 fz32_28_4_34 [.int 0, .int l1_6, .ref 6] rfl ?_
        refine ko_iast3 mi_k32.1 (n := 8) (c := 8) (ax := (0, 0, 0, 0, 0)) (mi_k32.2 _ _ (by rfl)) (by rfl) (ksG6 _ _ _ _) (ksA6 _ _ _ _) (hL6.I.2.1 6) rfl (oj3 p6_0) (oj4 c12 koj8) ?_
        intro a13 ea13 fa13
        have hJ13 := kG_a3 hL6 6 rfl ea13 fa13 (kd_bd _)
        have s14 : (l1_6 + 1).toInt = l1_6.toInt + (1 : Int32).toInt := kd_add (oj5 p6_0 koj1) (oj6 c12 koj8 koj1)
        first | refine ft_goL mi_k32 2 22 [(1, .int (l1_6 + 1)), (0, .ref 1)] [] (by rfl) ?_
        exact ih6 _ _ _ _ _ hJ13 (oj7 p6_0 s14 koj1) (kZr_step O6_0 (hL6.I.2.1 6) (oj3 p6_0) (oj8 c12 koj8) (oj9 s14 koj1) ea13) (kj_meas (oj10 s14 koj1) (oj11 c12 koj8) hm6)
  exact lp6 _ _ _ _ _ _ (kG_self _ hJ5.I hJ5.R) (oj12 koj0) (kZr_zero koj0) (Nat.lt_succ_self _)
noncomputable def yw103_0 : kW := ([72, 73], [6, 14], [], [])
set_option maxRecDepth 100000 in
theorem ke103_0 {i : Nat → Int32} {a : Nat → List Int32} {q : Nat → List Int64} {r : Nat → Nat} (hI : kI i a q) (hr : kr r)  : km 3 103 [.ref 0] (ks i a q r) (kVI yw103_0 i a q r (fun v i1 a1 q1 r1 => (True) ∧ (i1 72 = sMn 99 (i 72 + 1) ∧ i1 73 = 0 ∧ a1 6 = List.replicate 8 0 ∧ a1 14 = (a 14).set (3 : Int32).toNatClampNeg ((a 14).getD (3 : Int32).toNatClampNeg 0 + 1) ∧ v = sMn 99 (i 72 + 1)))) := by
  have hG := kG_self yw103_0 hI hr
  refine km_ofI (q := (mi_h103, mi_c103)) rfl (by decide) (Nat.le_of_ble_eq_true rfl) ?_
  intro P hP
  refine ft_goL mi_k103 2 4 [(0, .ref 0)] [.ref 1] (by rfl) ?_
  refine ko_callN mi_k103.1 (pc := 4) (ls := [(0, .ref 0)]) (st := [.ref 1]) (h := ks i a q r) (i := (.invokevirtual 258, 3, 32, 0, 9, 0, 283)) (mi_k103.2 _ _ (by rfl)) (ft_invS mi_pq32 (by rfl)) (cy := mi_c32) mi_pq32 rfl (ke32_1 hG.I hG.R ) (by decide) ?_
  intro ig1 ag1 qg1 rg1 kg1 hg1
  have hGg1 := kG_call hG kg1 (by decide +kernel)
  obtain ⟨hg1, og1⟩ := hg1
  have q2 : ig1 72 = sMn 99 (i 72 + 1) := og1.1
  have q3 : ig1 73 = 0 := og1.2.1
  have q4 : ag1 6 = List.replicate 8 0 := og1.2.2.1
  have q5 : ag1 14 = (a 14).set (3 : Int32).toNatClampNeg ((a 14).getD (3 : Int32).toNatClampNeg 0 + 1) := og1.2.2.2
  refine ft_goS mi_k103 3 14 [.int (ig1 72)] (by rfl) ?_
  exact ft_ret mi_k103 (by rfl) (hP (ig1 72) _ _ _ _ hGg1 ⟨trivial, ⟨(show ig1 72 = sMn 99 (i 72 + 1) from (by first | rfl | (simp only [q2, sMn, sMx]; done) | (simp only [q2, sMn, sMx]; rfl))), (show ig1 73 = 0 from (by first | rfl | (simp only [q3, sMn, sMx]; done) | (simp only [q3, sMn, sMx]; rfl))), (show ag1 6 = List.replicate 8 0 from (by first | rfl | (simp only [q4, sMn, sMx]; done) | (simp only [q4, sMn, sMx]; rfl))), (show ag1 14 = (a 14).set (3 : Int32).toNatClampNeg ((a 14).getD (3 : Int32).toNatClampNeg 0 + 1) from (by first | rfl | (simp only [q5, sMn, sMx]; done) | (simp only [q5, sMn, sMx]; rfl))), (show (ig1 72) = sMn 99 (i 72 + 1) from (by first | rfl | (simp only [q2, sMn, sMx]; done) | (simp only [q2, sMn, sMx]; rfl)))⟩⟩)
noncomputable def yw167_116 : kW := ([], [118], [], [])
noncomputable def yw167_116_L24 : kW := ([], [118], [], [])
set_option maxRecDepth 100000 in
theorem ke167_116 {i : Nat → Int32} {a : Nat → List Int32} {q : Nat → List Int64} {r : Nat → Nat} (hI : kI i a q) (hr : kr r)  : km 1 167 [.ref 116] (ks i a q r) (kVN yw167_116 i a q r (fun i1 a1 q1 r1 => (True) ∧ a1 118 = sEnds (a 118))) := by
  have hG := kG_self yw167_116 hI hr
  refine km_ofN (q := (mi_h167, mi_c167)) rfl (by decide) (Nat.le_of_ble_eq_true rfl) ?_
  intro P hP
  refine fo_goL mi_k167 fz167_0_7_14 [(0, .ref 116)] [.int 8, .ref 118, .int 99, .int 8, .ref 118] rfl ?_
  refine ko_iald3 mi_k167.1 (n := 31) (c := 31) (ax := (0, 0, 0, 0, 0)) (mi_k167.2 _ _ (by rfl)) (by rfl) (ksG118 _ _ _ _) (hG.I.2.1 118) rfl (oj13 koj8) (oj14 koj8) ?_
  have b1 : ((-2147483648 : Int) ≤ ((a 118).getD (8 : Int32).toNatClampNeg 0).toInt) ∧ (((a 118).getD (8 : Int32).toNatClampNeg 0).toInt ≤ 2147483647) := kd_bd ((a 118).getD (8 : Int32).toNatClampNeg 0)
  refine ft_goS mi_k167 2 17 [.int (((a 118).getD (8 : Int32).toNatClampNeg 0) + 1), .int 99, .int 8, .ref 118] (by rfl) ?_
  have m3 : (((bif decide ((((a 118).getD (8 : Int32).toNatClampNeg 0) + 1) < 99) then (((a 118).getD (8 : Int32).toNatClampNeg 0) + 1) else 99).toInt ≤ (99 : Int32).toInt) ∧ ((bif decide ((((a 118).getD (8 : Int32).toNatClampNeg 0) + 1) < 99) then (((a 118).getD (8 : Int32).toNatClampNeg 0) + 1) else 99).toInt ≤ (((a 118).getD (8 : Int32).toNatClampNeg 0) + 1).toInt)) ∧ ((bif decide ((((a 118).getD (8 : Int32).toNatClampNeg 0) + 1) < 99) then (((a 118).getD (8 : Int32).toNatClampNeg 0) + 1) else 99).toInt = (99 : Int32).toInt ∨ (bif decide ((((a 118).getD (8 : Int32).toNatClampNeg 0) + 1) < 99) then (((a 118).getD (8 : Int32).toNatClampNeg 0) + 1) else 99).toInt = (((a 118).getD (8 : Int32).toNatClampNeg 0) + 1).toInt) := kd_min
  refine ft_goS mi_k167 1 20 [.int (bif decide ((((a 118).getD (8 : Int32).toNatClampNeg 0) + 1) < 99) then (((a 118).getD (8 : Int32).toNatClampNeg 0) + 1) else 99), .int 8, .ref 118] (by rfl) ?_
  generalize hm2 : (bif decide ((((a 118).getD (8 : Int32).toNatClampNeg 0) + 1) < 99) then (((a 118).getD (8 : Int32).toNatClampNeg 0) + 1) else 99) = m2 at m3 ⊢
  have qm2 := hm2.symm
  refine ko_iast3 mi_k167.1 (n := 31) (c := 31) (ax := (0, 0, 0, 0, 0)) (mi_k167.2 _ _ (by rfl)) (by rfl) (ksG118 _ _ _ _) (ksA118 _ _ _ _) (hG.I.2.1 118) rfl (oj13 koj8) (oj14 koj8) ?_
  intro a4 ea4 fa4
  have hJ4 := kG_a3 hG 118 rfl ea4 fa4 (kE_nset (p := 118) (by decide) (oj13 koj8) (oj15 koj8) (oj16 koj8))
  first | refine fo_goL mi_k167 fz167_21_2_24 [(1, .int 9), (0, .ref 116)] [] (by rfl) ?_ | refine fo_goL mi_k167 fz167_37_2_24 [(1, .int 9), (0, .ref 116)] [] (by rfl) ?_
  have lp5 : ∀ (nz : Nat) (i5 : Nat → Int32) (a5 : Nat → List Int32) (q5 : Nat → List Int64) (r5 : Nat → Nat) (l1_5 : Int32), kG yw167_116_L24 i a4 q r i5 a5 q5 r5 → ((9 : Int) ≤ l1_5.toInt) ∧ (l1_5.toInt ≤ 18) → a5 118 = sZ (l1_5.toInt - 9).toNat (a4 118) → ((18 - l1_5.toInt)).toNat < nz → ko 1 (mi_h167, mi_c167) P (24, [(1, .int l1_5), (0, .ref 116)], [], (0, 0), ks i5 a5 q5 r5) := by
    intro nz
    induction nz with
    | zero =>
      intro _ _ _ _ _ _ _ _ hm
      exact absurd hm (Nat.not_lt_zero _)
    | succ nz ih5 =>
      intro i5 a5 q5 r5 l1_5 hL5 p5_0 O5_0 hm5
      refine ft_goL mi_k167 2 27 [(1, .int l1_5), (0, .ref 116)] [.int 18, .int l1_5] (by rfl) ?_
      refine ft_ifS mi_k167 (decide (18 ≤ l1_5)) 43 30 [] (by rfl) (fun c => ?_) (fun c => ?_)
      ·
        have c6 : (18 : Int32).toInt ≤ l1_5.toInt := kd_le c; clear c
        have hG7 := kG_call hJ4 hL5 (by decide +kernel)
        have qz8 : a5 118 = sZ 9 (a4 118) := sZ_end O5_0 (oj17 c6 p5_0.2 koj18)
        exact ft_ret mi_k167 (by rfl) (hP  _ _ _ _ hG7 ⟨trivial, (show a5 118 = sEnds (a 118) from (by first | rfl | (simp only [qz8, ea4, qm2, sMn, sMx, sEnds]; done) | (simp only [qz8, ea4, qm2, sMn, sMx, sEnds]; rfl)))⟩)
      ·
        have c9 : l1_5.toInt < (18 : Int32).toInt := kd_leF c; clear c
        refine fo_goS mi_k167 fz167_30_4_36 [.int 0, .int l1_5, .ref 118] rfl ?_
        refine ko_iast3 mi_k167.1 (n := 31) (c := 31) (ax := (0, 0, 0, 0, 0)) (mi_k167.2 _ _ (by rfl)) (by rfl) (ksG118 _ _ _ _) (ksA118 _ _ _ _) (hL5.I.2.1 118) rfl (oj18 p5_0.1) (oj19 p5_0.2) ?_
        intro a10 ea10 fa10
        have hJ10 := kG_a3 hL5 118 rfl ea10 fa10 (kE_nset (p := 118) (by decide) (oj18 p5_0.1) (oj20 c9 koj18 koj0) (oj21 p5_0.2 koj0))
        have s11 : (l1_5 + 1).toInt = l1_5.toInt + (1 : Int32).toInt := kd_add (oj22 p5_0.1 koj1) (oj23 p5_0.2 koj1)
        first | refine fo_goL mi_k167 fz167_21_2_24 [(1, .int (l1_5 + 1)), (0, .ref 116)] [] (by rfl) ?_ | refine fo_goL mi_k167 fz167_37_2_24 [(1, .int (l1_5 + 1)), (0, .ref 116)] [] (by rfl) ?_
        exact ih5 _ _ _ _ _ hJ10 (oj24 c9 p5_0.1 s11 koj18 koj1) (sZ_step O5_0 (oj25 p5_0.1) (oj9 s11 koj1) ea10) (kj_meas (oj26 s11 koj1) (oj27 c9 koj18) hm5)
  exact lp5 _ _ _ _ _ _ (kG_self _ hJ4.I hJ4.R) (oj28 koj9) (sZ_zero _ koj9) (Nat.lt_succ_self _)
noncomputable def yw203_116 : kW := ([], [118, 130], [], [])
set_option maxRecDepth 100000 in
theorem ke203_116 {i : Nat → Int32} {a : Nat → List Int32} {q : Nat → List Int64} {r : Nat → Nat} (hI : kI i a q) (hr : kr r)  : km 3 203 [.ref 116] (ks i a q r) (kVI yw203_116 i a q r (fun v i1 a1 q1 r1 => (True) ∧ (a1 118 = sEnds (a 118) ∧ a1 130 = (a 130).set (3 : Int32).toNatClampNeg ((a 130).getD (3 : Int32).toNatClampNeg 0 + 1) ∧ v = (sEnds (a 118)).getD (8 : Int32).toNatClampNeg 0))) := by
  have hG := kG_self yw203_116 hI hr
  refine km_ofI (q := (mi_h203, mi_c203)) rfl (by decide) (Nat.le_of_ble_eq_true rfl) ?_
  intro P hP
  refine ft_goL mi_k203 1 1 [(0, .ref 116)] [.ref 116] (by rfl) ?_
  refine ko_callN mi_k203.1 (pc := 1) (ls := [(0, .ref 116)]) (st := [.ref 116]) (h := ks i a q r) (i := (.invokevirtual 282, 3, 167, 0, 9, 0, 426)) (mi_k203.2 _ _ (by rfl)) (ft_invS mi_pq167 (by rfl)) (cy := mi_c167) mi_pq167 rfl (ke167_116 hG.I hG.R ) (by decide) ?_
  intro ig1 ag1 qg1 rg1 kg1 hg1
  have hGg1 := kG_call hG kg1 (by decide +kernel)
  obtain ⟨hg1, og1⟩ := hg1
  have q2 : ag1 118 = sEnds (a 118) := og1
  refine ft_goS mi_k203 4 10 [.int 3, .ref 130, .int 3, .ref 130] (by rfl) ?_
  refine ko_iald3 mi_k203.1 (n := 5) (c := 5) (ax := (0, 0, 0, 0, 0)) (mi_k203.2 _ _ (by rfl)) (by rfl) (ksG130 _ _ _ _) (hGg1.I.2.1 130) rfl (oj1 koj3) (oj2 koj3) ?_
  have b3 : ((-2147483648 : Int) ≤ ((ag1 130).getD (3 : Int32).toNatClampNeg 0).toInt) ∧ (((ag1 130).getD (3 : Int32).toNatClampNeg 0).toInt ≤ 2147483647) := kd_bd ((ag1 130).getD (3 : Int32).toNatClampNeg 0)
  refine ft_goS mi_k203 2 13 [.int (((ag1 130).getD (3 : Int32).toNatClampNeg 0) + 1), .int 3, .ref 130] (by rfl) ?_
  refine ko_iast3 mi_k203.1 (n := 5) (c := 5) (ax := (0, 0, 0, 0, 0)) (mi_k203.2 _ _ (by rfl)) (by rfl) (ksG130 _ _ _ _) (ksA130 _ _ _ _) (hGg1.I.2.1 130) rfl (oj1 koj3) (oj2 koj3) ?_
  intro a4 ea4 fa4
  have hJ4 := kG_a3 hGg1 130 rfl ea4 fa4 (kd_bd _)
  refine ft_goS mi_k203 3 20 [.int 8, .ref 118] (by rfl) ?_
  refine ko_iald3 mi_k203.1 (n := 31) (c := 31) (ax := (0, 0, 0, 0, 0)) (mi_k203.2 _ _ (by rfl)) (by rfl) (ksG118 _ _ _ _) (hJ4.I.2.1 118) rfl (oj13 koj8) (oj14 koj8) ?_
  have u5 : ((a4 118).getD (8 : Int32).toNatClampNeg 0).toInt = ((ag1 118).getD (8 : Int32).toNatClampNeg 0).toInt := congrArg (fun z : List Int32 => (z.getD (8 : Int32).toNatClampNeg 0).toInt) (fa4 118 (by decide))
  exact ft_ret mi_k203 (by rfl) (hP ((a4 118).getD (8 : Int32).toNatClampNeg 0) _ _ _ _ hJ4 ⟨trivial, ⟨(show a4 118 = sEnds (a 118) from (by first | rfl | (simp only [fa4 118 (by decide), q2, sMn, sMx]; done) | (simp only [fa4 118 (by decide), q2, sMn, sMx]; rfl))), (show a4 130 = (a 130).set (3 : Int32).toNatClampNeg ((a 130).getD (3 : Int32).toNatClampNeg 0 + 1) from (by first | rfl | (simp only [ea4, kg1.fa 130 rfl, sMn, sMx]; done) | (simp only [ea4, kg1.fa 130 rfl, sMn, sMx]; rfl))), (show ((a4 118).getD (8 : Int32).toNatClampNeg 0) = (sEnds (a 118)).getD (8 : Int32).toNatClampNeg 0 from (by first | rfl | (simp only [fa4 118 (by decide), q2, sMn, sMx]; done) | (simp only [fa4 118 (by decide), q2, sMn, sMx]; rfl)))⟩⟩)
noncomputable def yw104_0 : kW := ([], [2, 14], [], [])
set_option maxRecDepth 100000 in
theorem ke104_0 {i : Nat → Int32} {a : Nat → List Int32} {q : Nat → List Int64} {r : Nat → Nat} (hI : kI i a q) (hr : kr r) (x1 : Int32) (x2 : Int32) (x3 : Int32) : km 5 104 [.ref 0, .int x1, .int x2, .int x3] (ks i a q r) (kVI yw104_0 i a q r (fun v i1 a1 q1 r1 => (True) ∧ ((((0 : Int) ≤ x1.toInt) ∧ (x1.toInt < (i 64).toInt) ∧ ((0 : Int) ≤ x2.toInt) ∧ (x2.toInt < (i 64).toInt) ∧ (x1.toInt ≠ x2.toInt) ∧ ((1 : Int) ≤ x3.toInt) ∧ (x3.toInt ≤ 999) ∧ (x3.toInt ≤ ((a 2).getD x1.toNatClampNeg 0).toInt) → a1 2 = (((a 2).set x1.toNatClampNeg ((a 2).getD x1.toNatClampNeg 0 - x3)).set x2.toNatClampNeg (sMn 999 (((a 2).set x1.toNatClampNeg ((a 2).getD x1.toNatClampNeg 0 - x3)).getD x2.toNatClampNeg 0 + x3)))) ∧ (((0 : Int) ≤ x1.toInt) ∧ (x1.toInt < (i 64).toInt) ∧ ((0 : Int) ≤ x2.toInt) ∧ (x2.toInt < (i 64).toInt) ∧ (x1.toInt ≠ x2.toInt) ∧ ((1 : Int) ≤ x3.toInt) ∧ (x3.toInt ≤ 999) ∧ (x3.toInt ≤ ((a 2).getD x1.toNatClampNeg 0).toInt) → a1 14 = (a 14).set (4 : Int32).toNatClampNeg ((a 14).getD (4 : Int32).toNatClampNeg 0 + x3)) ∧ (((0 : Int) ≤ x1.toInt) ∧ (x1.toInt < (i 64).toInt) ∧ ((0 : Int) ≤ x2.toInt) ∧ (x2.toInt < (i 64).toInt) ∧ (x1.toInt ≠ x2.toInt) ∧ ((1 : Int) ≤ x3.toInt) ∧ (x3.toInt ≤ 999) ∧ (x3.toInt ≤ ((a 2).getD x1.toNatClampNeg 0).toInt) → v = (((a 2).set x1.toNatClampNeg ((a 2).getD x1.toNatClampNeg 0 - x3)).set x2.toNatClampNeg (sMn 999 (((a 2).set x1.toNatClampNeg ((a 2).getD x1.toNatClampNeg 0 - x3)).getD x2.toNatClampNeg 0 + x3))).getD x1.toNatClampNeg 0) ∧ (¬ (((0 : Int) ≤ x1.toInt) ∧ (x1.toInt < (i 64).toInt) ∧ ((0 : Int) ≤ x2.toInt) ∧ (x2.toInt < (i 64).toInt) ∧ (x1.toInt ≠ x2.toInt) ∧ ((1 : Int) ≤ x3.toInt) ∧ (x3.toInt ≤ 999) ∧ (x3.toInt ≤ ((a 2).getD x1.toNatClampNeg 0).toInt)) → a1 2 = a 2) ∧ (¬ (((0 : Int) ≤ x1.toInt) ∧ (x1.toInt < (i 64).toInt) ∧ ((0 : Int) ≤ x2.toInt) ∧ (x2.toInt < (i 64).toInt) ∧ (x1.toInt ≠ x2.toInt) ∧ ((1 : Int) ≤ x3.toInt) ∧ (x3.toInt ≤ 999) ∧ (x3.toInt ≤ ((a 2).getD x1.toNatClampNeg 0).toInt)) → a1 14 = a 14) ∧ (((0 : Int) ≤ x1.toInt) ∧ (x1.toInt < (i 64).toInt) ∧ ((0 : Int) ≤ x2.toInt) ∧ (x2.toInt < (i 64).toInt) ∧ (x1.toInt ≠ x2.toInt) ∧ ((1 : Int) ≤ x3.toInt) ∧ (x3.toInt ≤ 999) ∧ (((a 2).getD x1.toNatClampNeg 0).toInt < x3.toInt) → v = -5) ∧ (¬ (((0 : Int) ≤ x1.toInt) ∧ (x1.toInt < (i 64).toInt) ∧ ((0 : Int) ≤ x2.toInt) ∧ (x2.toInt < (i 64).toInt) ∧ (x1.toInt ≠ x2.toInt) ∧ ((1 : Int) ≤ x3.toInt) ∧ (x3.toInt ≤ 999)) → v = -1)))) := by
  have hG := kG_self yw104_0 hI hr
  refine km_ofI (q := (mi_h104, mi_c104)) rfl (by decide) (Nat.le_of_ble_eq_true rfl) ?_
  intro P hP
  refine ft_goL mi_k104 2 2 [(0, .ref 0), (1, .int x1), (2, .int x2), (3, .int x3)] [.int x1, .ref 0] (by rfl) ?_
  refine ko_callPI mi_k104.1 (pc := 2) (ls := [(0, .ref 0), (1, .int x1), (2, .int x2), (3, .int x3)]) (st := [.int x1, .ref 0]) (h := ks i a q r) (i := (.invokevirtual 141, 3, 123, 0, 9, 0, 162)) (mi_k104.2 _ _ (by rfl)) (ft_invS mi_pq123 (by rfl)) (cy := mi_c123) mi_pq123 rfl (kc123_0 hG.I hG.R x1) (by decide) ?_
  intro vg1 hg1
  rcases hg1 with ⟨eg1, hg1⟩ | ⟨eg1, hg1⟩
  ·
    subst eg1
    have fi_64 : ((0 : Int) ≤ (i 64).toInt) ∧ ((i 64).toInt ≤ 8) := hG.I.1 64
    have z2 : ((0 : Int) ≤ x1.toInt) ∧ (x1.toInt < (i 64).toInt) := hg1
    refine ft_goS mi_k104 3 10 [.int x2, .ref 0] (by rfl) ?_
    refine ko_callPI mi_k104.1 (pc := 10) (ls := [(0, .ref 0), (1, .int x1), (2, .int x2), (3, .int x3)]) (st := [.int x2, .ref 0]) (h := ks i a q r) (i := (.invokevirtual 141, 3, 123, 0, 9, 0, 162)) (mi_k104.2 _ _ (by rfl)) (ft_invS mi_pq123 (by rfl)) (cy := mi_c123) mi_pq123 rfl (kc123_0 hG.I hG.R x2) (by decide) ?_
    intro vg3 hg3
    rcases hg3 with ⟨eg3, hg3⟩ | ⟨eg3, hg3⟩
    ·
      subst eg3
      have z4 : ((0 : Int) ≤ x2.toInt) ∧ (x2.toInt < (i 64).toInt) := hg3
      refine ft_goS mi_k104 3 18 [.int x2, .int x1] (by rfl) ?_
      refine ft_ifS mi_k104 (x1 == x2) 32 21 [] (by rfl) (fun c => ?_) (fun c => ?_)
      ·
        have c5 : x1.toInt = x2.toInt := kd_eq c; clear c
        refine ft_goS mi_k104 1 33 [.int (-1)] (by rfl) ?_
        exact ft_ret mi_k104 (by rfl) (hP (-1) _ _ _ _ hG ⟨trivial, ⟨(fun h => absurd h (oj35 c5)), (fun h => absurd h (oj35 c5)), (fun h => absurd h (oj35 c5)), (fun _ => (show a 2 = a 2 from rfl)), (fun _ => (show a 14 = a 14 from rfl)), (fun h => absurd h (oj36 c5)), (fun _ => (show ((-1) : Int32) = -1 from (by first | rfl | (simp only [sMn, sMx]; done) | (simp only [sMn, sMx]; rfl))))⟩⟩)
      ·
        have c6 : x1.toInt ≠ x2.toInt := kd_eqF c; clear c
        refine ft_goS mi_k104 3 26 [.int 999, .int 1, .int x3] (by rfl) ?_
        refine ko_callPI mi_k104.1 (pc := 26) (ls := [(0, .ref 0), (1, .int x1), (2, .int x2), (3, .int x3)]) (st := [.int 999, .int 1, .int x3]) (h := ks i a q r) (i := (.invokestatic 74, 3, 120, 0, 9, 0, 152)) (mi_k104.2 _ _ (by rfl)) (ft_invS mi_pq120 (by rfl)) (cy := mi_c120) mi_pq120 rfl (kc120 hG.I hG.R x3 1 999) (by decide) ?_
        intro vg7 hg7
        rcases hg7 with ⟨eg7, hg7⟩ | ⟨eg7, hg7⟩
        ·
          subst eg7
          have z8 : ((1 : Int32).toInt ≤ x3.toInt) ∧ (x3.toInt ≤ (999 : Int32).toInt) := hg7
          refine fo_goS mi_k104 fz104_29_5_42 [.int x1, .ref 2] rfl ?_
          refine ko_iald3 mi_k104.1 (n := 8) (c := 8) (ax := (0, 0, 0, 0, 0)) (mi_k104.2 _ _ (by rfl)) (by rfl) (ksG2 _ _ _ _) (hG.I.2.1 2) rfl (oj3 z2.1) (oj40 fi_64.2 z2.2) ?_
          refine ft_goS mi_k104 1 44 [.int x3, .int ((a 2).getD x1.toNatClampNeg 0)] (by rfl) ?_
          refine ft_ifS mi_k104 (decide (x3 ≤ ((a 2).getD x1.toNatClampNeg 0))) 50 47 [] (by rfl) (fun c => ?_) (fun c => ?_)
          ·
            have c9 : x3.toInt ≤ ((a 2).getD x1.toNatClampNeg 0).toInt := kd_le c; clear c
            refine fo_goS mi_k104 fz104_50_5_59 [.int x1, .ref 2, .int x1, .ref 2] rfl ?_
            refine ko_iald3 mi_k104.1 (n := 8) (c := 8) (ax := (0, 0, 0, 0, 0)) (mi_k104.2 _ _ (by rfl)) (by rfl) (ksG2 _ _ _ _) (hG.I.2.1 2) rfl (oj3 z2.1) (oj40 fi_64.2 z2.2) ?_
            have b10 : ((-2147483648 : Int) ≤ ((a 2).getD x1.toNatClampNeg 0).toInt) ∧ (((a 2).getD x1.toNatClampNeg 0).toInt ≤ 2147483647) := kd_bd ((a 2).getD x1.toNatClampNeg 0)
            have b11 : ((-2147483648 : Int) ≤ x3.toInt) ∧ (x3.toInt ≤ 2147483647) := kd_bd x3
            have s12 : (((a 2).getD x1.toNatClampNeg 0) - x3).toInt = ((a 2).getD x1.toNatClampNeg 0).toInt - x3.toInt := kd_sub (oj41 c9) (oj42 b10.2 z8.1 koj1)
            refine ft_goS mi_k104 2 62 [.int (((a 2).getD x1.toNatClampNeg 0) - x3), .int x1, .ref 2] (by rfl) ?_
            refine ko_iast3 mi_k104.1 (n := 8) (c := 8) (ax := (0, 0, 0, 0, 0)) (mi_k104.2 _ _ (by rfl)) (by rfl) (ksG2 _ _ _ _) (ksA2 _ _ _ _) (hG.I.2.1 2) rfl (oj3 z2.1) (oj40 fi_64.2 z2.2) ?_
            intro a13 ea13 fa13
            have hJ13 := kG_a3 hG 2 rfl ea13 fa13 (kd_bd _)
            refine fo_goS mi_k104 fz104_63_9_82 [.int x2, .ref 2, .int 999, .int x2, .ref 2] rfl ?_
            refine ko_iald3 mi_k104.1 (n := 8) (c := 8) (ax := (0, 0, 0, 0, 0)) (mi_k104.2 _ _ (by rfl)) (by rfl) (ksG2 _ _ _ _) (hJ13.I.2.1 2) rfl (oj3 z4.1) (oj40 fi_64.2 z4.2) ?_
            have b14 : ((-2147483648 : Int) ≤ ((a13 2).getD x2.toNatClampNeg 0).toInt) ∧ (((a13 2).getD x2.toNatClampNeg 0).toInt ≤ 2147483647) := kd_bd ((a13 2).getD x2.toNatClampNeg 0)
            refine ft_goS mi_k104 2 85 [.int (((a13 2).getD x2.toNatClampNeg 0) + x3), .int 999, .int x2, .ref 2] (by rfl) ?_
            have m16 : (((bif decide ((((a13 2).getD x2.toNatClampNeg 0) + x3) < 999) then (((a13 2).getD x2.toNatClampNeg 0) + x3) else 999).toInt ≤ (999 : Int32).toInt) ∧ ((bif decide ((((a13 2).getD x2.toNatClampNeg 0) + x3) < 999) then (((a13 2).getD x2.toNatClampNeg 0) + x3) else 999).toInt ≤ (((a13 2).getD x2.toNatClampNeg 0) + x3).toInt)) ∧ ((bif decide ((((a13 2).getD x2.toNatClampNeg 0) + x3) < 999) then (((a13 2).getD x2.toNatClampNeg 0) + x3) else 999).toInt = (999 : Int32).toInt ∨ (bif decide ((((a13 2).getD x2.toNatClampNeg 0) + x3) < 999) then (((a13 2).getD x2.toNatClampNeg 0) + x3) else 999).toInt = (((a13 2).getD x2.toNatClampNeg 0) + x3).toInt) := kd_min
            refine ft_goS mi_k104 1 88 [.int (bif decide ((((a13 2).getD x2.toNatClampNeg 0) + x3) < 999) then (((a13 2).getD x2.toNatClampNeg 0) + x3) else 999), .int x2, .ref 2] (by rfl) ?_
            generalize hm15 : (bif decide ((((a13 2).getD x2.toNatClampNeg 0) + x3) < 999) then (((a13 2).getD x2.toNatClampNeg 0) + x3) else 999) = m15 at m16 ⊢
            have qm15 := hm15.symm
            refine ko_iast3 mi_k104.1 (n := 8) (c := 8) (ax := (0, 0, 0, 0, 0)) (mi_k104.2 _ _ (by rfl)) (by rfl) (ksG2 _ _ _ _) (ksA2 _ _ _ _) (hJ13.I.2.1 2) rfl (oj3 z4.1) (oj40 fi_64.2 z4.2) ?_
            intro a17 ea17 fa17
            have hJ17 := kG_a3 hJ13 2 rfl ea17 fa17 (kd_bd _)
            refine fo_goS mi_k104 fz104_89_5_98 [.int 4, .ref 14, .int 4, .ref 14] rfl ?_
            refine ko_iald3 mi_k104.1 (n := 5) (c := 5) (ax := (0, 0, 0, 0, 0)) (mi_k104.2 _ _ (by rfl)) (by rfl) (ksG14 _ _ _ _) (hJ17.I.2.1 14) rfl (oj43 koj4) (oj44 koj4) ?_
            have b18 : ((-2147483648 : Int) ≤ ((a17 14).getD (4 : Int32).toNatClampNeg 0).toInt) ∧ (((a17 14).getD (4 : Int32).toNatClampNeg 0).toInt ≤ 2147483647) := kd_bd ((a17 14).getD (4 : Int32).toNatClampNeg 0)
            refine ft_goS mi_k104 2 101 [.int (((a17 14).getD (4 : Int32).toNatClampNeg 0) + x3), .int 4, .ref 14] (by rfl) ?_
            refine ko_iast3 mi_k104.1 (n := 5) (c := 5) (ax := (0, 0, 0, 0, 0)) (mi_k104.2 _ _ (by rfl)) (by rfl) (ksG14 _ _ _ _) (ksA14 _ _ _ _) (hJ17.I.2.1 14) rfl (oj43 koj4) (oj44 koj4) ?_
            intro a19 ea19 fa19
            have hJ19 := kG_a3 hJ17 14 rfl ea19 fa19 (kd_bd _)
            refine ft_goS mi_k104 4 110 [.int x1, .ref 2] (by rfl) ?_
            refine ko_iald3 mi_k104.1 (n := 8) (c := 8) (ax := (0, 0, 0, 0, 0)) (mi_k104.2 _ _ (by rfl)) (by rfl) (ksG2 _ _ _ _) (hJ19.I.2.1 2) rfl (oj3 z2.1) (oj40 fi_64.2 z2.2) ?_
            exact ft_ret mi_k104 (by rfl) (hP ((a19 2).getD x1.toNatClampNeg 0) _ _ _ _ hJ19 ⟨trivial, ⟨(fun _ => (show a19 2 = (((a 2).set x1.toNatClampNeg ((a 2).getD x1.toNatClampNeg 0 - x3)).set x2.toNatClampNeg (sMn 999 (((a 2).set x1.toNatClampNeg ((a 2).getD x1.toNatClampNeg 0 - x3)).getD x2.toNatClampNeg 0 + x3))) from (by first | rfl | (simp only [fa19 2 (by decide), ea17, ea13, qm15, sMn, sMx]; done) | (simp only [fa19 2 (by decide), ea17, ea13, qm15, sMn, sMx]; rfl)))), (fun _ => (show a19 14 = (a 14).set (4 : Int32).toNatClampNeg ((a 14).getD (4 : Int32).toNatClampNeg 0 + x3) from (by first | rfl | (simp only [ea19, fa17 14 (by decide), fa13 14 (by decide), sMn, sMx]; done) | (simp only [ea19, fa17 14 (by decide), fa13 14 (by decide), sMn, sMx]; rfl)))), (fun _ => (show ((a19 2).getD x1.toNatClampNeg 0) = (((a 2).set x1.toNatClampNeg ((a 2).getD x1.toNatClampNeg 0 - x3)).set x2.toNatClampNeg (sMn 999 (((a 2).set x1.toNatClampNeg ((a 2).getD x1.toNatClampNeg 0 - x3)).getD x2.toNatClampNeg 0 + x3))).getD x1.toNatClampNeg 0 from (by first | rfl | (simp only [fa19 2 (by decide), ea17, ea13, qm15, sMn, sMx]; done) | (simp only [fa19 2 (by decide), ea17, ea13, qm15, sMn, sMx]; rfl)))), (fun h => absurd h (oj45 c6 c9 z2.1 z2.2 z4.1 z4.2 z8.1 z8.2 koj1 koj999)), (fun h => absurd h (oj45 c6 c9 z2.1 z2.2 z4.1 z4.2 z8.1 z8.2 koj1 koj999)), (fun h => absurd h (oj46 c9)), (fun h => absurd h (oj47 c6 z2.1 z2.2 z4.1 z4.2 z8.1 z8.2 koj1 koj999))⟩⟩)
          ·
            have c20 : ((a 2).getD x1.toNatClampNeg 0).toInt < x3.toInt := kd_leF c; clear c
            refine ft_goS mi_k104 1 49 [.int (-5)] (by rfl) ?_
            exact ft_ret mi_k104 (by rfl) (hP (-5) _ _ _ _ hG ⟨trivial, ⟨(fun h => absurd h (oj48 c20)), (fun h => absurd h (oj48 c20)), (fun h => absurd h (oj48 c20)), (fun _ => (show a 2 = a 2 from rfl)), (fun _ => (show a 14 = a 14 from rfl)), (fun _ => (show ((-5) : Int32) = -5 from (by first | rfl | (simp only [sMn, sMx]; done) | (simp only [sMn, sMx]; rfl)))), (fun h => absurd h (oj47 c6 z2.1 z2.2 z4.1 z4.2 z8.1 z8.2 koj1 koj999))⟩⟩)
        ·
          subst eg7
          have z21 : ¬ (((1 : Int32).toInt ≤ x3.toInt) ∧ (x3.toInt ≤ (999 : Int32).toInt)) := hg7
          first | refine fo_goS mi_k104 fz104_5_2_33 [.int (-1)] (by rfl) ?_ | refine fo_goS mi_k104 fz104_13_2_33 [.int (-1)] (by rfl) ?_ | refine fo_goS mi_k104 fz104_29_2_33 [.int (-1)] (by rfl) ?_ | refine ft_goS mi_k104 2 33 [.int (-1)] (by rfl) ?_
          exact ft_ret mi_k104 (by rfl) (hP (-1) _ _ _ _ hG ⟨trivial, ⟨(fun h => absurd h (oj49 z21 koj1 koj999)), (fun h => absurd h (oj49 z21 koj1 koj999)), (fun h => absurd h (oj49 z21 koj1 koj999)), (fun _ => (show a 2 = a 2 from rfl)), (fun _ => (show a 14 = a 14 from rfl)), (fun h => absurd h (oj50 z21 koj1 koj999)), (fun _ => (show ((-1) : Int32) = -1 from (by first | rfl | (simp only [sMn, sMx]; done) | (simp only [sMn, sMx]; rfl))))⟩⟩)
    ·
      subst eg3
      have z22 : ¬ (((0 : Int) ≤ x2.toInt) ∧ (x2.toInt < (i 64).toInt)) := hg3
      first | refine fo_goS mi_k104 fz104_5_2_33 [.int (-1)] (by rfl) ?_ | refine fo_goS mi_k104 fz104_13_2_33 [.int (-1)] (by rfl) ?_ | refine fo_goS mi_k104 fz104_29_2_33 [.int (-1)] (by rfl) ?_ | refine ft_goS mi_k104 2 33 [.int (-1)] (by rfl) ?_
      exact ft_ret mi_k104 (by rfl) (hP (-1) _ _ _ _ hG ⟨trivial, ⟨(fun h => absurd h (oj51 z22)), (fun h => absurd h (oj51 z22)), (fun h => absurd h (oj51 z22)), (fun _ => (show a 2 = a 2 from rfl)), (fun _ => (show a 14 = a 14 from rfl)), (fun h => absurd h (oj52 z22)), (fun _ => (show ((-1) : Int32) = -1 from (by first | rfl | (simp only [sMn, sMx]; done) | (simp only [sMn, sMx]; rfl))))⟩⟩)
  ·
    subst eg1
    have z23 : ¬ (((0 : Int) ≤ x1.toInt) ∧ (x1.toInt < (i 64).toInt)) := hg1
    first | refine fo_goS mi_k104 fz104_5_2_33 [.int (-1)] (by rfl) ?_ | refine fo_goS mi_k104 fz104_13_2_33 [.int (-1)] (by rfl) ?_ | refine fo_goS mi_k104 fz104_29_2_33 [.int (-1)] (by rfl) ?_ | refine ft_goS mi_k104 2 33 [.int (-1)] (by rfl) ?_
    exact ft_ret mi_k104 (by rfl) (hP (-1) _ _ _ _ hG ⟨trivial, ⟨(fun h => absurd h (oj53 z23)), (fun h => absurd h (oj53 z23)), (fun h => absurd h (oj53 z23)), (fun _ => (show a 2 = a 2 from rfl)), (fun _ => (show a 14 = a 14 from rfl)), (fun h => absurd h (oj54 z23)), (fun _ => (show ((-1) : Int32) = -1 from (by first | rfl | (simp only [sMn, sMx]; done) | (simp only [sMn, sMx]; rfl))))⟩⟩)
end
section
theorem kok1 : (1 : Int32).toInt = 1 := by decide
theorem kok999 : (999 : Int32).toInt = 999 := by decide
theorem kok4 : (4 : Int32).toInt = 4 := by decide
theorem ok7 {a0 a1 a2 a3 a4 : Int} (h0 : a0 = a1) : ¬ (((0 : Int) ≤ a0) ∧ (a0 < a2) ∧ ((0 : Int) ≤ a1) ∧ (a1 < a2) ∧ (a0 ≠ a1) ∧ ((1 : Int) ≤ a3) ∧ (a3 ≤ 999) ∧ (a3 ≤ a4)) := oj35 h0
theorem ok8 {a0 a1 a2 a3 a4 : Int} (h0 : a0 = a1) : ¬ (((0 : Int) ≤ a0) ∧ (a0 < a2) ∧ ((0 : Int) ≤ a1) ∧ (a1 < a2) ∧ (a0 ≠ a1) ∧ ((1 : Int) ≤ a3) ∧ (a3 ≤ 999) ∧ (a4 < a3)) := oj36 h0
theorem ok9 {a0 : Int} (h0 : (0 : Int) ≤ a0) : (0 : Int) ≤ a0 := oz3 h0
theorem ok10 {a0 a1 : Int} (h0 : a0 ≤ 8) (h1 : a1 < a0) : a1 < 31 := oz385 h0 h1
theorem ok11 {a0 a1 : Int} (h0 : a0 ≤ a1) : (-2147483648 : Int) ≤ a1 - a0 := oz551 h0
theorem ok12 {a0 a1 a2 : Int} (h0 : a0 ≤ 2147483647) (h1 : a1 ≤ a2) (h2 : a1 = 1) : a0 - a2 ≤ 2147483647 := oz552 h0 h1 h2
theorem ok13 {a0 a1 a2 : Int} (h0 : a0 ≤ 8) (h1 : a1 < a0) : a1 = 18 → (0 : Int) ≤ a2 ∧ a2 ≤ 5 := oz553 h0 h1
theorem ok14 {a0 a1 a2 : Int} (h0 : a0 ≤ 8) (h1 : a1 < a0) : 19 ≤ a1 → a1 ≤ 24 → (0 : Int) ≤ a2 ∧ a2 ≤ 7 := oz554 h0 h1
theorem ok15 {a0 a1 : Int} (h0 : a0 ≠ a1) : a1 ≠ a0 := oz351 h0
theorem ok16 {a0 : Int} (h0 : a0 = 4) : (0 : Int) ≤ a0 := oz262 h0
theorem ok17 {a0 : Int} (h0 : a0 = 4) : a0 < 5 := oz555 h0
theorem ok18 {a0 a1 : Int} (h0 : a0 ≠ a1) : a0 ≠ a1 := oz556 h0
theorem ok19 {a0 a1 a2 a3 a4 a5 a6 : Int} (h0 : a0 ≤ a1) (h1 : a2 ≠ a3) (h2 : (0 : Int) ≤ a2) (h3 : a2 < a4) (h4 : (0 : Int) ≤ a3) (h5 : a3 < a4) (h6 : a5 ≤ a0) (h7 : a0 ≤ a6) (h8 : a5 = 1) (h9 : a6 = 999) : ¬ (¬ (((0 : Int) ≤ a2) ∧ (a2 < a4) ∧ ((0 : Int) ≤ a3) ∧ (a3 < a4) ∧ (a2 ≠ a3) ∧ ((1 : Int) ≤ a0) ∧ (a0 ≤ 999) ∧ (a0 ≤ a1))) := by omega
theorem ok20 {a0 a1 a2 a3 a4 : Int} (h0 : a0 ≤ a1) : ¬ (((0 : Int) ≤ a2) ∧ (a2 < a3) ∧ ((0 : Int) ≤ a4) ∧ (a4 < a3) ∧ (a2 ≠ a4) ∧ ((1 : Int) ≤ a0) ∧ (a0 ≤ 999) ∧ (a1 < a0)) := oj46 h0
theorem ok21 {a0 a1 a2 a3 a4 a5 : Int} (h0 : a0 ≠ a1) (h1 : (0 : Int) ≤ a0) (h2 : a0 < a2) (h3 : (0 : Int) ≤ a1) (h4 : a1 < a2) (h5 : a3 ≤ a4) (h6 : a4 ≤ a5) (h7 : a3 = 1) (h8 : a5 = 999) : ¬ (¬ (((0 : Int) ≤ a0) ∧ (a0 < a2) ∧ ((0 : Int) ≤ a1) ∧ (a1 < a2) ∧ (a0 ≠ a1) ∧ ((1 : Int) ≤ a4) ∧ (a4 ≤ 999))) := oj47 h0 h1 h2 h3 h4 h5 h6 h7 h8
theorem ok22 {a0 a1 a2 a3 a4 : Int} (h0 : a0 < a1) : ¬ (((0 : Int) ≤ a2) ∧ (a2 < a3) ∧ ((0 : Int) ≤ a4) ∧ (a4 < a3) ∧ (a2 ≠ a4) ∧ ((1 : Int) ≤ a1) ∧ (a1 ≤ 999) ∧ (a1 ≤ a0)) := oj48 h0
theorem ok23 {a0 a1 a2 a3 a4 a5 a6 : Int} (h0 : ¬ ((a0 ≤ a1) ∧ (a1 ≤ a2))) (h1 : a0 = 1) (h2 : a2 = 999) : ¬ (((0 : Int) ≤ a3) ∧ (a3 < a4) ∧ ((0 : Int) ≤ a5) ∧ (a5 < a4) ∧ (a3 ≠ a5) ∧ ((1 : Int) ≤ a1) ∧ (a1 ≤ 999) ∧ (a1 ≤ a6)) := oj49 h0 h1 h2
theorem ok24 {a0 a1 a2 a3 a4 a5 a6 : Int} (h0 : ¬ ((a0 ≤ a1) ∧ (a1 ≤ a2))) (h1 : a0 = 1) (h2 : a2 = 999) : ¬ (((0 : Int) ≤ a3) ∧ (a3 < a4) ∧ ((0 : Int) ≤ a5) ∧ (a5 < a4) ∧ (a3 ≠ a5) ∧ ((1 : Int) ≤ a1) ∧ (a1 ≤ 999) ∧ (a6 < a1)) := oj50 h0 h1 h2
theorem ok25 {a0 a1 a2 a3 a4 : Int} (h0 : ¬ (((0 : Int) ≤ a0) ∧ (a0 < a1))) : ¬ (((0 : Int) ≤ a2) ∧ (a2 < a1) ∧ ((0 : Int) ≤ a0) ∧ (a0 < a1) ∧ (a2 ≠ a0) ∧ ((1 : Int) ≤ a3) ∧ (a3 ≤ 999) ∧ (a3 ≤ a4)) := oj51 h0
theorem ok26 {a0 a1 a2 a3 a4 : Int} (h0 : ¬ (((0 : Int) ≤ a0) ∧ (a0 < a1))) : ¬ (((0 : Int) ≤ a2) ∧ (a2 < a1) ∧ ((0 : Int) ≤ a0) ∧ (a0 < a1) ∧ (a2 ≠ a0) ∧ ((1 : Int) ≤ a3) ∧ (a3 ≤ 999) ∧ (a4 < a3)) := oj52 h0
theorem ok27 {a0 a1 a2 a3 a4 : Int} (h0 : ¬ (((0 : Int) ≤ a0) ∧ (a0 < a1))) : ¬ (((0 : Int) ≤ a0) ∧ (a0 < a1) ∧ ((0 : Int) ≤ a2) ∧ (a2 < a1) ∧ (a0 ≠ a2) ∧ ((1 : Int) ≤ a3) ∧ (a3 ≤ 999) ∧ (a3 ≤ a4)) := oj53 h0
theorem ok28 {a0 a1 a2 a3 a4 : Int} (h0 : ¬ (((0 : Int) ≤ a0) ∧ (a0 < a1))) : ¬ (((0 : Int) ≤ a0) ∧ (a0 < a1) ∧ ((0 : Int) ≤ a2) ∧ (a2 < a1) ∧ (a0 ≠ a2) ∧ ((1 : Int) ≤ a3) ∧ (a3 ≤ 999) ∧ (a4 < a3)) := oj54 h0
noncomputable def yw204_116 : kW := ([], [118, 130], [], [])
set_option maxRecDepth 100000 in
theorem ke204_116 {i : Nat → Int32} {a : Nat → List Int32} {q : Nat → List Int64} {r : Nat → Nat} (hI : kI i a q) (hr : kr r) (x1 : Int32) (x2 : Int32) (x3 : Int32) : km 5 204 [.ref 116, .int x1, .int x2, .int x3] (ks i a q r) (kVI yw204_116 i a q r (fun v i1 a1 q1 r1 => (True) ∧ ((((0 : Int) ≤ x1.toInt) ∧ (x1.toInt < (i 7424).toInt) ∧ ((0 : Int) ≤ x2.toInt) ∧ (x2.toInt < (i 7424).toInt) ∧ (x1.toInt ≠ x2.toInt) ∧ ((1 : Int) ≤ x3.toInt) ∧ (x3.toInt ≤ 999) ∧ (x3.toInt ≤ ((a 118).getD x1.toNatClampNeg 0).toInt) → a1 118 = (((a 118).set x1.toNatClampNeg ((a 118).getD x1.toNatClampNeg 0 - x3)).set x2.toNatClampNeg (sMn 999 (((a 118).set x1.toNatClampNeg ((a 118).getD x1.toNatClampNeg 0 - x3)).getD x2.toNatClampNeg 0 + x3)))) ∧ (((0 : Int) ≤ x1.toInt) ∧ (x1.toInt < (i 7424).toInt) ∧ ((0 : Int) ≤ x2.toInt) ∧ (x2.toInt < (i 7424).toInt) ∧ (x1.toInt ≠ x2.toInt) ∧ ((1 : Int) ≤ x3.toInt) ∧ (x3.toInt ≤ 999) ∧ (x3.toInt ≤ ((a 118).getD x1.toNatClampNeg 0).toInt) → a1 130 = (a 130).set (4 : Int32).toNatClampNeg ((a 130).getD (4 : Int32).toNatClampNeg 0 + x3)) ∧ (((0 : Int) ≤ x1.toInt) ∧ (x1.toInt < (i 7424).toInt) ∧ ((0 : Int) ≤ x2.toInt) ∧ (x2.toInt < (i 7424).toInt) ∧ (x1.toInt ≠ x2.toInt) ∧ ((1 : Int) ≤ x3.toInt) ∧ (x3.toInt ≤ 999) ∧ (x3.toInt ≤ ((a 118).getD x1.toNatClampNeg 0).toInt) → v = (((a 118).set x1.toNatClampNeg ((a 118).getD x1.toNatClampNeg 0 - x3)).set x2.toNatClampNeg (sMn 999 (((a 118).set x1.toNatClampNeg ((a 118).getD x1.toNatClampNeg 0 - x3)).getD x2.toNatClampNeg 0 + x3))).getD x1.toNatClampNeg 0) ∧ (¬ (((0 : Int) ≤ x1.toInt) ∧ (x1.toInt < (i 7424).toInt) ∧ ((0 : Int) ≤ x2.toInt) ∧ (x2.toInt < (i 7424).toInt) ∧ (x1.toInt ≠ x2.toInt) ∧ ((1 : Int) ≤ x3.toInt) ∧ (x3.toInt ≤ 999) ∧ (x3.toInt ≤ ((a 118).getD x1.toNatClampNeg 0).toInt)) → a1 118 = a 118) ∧ (¬ (((0 : Int) ≤ x1.toInt) ∧ (x1.toInt < (i 7424).toInt) ∧ ((0 : Int) ≤ x2.toInt) ∧ (x2.toInt < (i 7424).toInt) ∧ (x1.toInt ≠ x2.toInt) ∧ ((1 : Int) ≤ x3.toInt) ∧ (x3.toInt ≤ 999) ∧ (x3.toInt ≤ ((a 118).getD x1.toNatClampNeg 0).toInt)) → a1 130 = a 130) ∧ (((0 : Int) ≤ x1.toInt) ∧ (x1.toInt < (i 7424).toInt) ∧ ((0 : Int) ≤ x2.toInt) ∧ (x2.toInt < (i 7424).toInt) ∧ (x1.toInt ≠ x2.toInt) ∧ ((1 : Int) ≤ x3.toInt) ∧ (x3.toInt ≤ 999) ∧ (((a 118).getD x1.toNatClampNeg 0).toInt < x3.toInt) → v = -5) ∧ (¬ (((0 : Int) ≤ x1.toInt) ∧ (x1.toInt < (i 7424).toInt) ∧ ((0 : Int) ≤ x2.toInt) ∧ (x2.toInt < (i 7424).toInt) ∧ (x1.toInt ≠ x2.toInt) ∧ ((1 : Int) ≤ x3.toInt) ∧ (x3.toInt ≤ 999)) → v = -1)))) := by
  have hG := kG_self yw204_116 hI hr
  refine km_ofI (q := (mi_h204, mi_c204)) rfl (by decide) (Nat.le_of_ble_eq_true rfl) ?_
  intro P hP
  refine ft_goL mi_k204 2 2 [(0, .ref 116), (1, .int x1), (2, .int x2), (3, .int x3)] [.int x1, .ref 116] (by rfl) ?_
  refine ko_callPI mi_k204.1 (pc := 2) (ls := [(0, .ref 116), (1, .int x1), (2, .int x2), (3, .int x3)]) (st := [.int x1, .ref 116]) (h := ks i a q r) (i := (.invokevirtual 137, 3, 132, 0, 9, 0, 387)) (mi_k204.2 _ _ (by rfl)) (ft_invS mi_pq132 (by rfl)) (cy := mi_c132) mi_pq132 rfl (kc132_116 hG.I hG.R x1) (by decide) ?_
  intro vg1 hg1
  rcases hg1 with ⟨eg1, hg1⟩ | ⟨eg1, hg1⟩
  ·
    subst eg1
    have fi_7424 : ((0 : Int) ≤ (i 7424).toInt) ∧ ((i 7424).toInt ≤ 8) := hG.I.1 7424
    have z2 : ((0 : Int) ≤ x1.toInt) ∧ (x1.toInt < (i 7424).toInt) := hg1
    refine ft_goS mi_k204 3 10 [.int x2, .ref 116] (by rfl) ?_
    refine ko_callPI mi_k204.1 (pc := 10) (ls := [(0, .ref 116), (1, .int x1), (2, .int x2), (3, .int x3)]) (st := [.int x2, .ref 116]) (h := ks i a q r) (i := (.invokevirtual 137, 3, 132, 0, 9, 0, 387)) (mi_k204.2 _ _ (by rfl)) (ft_invS mi_pq132 (by rfl)) (cy := mi_c132) mi_pq132 rfl (kc132_116 hG.I hG.R x2) (by decide) ?_
    intro vg3 hg3
    rcases hg3 with ⟨eg3, hg3⟩ | ⟨eg3, hg3⟩
    ·
      subst eg3
      have z4 : ((0 : Int) ≤ x2.toInt) ∧ (x2.toInt < (i 7424).toInt) := hg3
      refine ft_goS mi_k204 3 18 [.int x2, .int x1] (by rfl) ?_
      refine ft_ifS mi_k204 (x1 == x2) 32 21 [] (by rfl) (fun c => ?_) (fun c => ?_)
      ·
        have c5 : x1.toInt = x2.toInt := kd_eq c; clear c
        refine ft_goS mi_k204 1 33 [.int (-1)] (by rfl) ?_
        exact ft_ret mi_k204 (by rfl) (hP (-1) _ _ _ _ hG ⟨trivial, ⟨(fun h => absurd h (ok7 c5)), (fun h => absurd h (ok7 c5)), (fun h => absurd h (ok7 c5)), (fun _ => (show a 118 = a 118 from rfl)), (fun _ => (show a 130 = a 130 from rfl)), (fun h => absurd h (ok8 c5)), (fun _ => (show ((-1) : Int32) = -1 from (by first | rfl | (simp only [sMn, sMx]; done) | (simp only [sMn, sMx]; rfl))))⟩⟩)
      ·
        have c6 : x1.toInt ≠ x2.toInt := kd_eqF c; clear c
        refine ft_goS mi_k204 3 26 [.int 999, .int 1, .int x3] (by rfl) ?_
        refine ko_callPI mi_k204.1 (pc := 26) (ls := [(0, .ref 116), (1, .int x1), (2, .int x2), (3, .int x3)]) (st := [.int 999, .int 1, .int x3]) (h := ks i a q r) (i := (.invokestatic 119, 3, 131, 0, 9, 0, 379)) (mi_k204.2 _ _ (by rfl)) (ft_invS mi_pq131 (by rfl)) (cy := mi_c131) mi_pq131 rfl (kc131 hG.I hG.R x3 1 999) (by decide) ?_
        intro vg7 hg7
        rcases hg7 with ⟨eg7, hg7⟩ | ⟨eg7, hg7⟩
        ·
          subst eg7
          have z8 : ((1 : Int32).toInt ≤ x3.toInt) ∧ (x3.toInt ≤ (999 : Int32).toInt) := hg7
          refine ft_goS mi_k204 4 39 [.int x1, .ref 118] (by rfl) ?_
          refine ko_iald3 mi_k204.1 (n := 31) (c := 31) (ax := (0, 0, 0, 0, 0)) (mi_k204.2 _ _ (by rfl)) (by rfl) (ksG118 _ _ _ _) (hG.I.2.1 118) rfl (ok9 z2.1) (ok10 fi_7424.2 z2.2) ?_
          have r9 : ((x1.toInt = 18 → (0 : Int) ≤ ((a 118).getD x1.toNatClampNeg 0).toInt ∧ ((a 118).getD x1.toNatClampNeg 0).toInt ≤ 5)) ∧ ((19 ≤ x1.toInt → x1.toInt ≤ 24 → (0 : Int) ≤ ((a 118).getD x1.toNatClampNeg 0).toInt ∧ ((a 118).getD x1.toNatClampNeg 0).toInt ≤ 7)) := kE_ncond (p := 118) hG.I (by decide) (j := x1) (ok9 z2.1)
          refine ft_goS mi_k204 1 41 [.int x3, .int ((a 118).getD x1.toNatClampNeg 0)] (by rfl) ?_
          refine ft_ifS mi_k204 (decide (x3 ≤ ((a 118).getD x1.toNatClampNeg 0))) 47 44 [] (by rfl) (fun c => ?_) (fun c => ?_)
          ·
            have c10 : x3.toInt ≤ ((a 118).getD x1.toNatClampNeg 0).toInt := kd_le c; clear c
            refine ft_goS mi_k204 4 53 [.int x1, .ref 118, .int x1, .ref 118] (by rfl) ?_
            refine ko_iald3 mi_k204.1 (n := 31) (c := 31) (ax := (0, 0, 0, 0, 0)) (mi_k204.2 _ _ (by rfl)) (by rfl) (ksG118 _ _ _ _) (hG.I.2.1 118) rfl (ok9 z2.1) (ok10 fi_7424.2 z2.2) ?_
            have b11 : ((-2147483648 : Int) ≤ ((a 118).getD x1.toNatClampNeg 0).toInt) ∧ (((a 118).getD x1.toNatClampNeg 0).toInt ≤ 2147483647) := kd_bd ((a 118).getD x1.toNatClampNeg 0)
            have b12 : ((-2147483648 : Int) ≤ x3.toInt) ∧ (x3.toInt ≤ 2147483647) := kd_bd x3
            have s13 : (((a 118).getD x1.toNatClampNeg 0) - x3).toInt = ((a 118).getD x1.toNatClampNeg 0).toInt - x3.toInt := kd_sub (ok11 c10) (ok12 b11.2 z8.1 kok1)
            refine ft_goS mi_k204 2 56 [.int (((a 118).getD x1.toNatClampNeg 0) - x3), .int x1, .ref 118] (by rfl) ?_
            refine ko_iast3 mi_k204.1 (n := 31) (c := 31) (ax := (0, 0, 0, 0, 0)) (mi_k204.2 _ _ (by rfl)) (by rfl) (ksG118 _ _ _ _) (ksA118 _ _ _ _) (hG.I.2.1 118) rfl (ok9 z2.1) (ok10 fi_7424.2 z2.2) ?_
            intro a14 ea14 fa14
            have hJ14 := kG_a3 hG 118 rfl ea14 fa14 (kE_nset (p := 118) (by decide) (ok9 z2.1) (ok13 fi_7424.2 z2.2) (ok14 fi_7424.2 z2.2))
            refine fo_goS mi_k204 fz204_57_7_70 [.int x2, .ref 118, .int 999, .int x2, .ref 118] rfl ?_
            refine ko_iald3 mi_k204.1 (n := 31) (c := 31) (ax := (0, 0, 0, 0, 0)) (mi_k204.2 _ _ (by rfl)) (by rfl) (ksG118 _ _ _ _) (hJ14.I.2.1 118) rfl (ok9 z4.1) (ok10 fi_7424.2 z4.2) ?_
            have r15 : ((x2.toInt = 18 → (0 : Int) ≤ ((a14 118).getD x2.toNatClampNeg 0).toInt ∧ ((a14 118).getD x2.toNatClampNeg 0).toInt ≤ 5)) ∧ ((19 ≤ x2.toInt → x2.toInt ≤ 24 → (0 : Int) ≤ ((a14 118).getD x2.toNatClampNeg 0).toInt ∧ ((a14 118).getD x2.toNatClampNeg 0).toInt ≤ 7)) := kE_ncond (p := 118) hJ14.I (by decide) (j := x2) (ok9 z4.1)
            have u16 : ((a14 118).getD x2.toNatClampNeg 0).toInt = ((a 118).getD x2.toNatClampNeg 0).toInt := congrArg Int32.toInt ((congrArg (fun z : List Int32 => z.getD x2.toNatClampNeg 0) ea14).trans (kgs_ne (ok9 z4.1) (ok9 z2.1) (ok15 c6)))
            have b17 : ((-2147483648 : Int) ≤ ((a14 118).getD x2.toNatClampNeg 0).toInt) ∧ (((a14 118).getD x2.toNatClampNeg 0).toInt ≤ 2147483647) := kd_bd ((a14 118).getD x2.toNatClampNeg 0)
            refine ft_goS mi_k204 2 73 [.int (((a14 118).getD x2.toNatClampNeg 0) + x3), .int 999, .int x2, .ref 118] (by rfl) ?_
            have m19 : (((bif decide ((((a14 118).getD x2.toNatClampNeg 0) + x3) < 999) then (((a14 118).getD x2.toNatClampNeg 0) + x3) else 999).toInt ≤ (999 : Int32).toInt) ∧ ((bif decide ((((a14 118).getD x2.toNatClampNeg 0) + x3) < 999) then (((a14 118).getD x2.toNatClampNeg 0) + x3) else 999).toInt ≤ (((a14 118).getD x2.toNatClampNeg 0) + x3).toInt)) ∧ ((bif decide ((((a14 118).getD x2.toNatClampNeg 0) + x3) < 999) then (((a14 118).getD x2.toNatClampNeg 0) + x3) else 999).toInt = (999 : Int32).toInt ∨ (bif decide ((((a14 118).getD x2.toNatClampNeg 0) + x3) < 999) then (((a14 118).getD x2.toNatClampNeg 0) + x3) else 999).toInt = (((a14 118).getD x2.toNatClampNeg 0) + x3).toInt) := kd_min
            refine ft_goS mi_k204 1 76 [.int (bif decide ((((a14 118).getD x2.toNatClampNeg 0) + x3) < 999) then (((a14 118).getD x2.toNatClampNeg 0) + x3) else 999), .int x2, .ref 118] (by rfl) ?_
            generalize hm18 : (bif decide ((((a14 118).getD x2.toNatClampNeg 0) + x3) < 999) then (((a14 118).getD x2.toNatClampNeg 0) + x3) else 999) = m18 at m19 ⊢
            have qm18 := hm18.symm
            refine ko_iast3 mi_k204.1 (n := 31) (c := 31) (ax := (0, 0, 0, 0, 0)) (mi_k204.2 _ _ (by rfl)) (by rfl) (ksG118 _ _ _ _) (ksA118 _ _ _ _) (hJ14.I.2.1 118) rfl (ok9 z4.1) (ok10 fi_7424.2 z4.2) ?_
            intro a20 ea20 fa20
            have hJ20 := kG_a3 hJ14 118 rfl ea20 fa20 (kE_nset (p := 118) (by decide) (ok9 z4.1) (ok13 fi_7424.2 z4.2) (ok14 fi_7424.2 z4.2))
            refine ft_goS mi_k204 4 83 [.int 4, .ref 130, .int 4, .ref 130] (by rfl) ?_
            refine ko_iald3 mi_k204.1 (n := 5) (c := 5) (ax := (0, 0, 0, 0, 0)) (mi_k204.2 _ _ (by rfl)) (by rfl) (ksG130 _ _ _ _) (hJ20.I.2.1 130) rfl (ok16 kok4) (ok17 kok4) ?_
            have b21 : ((-2147483648 : Int) ≤ ((a20 130).getD (4 : Int32).toNatClampNeg 0).toInt) ∧ (((a20 130).getD (4 : Int32).toNatClampNeg 0).toInt ≤ 2147483647) := kd_bd ((a20 130).getD (4 : Int32).toNatClampNeg 0)
            refine ft_goS mi_k204 2 86 [.int (((a20 130).getD (4 : Int32).toNatClampNeg 0) + x3), .int 4, .ref 130] (by rfl) ?_
            refine ko_iast3 mi_k204.1 (n := 5) (c := 5) (ax := (0, 0, 0, 0, 0)) (mi_k204.2 _ _ (by rfl)) (by rfl) (ksG130 _ _ _ _) (ksA130 _ _ _ _) (hJ20.I.2.1 130) rfl (ok16 kok4) (ok17 kok4) ?_
            intro a22 ea22 fa22
            have hJ22 := kG_a3 hJ20 130 rfl ea22 fa22 (kd_bd _)
            refine ft_goS mi_k204 3 92 [.int x1, .ref 118] (by rfl) ?_
            refine ko_iald3 mi_k204.1 (n := 31) (c := 31) (ax := (0, 0, 0, 0, 0)) (mi_k204.2 _ _ (by rfl)) (by rfl) (ksG118 _ _ _ _) (hJ22.I.2.1 118) rfl (ok9 z2.1) (ok10 fi_7424.2 z2.2) ?_
            have r23 : ((x1.toInt = 18 → (0 : Int) ≤ ((a22 118).getD x1.toNatClampNeg 0).toInt ∧ ((a22 118).getD x1.toNatClampNeg 0).toInt ≤ 5)) ∧ ((19 ≤ x1.toInt → x1.toInt ≤ 24 → (0 : Int) ≤ ((a22 118).getD x1.toNatClampNeg 0).toInt ∧ ((a22 118).getD x1.toNatClampNeg 0).toInt ≤ 7)) := kE_ncond (p := 118) hJ22.I (by decide) (j := x1) (ok9 z2.1)
            have u24 : ((a14 118).getD x1.toNatClampNeg 0).toInt = (((a 118).getD x1.toNatClampNeg 0) - x3).toInt := congrArg Int32.toInt ((congrArg (fun z : List Int32 => z.getD x1.toNatClampNeg 0) ea14).trans (kgs_eq2 (n := 31) (c := 31) (hG.I.2.1 118) rfl (ok9 z2.1) (ok10 fi_7424.2 z2.2)))
            have u25 : ((a20 118).getD x1.toNatClampNeg 0).toInt = ((a14 118).getD x1.toNatClampNeg 0).toInt := congrArg Int32.toInt ((congrArg (fun z : List Int32 => z.getD x1.toNatClampNeg 0) ea20).trans (kgs_ne (ok9 z2.1) (ok9 z4.1) (ok18 c6)))
            have u26 : ((a22 118).getD x1.toNatClampNeg 0).toInt = ((a20 118).getD x1.toNatClampNeg 0).toInt := congrArg (fun z : List Int32 => (z.getD x1.toNatClampNeg 0).toInt) (fa22 118 (by decide))
            exact ft_ret mi_k204 (by rfl) (hP ((a22 118).getD x1.toNatClampNeg 0) _ _ _ _ hJ22 ⟨trivial, ⟨(fun _ => (show a22 118 = (((a 118).set x1.toNatClampNeg ((a 118).getD x1.toNatClampNeg 0 - x3)).set x2.toNatClampNeg (sMn 999 (((a 118).set x1.toNatClampNeg ((a 118).getD x1.toNatClampNeg 0 - x3)).getD x2.toNatClampNeg 0 + x3))) from (by first | rfl | (simp only [fa22 118 (by decide), ea20, ea14, qm18, sMn, sMx]; done) | (simp only [fa22 118 (by decide), ea20, ea14, qm18, sMn, sMx]; rfl)))), (fun _ => (show a22 130 = (a 130).set (4 : Int32).toNatClampNeg ((a 130).getD (4 : Int32).toNatClampNeg 0 + x3) from (by first | rfl | (simp only [ea22, fa20 130 (by decide), fa14 130 (by decide), sMn, sMx]; done) | (simp only [ea22, fa20 130 (by decide), fa14 130 (by decide), sMn, sMx]; rfl)))), (fun _ => (show ((a22 118).getD x1.toNatClampNeg 0) = (((a 118).set x1.toNatClampNeg ((a 118).getD x1.toNatClampNeg 0 - x3)).set x2.toNatClampNeg (sMn 999 (((a 118).set x1.toNatClampNeg ((a 118).getD x1.toNatClampNeg 0 - x3)).getD x2.toNatClampNeg 0 + x3))).getD x1.toNatClampNeg 0 from (by first | rfl | (simp only [fa22 118 (by decide), ea20, ea14, qm18, sMn, sMx]; done) | (simp only [fa22 118 (by decide), ea20, ea14, qm18, sMn, sMx]; rfl)))), (fun h => absurd h (ok19 c10 c6 z2.1 z2.2 z4.1 z4.2 z8.1 z8.2 kok1 kok999)), (fun h => absurd h (ok19 c10 c6 z2.1 z2.2 z4.1 z4.2 z8.1 z8.2 kok1 kok999)), (fun h => absurd h (ok20 c10)), (fun h => absurd h (ok21 c6 z2.1 z2.2 z4.1 z4.2 z8.1 z8.2 kok1 kok999))⟩⟩)
          ·
            have c27 : ((a 118).getD x1.toNatClampNeg 0).toInt < x3.toInt := kd_leF c; clear c
            refine ft_goS mi_k204 1 46 [.int (-5)] (by rfl) ?_
            exact ft_ret mi_k204 (by rfl) (hP (-5) _ _ _ _ hG ⟨trivial, ⟨(fun h => absurd h (ok22 c27)), (fun h => absurd h (ok22 c27)), (fun h => absurd h (ok22 c27)), (fun _ => (show a 118 = a 118 from rfl)), (fun _ => (show a 130 = a 130 from rfl)), (fun _ => (show ((-5) : Int32) = -5 from (by first | rfl | (simp only [sMn, sMx]; done) | (simp only [sMn, sMx]; rfl)))), (fun h => absurd h (ok21 c6 z2.1 z2.2 z4.1 z4.2 z8.1 z8.2 kok1 kok999))⟩⟩)
        ·
          subst eg7
          have z28 : ¬ (((1 : Int32).toInt ≤ x3.toInt) ∧ (x3.toInt ≤ (999 : Int32).toInt)) := hg7
          first | refine fo_goS mi_k204 fz204_5_2_33 [.int (-1)] (by rfl) ?_ | refine fo_goS mi_k204 fz204_13_2_33 [.int (-1)] (by rfl) ?_ | refine fo_goS mi_k204 fz204_29_2_33 [.int (-1)] (by rfl) ?_ | refine ft_goS mi_k204 2 33 [.int (-1)] (by rfl) ?_
          exact ft_ret mi_k204 (by rfl) (hP (-1) _ _ _ _ hG ⟨trivial, ⟨(fun h => absurd h (ok23 z28 kok1 kok999)), (fun h => absurd h (ok23 z28 kok1 kok999)), (fun h => absurd h (ok23 z28 kok1 kok999)), (fun _ => (show a 118 = a 118 from rfl)), (fun _ => (show a 130 = a 130 from rfl)), (fun h => absurd h (ok24 z28 kok1 kok999)), (fun _ => (show ((-1) : Int32) = -1 from (by first | rfl | (simp only [sMn, sMx]; done) | (simp only [sMn, sMx]; rfl))))⟩⟩)
    ·
      subst eg3
      have z29 : ¬ (((0 : Int) ≤ x2.toInt) ∧ (x2.toInt < (i 7424).toInt)) := hg3
      first | refine fo_goS mi_k204 fz204_5_2_33 [.int (-1)] (by rfl) ?_ | refine fo_goS mi_k204 fz204_13_2_33 [.int (-1)] (by rfl) ?_ | refine fo_goS mi_k204 fz204_29_2_33 [.int (-1)] (by rfl) ?_ | refine ft_goS mi_k204 2 33 [.int (-1)] (by rfl) ?_
      exact ft_ret mi_k204 (by rfl) (hP (-1) _ _ _ _ hG ⟨trivial, ⟨(fun h => absurd h (ok25 z29)), (fun h => absurd h (ok25 z29)), (fun h => absurd h (ok25 z29)), (fun _ => (show a 118 = a 118 from rfl)), (fun _ => (show a 130 = a 130 from rfl)), (fun h => absurd h (ok26 z29)), (fun _ => (show ((-1) : Int32) = -1 from (by first | rfl | (simp only [sMn, sMx]; done) | (simp only [sMn, sMx]; rfl))))⟩⟩)
  ·
    subst eg1
    have z30 : ¬ (((0 : Int) ≤ x1.toInt) ∧ (x1.toInt < (i 7424).toInt)) := hg1
    first | refine fo_goS mi_k204 fz204_5_2_33 [.int (-1)] (by rfl) ?_ | refine fo_goS mi_k204 fz204_13_2_33 [.int (-1)] (by rfl) ?_ | refine fo_goS mi_k204 fz204_29_2_33 [.int (-1)] (by rfl) ?_ | refine ft_goS mi_k204 2 33 [.int (-1)] (by rfl) ?_
    exact ft_ret mi_k204 (by rfl) (hP (-1) _ _ _ _ hG ⟨trivial, ⟨(fun h => absurd h (ok27 z30)), (fun h => absurd h (ok27 z30)), (fun h => absurd h (ok27 z30)), (fun _ => (show a 118 = a 118 from rfl)), (fun _ => (show a 130 = a 130 from rfl)), (fun h => absurd h (ok28 z30)), (fun _ => (show ((-1) : Int32) = -1 from (by first | rfl | (simp only [sMn, sMx]; done) | (simp only [sMn, sMx]; rfl))))⟩⟩)
end
section
/-! TWO MARKETS ALIKE, PURELY -/
theorem cpy_g {l g : List Int32} {sp dp n j : Nat} (h1 : sp + n ≤ l.length) (h2 : dp + n ≤ g.length) : (mi_cpy l g sp dp n).getD j 0 = if dp ≤ j ∧ j < dp + n then l.getD (sp + (j - dp)) 0 else g.getD j 0 := by
  have h := congrFun (mi_cpy_get (l := l) (g := g) (sp := sp) (dp := dp) (n := n) 0 h1 h2) j
  exact h
/-- b buyers; purses P, how often O, the day, how many came, the debts of the class: as the reference's 31 numbers N -/
noncomputable def mNow (b : Int32) (P O : List Int32) (dy cm op : Int32) (Wh Mu N : List Int32) : Prop :=
  (∀ j : Nat, j < 8 → P.getD j 0 = N.getD j 0) ∧ dy = N.getD 8 0 ∧ cm = N.getD 9 0 ∧ (∀ j : Nat, j < 8 → O.getD j 0 = N.getD (10 + j) 0) ∧ op = N.getD 18 0 ∧ (∀ j : Nat, (j : Int) < op.toInt → Wh.getD j 0 = N.getD (19 + j) 0 ∧ Mu.getD j 0 = N.getD (25 + j) 0 ∧ 0 ≤ (Wh.getD j 0).toInt ∧ (Wh.getD j 0).toInt < b.toInt)
noncomputable def mLen (T : kCt) : Prop := T.2.1.length = 5 ∧ T.2.2.1.length = 5 ∧ T.2.2.2.1.length = 8 ∧ T.2.2.2.2.2.2.1.length = 5 ∧ ∀ u : Nat, u < 8 → (T.2.2.2.2.2.2.2 u).length = 8
/-- payments: the class's tuple as the reference's -/
noncomputable def mP (b base : Int32) (L0 O : List Int32) (dy cm : Int32) (T : kCt) (S : kSt) : Prop :=
  mNow b T.2.2.2.1 O dy cm T.1 T.2.1 T.2.2.1 S.1 ∧ T.2.2.2.2.1 = S.2.1 ∧ T.2.2.2.2.2.1 = S.2.2.1 ∧ T.2.2.2.2.2.2.1.getD 2 0 = base + S.2.2.2.1 ∧ (∀ j : Nat, j ≠ 2 → T.2.2.2.2.2.2.1.getD j 0 = L0.getD j 0) ∧ mLen T ∧ S.1.length = 31 ∧ S.2.2.2.2.length = 64
noncomputable def mF (T : kCt) (S : kSt) : Prop := ∀ u c : Nat, u < 8 → c < 8 → (T.2.2.2.2.2.2.2 u).getD c 0 = S.2.2.2.2.getD (8 * u + c) 0
theorem sSh_get {N : List Int32} (hN : N.length = 31) : ∀ n : Nat, n ≤ 4 → (sSh n N).length = 31 ∧ ∀ j : Nat, (sSh n N).getD j 0 = if (19 ≤ j ∧ j < 19 + n) ∨ (25 ≤ j ∧ j < 25 + n) then N.getD (j + 1) 0 else N.getD j 0
  | 0, _ => ⟨hN, fun j => by rw [if_neg (by omega)]; rfl⟩
  | n + 1, hn => by
    obtain ⟨hl, ih⟩ := sSh_get hN n (by omega)
    unfold sSh
    refine ⟨by rw [List.length_set, List.length_set]; exact hl, fun j => ?_⟩
    have e1 : ∀ m : Nat, ((sSh n N).set (19 + n) ((sSh n N).getD (20 + n) 0)).getD m 0 = if m = 19 + n then (sSh n N).getD (20 + n) 0 else (sSh n N).getD m 0 := fun m => kset_gI (by omega)
    rw [kset_gI (by rw [List.length_set]; omega), e1, e1, ih j, ih (20 + n), ih (26 + n)]
    (repeat' split) <;> first | rfl | (exfalso; omega) | (congr 1; omega)
theorem sDrop_get {N : List Int32} (hN : N.length = 31) (h1 : 1 ≤ (N.getD 18 0).toInt) (h5 : (N.getD 18 0).toInt ≤ 5) : (N.getD 18 0 - 1).toInt = (N.getD 18 0).toInt - 1 ∧ (sDrop N).length = 31 ∧ ∀ j : Nat, (sDrop N).getD j 0 = if j = 18 then N.getD 18 0 - 1 else if (19 ≤ j ∧ (j : Int) < 18 + (N.getD 18 0).toInt) ∨ (25 ≤ j ∧ (j : Int) < 24 + (N.getD 18 0).toInt) then N.getD (j + 1) 0 else N.getD j 0 := by
  have e1 : (N.getD 18 0 - 1).toInt = (N.getD 18 0).toInt - 1 := by
    have := kd_sub (x := N.getD 18 0) (y := 1) (by rw [(by decide : (1 : Int32).toInt = 1)]; omega) (by rw [(by decide : (1 : Int32).toInt = 1)]; omega)
    rw [this, (by decide : (1 : Int32).toInt = 1)]
  obtain ⟨hl, hg⟩ := sSh_get (N := N.set 18 (N.getD 18 0 - 1)) (by rw [List.length_set]; exact hN) (N.getD 18 0 - 1).toInt.toNat (by omega)
  refine ⟨e1, hl, fun j => ?_⟩
  unfold sDrop
  have e2 : ∀ m : Nat, (N.set 18 (N.getD 18 0 - 1)).getD m 0 = if m = 18 then N.getD 18 0 - 1 else N.getD m 0 := fun m => kset_gI (by omega)
  rw [hg j, e2, e2]
  (repeat' split) <;> first | rfl | (exfalso; omega) | (congr 1; omega)
theorem mNow_18 {b : Int32} {P O : List Int32} {dy cm op : Int32} {Wh Mu N : List Int32} (h : mNow b P O dy cm op Wh Mu N) : op = N.getD 18 0 := h.2.2.2.2.1
/-- the oldest debt gone -/
theorem mDrop {b : Int32} {P O : List Int32} {dy cm op : Int32} {Wh Mu N : List Int32} (h : mNow b P O dy cm op Wh Mu N) (hN : N.length = 31) (hW : Wh.length = 5) (hM : Mu.length = 5) (h1 : 1 ≤ op.toInt) (h5 : op.toInt ≤ 5) : mNow b P O dy cm (op - 1) (mi_cpy Wh Wh 1 0 (op - 1).toNatClampNeg) (mi_cpy Mu Mu 1 0 (op - 1).toNatClampNeg) (sDrop N) := by
  obtain ⟨g1, g2, g3, g4, g5, g6⟩ := h
  subst g5
  obtain ⟨e1, hl, hg⟩ := sDrop_get hN h1 h5
  have tn := Int32.toNat_toInt (N.getD 18 0 - 1)
  refine ⟨fun j hj => ?_, ?_, ?_, fun j hj => ?_, ?_, fun j hj => ?_⟩
  · rw [hg j, if_neg (by omega), if_neg (by omega)]; exact g1 j hj
  · rw [hg 8, if_neg (by omega), if_neg (by omega)]; exact g2
  · rw [hg 9, if_neg (by omega), if_neg (by omega)]; exact g3
  · rw [hg (10 + j), if_neg (by omega), if_neg (by omega)]; exact g4 j hj
  · rw [hg 18, if_pos rfl]
  · obtain ⟨q1, q2, q3, q4⟩ := g6 (j + 1) (by omega)
    rw [cpy_g (by omega) (by omega), cpy_g (by omega) (by omega), if_pos (by omega), if_pos (by omega), hg (19 + j), hg (25 + j), if_neg (by omega), if_pos (by omega), if_neg (by omega), if_pos (by omega), show 1 + (j - 0) = j + 1 by omega, show 19 + j + 1 = 19 + (j + 1) by omega, show 25 + j + 1 = 25 + (j + 1) by omega]
    exact ⟨q1, q2, q3, q4⟩
theorem mIx {w c : Int32} (h0 : 0 ≤ w.toInt) (h1 : w.toInt < 8) (h2 : 0 ≤ c.toInt) (h3 : c.toInt < 8) : (8 * w + c).toNatClampNeg = 8 * w.toNatClampNeg + c.toNatClampNeg := by
  have e0 : (8 * w).toInt = 8 * w.toInt := kd_cmul 8 (by decide) (by omega) (by omega)
  have e1 : (8 * w + c).toInt = (8 * w).toInt + c.toInt := kd_add (by omega) (by omega)
  have t1 := Int32.toNat_toInt (8 * w + c)
  have t2 := Int32.toNat_toInt w
  have t3 := Int32.toNat_toInt c
  omega
/-- the purses behind a payment -/
theorem mGive {P N : List Int32} {w c k : Nat} {x y : Int32} (hP : P.length = 8) (hN : N.length = 31) (hw : w < 8) (hc : c < 8) (h : ∀ j : Nat, j < 8 → P.getD j 0 = N.getD j 0) (_ : k = k) :
    (∀ j : Nat, j < 8 → ((P.set w (P.getD w 0 - x)).set c (sMn 999 ((P.set w (P.getD w 0 - x)).getD c 0 + y))).getD j 0 = ((N.set w (N.getD w 0 - x)).set c (sMn 999 ((N.set w (N.getD w 0 - x)).getD c 0 + y))).getD j 0) ∧ (∀ j : Nat, 8 ≤ j → ((N.set w (N.getD w 0 - x)).set c (sMn 999 ((N.set w (N.getD w 0 - x)).getD c 0 + y))).getD j 0 = N.getD j 0) := by
  constructor
  · intro j hj
    have e1 : ∀ (v z : Int32), ((P.set w v).set c z).getD j 0 = if j = c then z else if j = w then v else P.getD j 0 := fun v z => by rw [kset_gI (by rw [List.length_set]; omega), kset_gI (by omega)]
    have e2 : ∀ (v z : Int32), ((N.set w v).set c z).getD j 0 = if j = c then z else if j = w then v else N.getD j 0 := fun v z => by rw [kset_gI (by rw [List.length_set]; omega), kset_gI (by omega)]
    have e3 : ∀ (v : Int32), (P.set w v).getD c 0 = if c = w then v else P.getD c 0 := fun v => kset_gI (by omega)
    have e4 : ∀ (v : Int32), (N.set w v).getD c 0 = if c = w then v else N.getD c 0 := fun v => kset_gI (by omega)
    rw [e1, e2, e3, e4, h w hw, h c hc, h j hj]
  · intro j hj
    rw [kset_gI (by rw [List.length_set]; omega), if_neg (by omega), kset_gI (by omega), if_neg (by omega)]
theorem mNow_N {b : Int32} {P P1 O : List Int32} {dy cm op : Int32} {Wh Mu N N1 : List Int32} (h : mNow b P O dy cm op Wh Mu N) (h1 : ∀ j : Nat, j < 8 → P1.getD j 0 = N1.getD j 0) (h2 : ∀ j : Nat, 8 ≤ j → N1.getD j 0 = N.getD j 0) : mNow b P1 O dy cm op Wh Mu N1 := by
  obtain ⟨g1, g2, g3, g4, g5, g6⟩ := h
  refine ⟨h1, by rw [h2 8 (by omega)]; exact g2, by rw [h2 9 (by omega)]; exact g3, fun j hj => by rw [h2 (10 + j) (by omega)]; exact g4 j hj, by rw [h2 18 (by omega)]; exact g5, fun j hj => by rw [h2 (19 + j) (by omega), h2 (25 + j) (by omega)]; exact g6 j hj⟩
theorem pay_same {b base c : Int32} {L0 O : List Int32} {dy cm : Int32} {T : kCt} {S : kSt} (h : mP b base L0 O dy cm T S) (hb : b.toInt ≤ 8) (hc0 : 0 ≤ c.toInt) (hcb : c.toInt < b.toInt) (h1 : 1 ≤ T.1.toInt) (h5 : T.1.toInt ≤ 5) : mP b base L0 O dy cm (cPay b c T) (sPay c S) ∧ (cPay b c T).1.toInt = T.1.toInt - 1 ∧ (mF T S → mF (cPay b c T) (sPay c S)) := by
  obtain ⟨op, Wh, Mu, P, py, pd, L, F⟩ := T
  obtain ⟨N, py2, pd2, la, Fl⟩ := S
  obtain ⟨hn, e1, e2, e3, e4, ⟨l1, l2, l3, l4, l5⟩, l6, l7⟩ := h
  dsimp only at hn e1 e2 e3 e4 l1 l2 l3 l4 l5 l6 l7 h1 h5
  subst e1
  subst e2
  have hd := mDrop hn l6 l1 l2 h1 h5
  obtain ⟨q1, q2, q3, q4⟩ := hn.2.2.2.2.2 0 (by omega)
  have eop := mNow_18 hn
  obtain ⟨d1, d2, d3⟩ := sDrop_get l6 (by rw [← eop]; exact h1) (by rw [← eop]; exact h5)
  rw [← eop] at d1
  have tw := Int32.toNat_toInt (N.getD 19 0)
  have tc := Int32.toNat_toInt c
  have to := Int32.toNat_toInt (op - 1)
  have q1 : Wh.getD 0 0 = N.getD 19 0 := q1
  have q2 : Mu.getD 0 0 = N.getD 25 0 := q2
  rw [q1] at q3 q4
  have ew : (sDrop N).getD (N.getD 19 0).toNatClampNeg 0 = N.getD (N.getD 19 0).toNatClampNeg 0 := by rw [d3, if_neg (by omega), if_neg (by omega)]
  have ep : P.getD (N.getD 19 0).toNatClampNeg 0 = N.getD (N.getD 19 0).toNatClampNeg 0 := hn.1 _ (by omega)
  have ec : cCoin (op, Wh, Mu, P, py, pd, L, F) = sCoin N := by
    unfold cCoin sCoin
    dsimp only
    rw [q1, q2, ew, ep]
  by_cases cc : (N.getD 19 0).toInt = c.toInt
  · have e1 : cPay b c (op, Wh, Mu, P, py, pd, L, F) = cRest (op, Wh, Mu, P, py, pd, L, F) := if_neg (fun z => z.1 (by dsimp only; rw [q1]; exact cc))
    have e2 : sPay c (N, py, pd, la, Fl) = (sDrop N, if py.toInt = 8 then N.getD 19 0 else py, pd, la, Fl) := if_pos cc
    rw [e1, e2]
    unfold cRest
    dsimp only
    refine ⟨⟨hd, by dsimp only; rw [q1], rfl, e3, e4, ⟨?_, ?_, l3, l4, l5⟩, d2, l7⟩, d1, fun z => z⟩
    · rw [mi_cpy_len (by omega) (by omega)]; exact l1
    · rw [mi_cpy_len (by omega) (by omega)]; exact l2
  · have e1 : cPay b c (op, Wh, Mu, P, py, pd, L, F) = cGive c (op, Wh, Mu, P, py, pd, L, F) := if_pos ⟨by dsimp only; rw [q1]; exact cc, by dsimp only; rw [q1]; exact q3, by dsimp only; rw [q1]; exact q4⟩
    have e2 : sPay c (N, py, pd, la, Fl) = (sGive c N, if py.toInt = 8 then N.getD 19 0 else py, pd + sCoin N, la + (N.getD 25 0 - sCoin N), Fl.set (8 * N.getD 19 0 + c).toNatClampNeg (Fl.getD (8 * N.getD 19 0 + c).toNatClampNeg 0 + sCoin N)) := if_neg cc
    rw [e1, e2]
    unfold cGive
    rw [ec]
    unfold sGive
    dsimp only
    rw [q1, q2]
    obtain ⟨g1, g2⟩ := mGive (k := 0) (P := P) (N := sDrop N) (w := (N.getD 19 0).toNatClampNeg) (c := c.toNatClampNeg) (x := sCoin N) (y := sCoin N) l3 d2 (by omega) (by omega) (fun j hj => hd.1 j hj) rfl
    have ix := mIx (w := N.getD 19 0) (c := c) q3 (by omega) hc0 (by omega)
    refine ⟨⟨mNow_N hd g1 g2, rfl, rfl, ?_, ?_, ⟨?_, ?_, ?_, ?_, ?_⟩, ?_, ?_⟩, d1, ?_⟩
    · dsimp only
      rw [kset_gI (by omega), if_pos rfl, e3, Int32.add_assoc]
    · intro j hj
      dsimp only
      rw [kset_gI (by omega), if_neg hj]
      exact e4 j hj
    · dsimp only; rw [mi_cpy_len (by omega) (by omega)]; exact l1
    · dsimp only; rw [mi_cpy_len (by omega) (by omega)]; exact l2
    · dsimp only; rw [List.length_set, List.length_set]; exact l3
    · dsimp only; rw [List.length_set]; exact l4
    · intro u hu
      dsimp only
      cases Nat.beq u (N.getD 19 0).toNatClampNeg with
      | true => exact List.length_set.trans (l5 u hu)
      | false => exact l5 u hu
    · dsimp only; rw [List.length_set, List.length_set]; exact d2
    · dsimp only; rw [List.length_set]; exact l7
    · intro hF u v hu hv
      dsimp only
      rw [ix, kset_gI (by omega)]
      have hF := hF u v hu hv
      dsimp only at hF
      cases eb : Nat.beq u (N.getD 19 0).toNatClampNeg with
      | true =>
        have eu := Nat.eq_of_beq_eq_true eb
        show ((F u).set c.toNatClampNeg ((F u).getD c.toNatClampNeg 0 + sCoin N)).getD v 0 = _
        rw [kset_gI (by rw [l5 u hu]; omega)]
        by_cases cv : v = c.toNatClampNeg
        · rw [if_pos cv, if_pos (by omega), ← eu, ← cv, hF]
        · rw [if_neg cv, if_neg (by omega), hF]
      | false =>
        have eu : u ≠ (N.getD 19 0).toNatClampNeg := fun z => by rw [z, Nat.beq_refl] at eb; cases eb
        show (F u).getD v 0 = _
        rw [if_neg (by omega), hF]
theorem paid_same {b base c t3 : Int32} {L0 O : List Int32} {dy cm : Int32} (hb : b.toInt ≤ 8) (hc0 : 0 ≤ c.toInt) (hcb : c.toInt < b.toInt) (ht : 1 ≤ t3.toInt) : ∀ (n m : Nat) (T : kCt) (S : kSt), mP b base L0 O dy cm T S → T.1.toInt ≤ n → T.1.toInt ≤ m → T.1.toInt ≤ 5 → 0 ≤ T.1.toInt → mP b base L0 O dy cm (cPaid b t3 c n T) (sPaid t3 c m S) ∧ ((cPaid b t3 c n T).1.toInt < t3.toInt ∧ 0 ≤ (cPaid b t3 c n T).1.toInt) ∧ (mF T S → mF (cPaid b t3 c n T) (sPaid t3 c m S))
  | 0, m, T, S, h, hn, hm, h5, h0 => by
    rw [cPaid_done (by omega), sPaid_done (by rw [← mNow_18 h.1]; omega)]
    exact ⟨h, ⟨by omega, h0⟩, fun z => z⟩
  | n + 1, m, T, S, h, hn, hm, h5, h0 => by
    by_cases cc : t3.toInt ≤ T.1.toInt
    · obtain ⟨g1, g2, g3⟩ := pay_same h hb hc0 hcb (by omega) h5
      cases m with
      | zero => omega
      | succ m =>
        rw [cPaid_more cc, show sPaid t3 c (m + 1) S = sPaid t3 c m (sPay c S) from if_pos (by rw [← mNow_18 h.1]; exact cc)]
        obtain ⟨k1, k2, k3⟩ := paid_same hb hc0 hcb ht n m _ _ g1 (by omega) (by omega) (by omega) (by omega)
        exact ⟨k1, k2, fun z => k3 (g3 z)⟩
    · rw [cPaid_done (by omega), sPaid_done (by rw [← mNow_18 h.1]; omega)]
      exact ⟨h, ⟨by omega, h0⟩, fun z => z⟩
/-- one has come in -/
theorem come_now {b c bu : Int32} {P O : List Int32} {dy cm op : Int32} {Wh Mu N : List Int32} (h : mNow b P O dy cm op Wh Mu N) (hb : b.toInt ≤ 8) (hc0 : 0 ≤ c.toInt) (hcb : c.toInt < b.toInt) (h0 : 0 ≤ op.toInt) (h4 : op.toInt ≤ 4) (hO : O.length = 8) (hW : Wh.length = 5) (hM : Mu.length = 5) (hN : N.length = 31) : mNow b P (O.set c.toNatClampNeg (O.getD c.toNatClampNeg 0 + 1)) dy (cm + 1) (op + 1) (Wh.set op.toNatClampNeg c) (Mu.set op.toNatClampNeg bu) (sCome c bu N) ∧ (sCome c bu N).length = 31 ∧ (op + 1).toInt = op.toInt + 1 := by
  obtain ⟨g1, g2, g3, g4, g5, g6⟩ := h
  have k18 : (18 : Int32).toNatClampNeg = 18 := by decide
  have k9 : (9 : Int32).toNatClampNeg = 9 := by decide
  have tc := Int32.toNat_toInt c
  have to := Int32.toNat_toInt op
  have e1 : (op + 1).toInt = op.toInt + 1 := by
    have := kd_add (x := op) (y := 1) (by rw [(by decide : (1 : Int32).toInt = 1)]; omega) (by rw [(by decide : (1 : Int32).toInt = 1)]; omega)
    rw [this, (by decide : (1 : Int32).toInt = 1)]
  have i1 : (19 + op).toNatClampNeg = 19 + op.toNatClampNeg := by
    have e : (19 + op).toInt = (19 : Int32).toInt + op.toInt := kd_add (by rw [(by decide : (19 : Int32).toInt = 19)]; omega) (by rw [(by decide : (19 : Int32).toInt = 19)]; omega)
    rw [(by decide : (19 : Int32).toInt = 19)] at e
    have := Int32.toNat_toInt (19 + op)
    omega
  have i2 : (25 + op).toNatClampNeg = 25 + op.toNatClampNeg := by
    have e : (25 + op).toInt = (25 : Int32).toInt + op.toInt := kd_add (by rw [(by decide : (25 : Int32).toInt = 25)]; omega) (by rw [(by decide : (25 : Int32).toInt = 25)]; omega)
    rw [(by decide : (25 : Int32).toInt = 25)] at e
    have := Int32.toNat_toInt (25 + op)
    omega
  have i3 : (10 + c).toNatClampNeg = 10 + c.toNatClampNeg := by
    have e : (10 + c).toInt = (10 : Int32).toInt + c.toInt := kd_add (by rw [(by decide : (10 : Int32).toInt = 10)]; omega) (by rw [(by decide : (10 : Int32).toInt = 10)]; omega)
    rw [(by decide : (10 : Int32).toInt = 10)] at e
    have := Int32.toNat_toInt (10 + c)
    omega
  -- the five stores
  have s1 : sC1 c N = N.set (19 + op.toNatClampNeg) c := by unfold sC1; rw [k18, ← g5, i1]
  have f1 : (N.set (19 + op.toNatClampNeg) c).getD 18 0 = op := by rw [kset_gI (by omega), if_neg (by omega), ← g5]
  have s2 : sC2 bu (sC1 c N) = (N.set (19 + op.toNatClampNeg) c).set (25 + op.toNatClampNeg) bu := by rw [s1]; unfold sC2; rw [k18, f1, i2]
  have f2 : ((N.set (19 + op.toNatClampNeg) c).set (25 + op.toNatClampNeg) bu).getD 18 0 = op := by rw [kset_gI (by rw [List.length_set]; omega), if_neg (by omega), f1]
  have s3 : sC3 (sC2 bu (sC1 c N)) = ((N.set (19 + op.toNatClampNeg) c).set (25 + op.toNatClampNeg) bu).set 18 (op + 1) := by rw [s2]; unfold sC3; rw [k18, f2]
  have f3 : (((N.set (19 + op.toNatClampNeg) c).set (25 + op.toNatClampNeg) bu).set 18 (op + 1)).getD 9 0 = cm := by
    rw [kset_gI (by rw [List.length_set, List.length_set]; omega), if_neg (by omega), kset_gI (by rw [List.length_set]; omega), if_neg (by omega), kset_gI (by omega), if_neg (by omega), ← g3]
  have s4 : sC4 (sC3 (sC2 bu (sC1 c N))) = (((N.set (19 + op.toNatClampNeg) c).set (25 + op.toNatClampNeg) bu).set 18 (op + 1)).set 9 (cm + 1) := by rw [s3]; unfold sC4; rw [k9, f3]
  have f4 : ((((N.set (19 + op.toNatClampNeg) c).set (25 + op.toNatClampNeg) bu).set 18 (op + 1)).set 9 (cm + 1)).getD (10 + c.toNatClampNeg) 0 = O.getD c.toNatClampNeg 0 := by
    rw [kset_gI (by rw [List.length_set, List.length_set, List.length_set]; omega), if_neg (by omega), kset_gI (by rw [List.length_set, List.length_set]; omega), if_neg (by omega), kset_gI (by rw [List.length_set]; omega), if_neg (by omega), kset_gI (by omega), if_neg (by omega), g4 _ (by omega)]
  have s5 : sCome c bu N = ((((N.set (19 + op.toNatClampNeg) c).set (25 + op.toNatClampNeg) bu).set 18 (op + 1)).set 9 (cm + 1)).set (10 + c.toNatClampNeg) (O.getD c.toNatClampNeg 0 + 1) := by
    unfold sCome
    rw [s4]
    unfold sC5
    rw [i3, f4]
  have G : ∀ j : Nat, (sCome c bu N).getD j 0 = if j = 10 + c.toNatClampNeg then O.getD c.toNatClampNeg 0 + 1 else if j = 9 then cm + 1 else if j = 18 then op + 1 else if j = 25 + op.toNatClampNeg then bu else if j = 19 + op.toNatClampNeg then c else N.getD j 0 := fun j => by
    rw [s5, kset_gI (by rw [List.length_set, List.length_set, List.length_set, List.length_set]; omega), kset_gI (by rw [List.length_set, List.length_set, List.length_set]; omega), kset_gI (by rw [List.length_set, List.length_set]; omega), kset_gI (by rw [List.length_set]; omega), kset_gI (by omega)]
  refine ⟨⟨fun j hj => ?_, ?_, ?_, fun j hj => ?_, ?_, fun j hj => ?_⟩, by rw [s5, List.length_set, List.length_set, List.length_set, List.length_set, List.length_set]; exact hN, e1⟩
  · rw [G j, if_neg (by omega), if_neg (by omega), if_neg (by omega), if_neg (by omega), if_neg (by omega)]; exact g1 j hj
  · rw [G 8, if_neg (by omega), if_neg (by omega), if_neg (by omega), if_neg (by omega), if_neg (by omega)]; exact g2
  · rw [G 9, if_neg (by omega), if_pos rfl]
  · rw [G (10 + j), kset_gI (by omega)]
    by_cases cj : j = c.toNatClampNeg
    · rw [if_pos cj, if_pos (by omega)]
    · rw [if_neg cj, if_neg (by omega), if_neg (by omega), if_neg (by omega), if_neg (by omega), if_neg (by omega)]; exact g4 j hj
  · rw [G 18, if_neg (by omega), if_neg (by omega), if_pos rfl]
  · rw [kset_gI (by omega), kset_gI (by omega), G (19 + j), G (25 + j)]
    by_cases cj : j = op.toNatClampNeg
    · rw [if_pos cj, if_pos cj, if_neg (by omega), if_neg (by omega), if_neg (by omega), if_neg (by omega), if_pos (by omega), if_neg (by omega), if_neg (by omega), if_neg (by omega), if_pos (by omega)]
      exact ⟨rfl, rfl, hc0, hcb⟩
    · rw [if_neg cj, if_neg cj, if_neg (by omega), if_neg (by omega), if_neg (by omega), if_neg (by omega), if_neg (by omega), if_neg (by omega), if_neg (by omega), if_neg (by omega), if_neg (by omega), if_neg (by omega)]
      exact g6 j (by omega)
/-- an evening -/
theorem sZ_get {M : List Int32} (hM : M.length = 31) : ∀ n : Nat, n ≤ 9 → (sZ n M).length = 31 ∧ ∀ j : Nat, (sZ n M).getD j 0 = if 9 ≤ j ∧ j < 9 + n then 0 else M.getD j 0
  | 0, _ => ⟨hM, fun j => by rw [if_neg (by omega)]; rfl⟩
  | n + 1, hn => by
    obtain ⟨hl, ih⟩ := sZ_get hM n (by omega)
    unfold sZ
    refine ⟨by rw [List.length_set]; exact hl, fun j => ?_⟩
    rw [kset_gI (by omega), ih j]
    by_cases c : j = 9 + n
    · rw [if_pos c, if_pos (by omega)]
    · rw [if_neg c]
      by_cases c2 : 9 ≤ j ∧ j < 9 + n
      · rw [if_pos c2, if_pos (by omega)]
      · rw [if_neg c2, if_neg (by omega)]
theorem ends_now {b : Int32} {P O : List Int32} {dy cm op : Int32} {Wh Mu N : List Int32} (h : mNow b P O dy cm op Wh Mu N) (hN : N.length = 31) : mNow b P (List.replicate 8 0) (sMn 99 (dy + 1)) 0 op Wh Mu (sEnds N) ∧ (sEnds N).length = 31 := by
  obtain ⟨g1, g2, g3, g4, g5, g6⟩ := h
  have k8 : (8 : Int32).toNatClampNeg = 8 := by decide
  obtain ⟨hl, hg⟩ := sZ_get (M := N.set 8 (sMn 99 (N.getD 8 0 + 1))) (by rw [List.length_set]; exact hN) 9 (Nat.le_refl _)
  have e : sEnds N = sZ 9 (N.set 8 (sMn 99 (N.getD 8 0 + 1))) := by unfold sEnds; rw [k8]
  rw [e]
  have G : ∀ j : Nat, (sZ 9 (N.set 8 (sMn 99 (N.getD 8 0 + 1)))).getD j 0 = if 9 ≤ j ∧ j < 18 then 0 else if j = 8 then sMn 99 (N.getD 8 0 + 1) else N.getD j 0 := fun j => by
    rw [hg j, kset_gI (by omega)]
  refine ⟨⟨fun j hj => ?_, ?_, ?_, fun j hj => ?_, ?_, fun j hj => ?_⟩, hl⟩
  · rw [G j, if_neg (by omega), if_neg (by omega)]; exact g1 j hj
  · rw [G 8, if_neg (by omega), if_pos rfl, ← g2]
  · rw [G 9, if_pos (by omega)]
  · rw [G (10 + j), if_pos (by omega), List.getD_eq_getElem?_getD, List.getElem?_replicate]
    by_cases c : j < 8
    · rw [if_pos c]; rfl
    · rw [if_neg c]; rfl
  · rw [G 18, if_neg (by omega), if_neg (by omega)]; exact g5
  · rw [G (19 + j), G (25 + j), if_neg (by omega), if_neg (by omega), if_neg (by omega), if_neg (by omega)]
    exact g6 j hj
/-- a gift; any purses set alike -/
theorem gift_now {b c d v : Int32} {P O : List Int32} {dy cm op : Int32} {Wh Mu N : List Int32} (h : mNow b P O dy cm op Wh Mu N) (hb : b.toInt ≤ 8) (hc : 0 ≤ c.toInt ∧ c.toInt < b.toInt) (hd : 0 ≤ d.toInt ∧ d.toInt < b.toInt) (hP : P.length = 8) (hN : N.length = 31) : mNow b ((P.set c.toNatClampNeg (P.getD c.toNatClampNeg 0 - v)).set d.toNatClampNeg (sMn 999 ((P.set c.toNatClampNeg (P.getD c.toNatClampNeg 0 - v)).getD d.toNatClampNeg 0 + v))) O dy cm op Wh Mu ((N.set c.toNatClampNeg (N.getD c.toNatClampNeg 0 - v)).set d.toNatClampNeg (sMn 999 ((N.set c.toNatClampNeg (N.getD c.toNatClampNeg 0 - v)).getD d.toNatClampNeg 0 + v))) := by
  have tc := Int32.toNat_toInt c
  have td := Int32.toNat_toInt d
  obtain ⟨g1, g2⟩ := mGive (k := 0) (P := P) (N := N) (w := c.toNatClampNeg) (c := d.toNatClampNeg) (x := v) (y := v) hP hN (by omega) (by omega) h.1 rfl
  exact mNow_N h g1 g2
/-! THE LAW'S VALUE: one function for both -/
noncomputable def kBuy (told : Int32) (LV : List Int32 → Int32) (w pu h c o d : Int32) : Int32 := sMx 0 (sMn 99 (if told.toInt = 0 then 5 * w + h - 2 * o else LV [w, pu, h, c, o, d]))
/-- the class's law says LV, whatever lies on its stack -/
noncomputable def kLv (LV : List Int32 → Int32) (st wi : List Int32) (len : Int32) : Prop := ∀ (stk : List Int32) (w pu h c o d : Int32), stk.length = 121 → lRun st wi [w, pu, h, c, o, d] len 121 0 (stk, 0) = LV [w, pu, h, c, o, d]
theorem kBuy_c {told : Int32} {LV : List Int32 → Int32} {st wi stk : List Int32} {len w pu h c o d : Int32} (H : told.toInt ≠ 0 → kLv LV st wi len) (hs : stk.length = 121) : cBuyV told st wi stk len w pu h c o d = kBuy told LV w pu h c o d := by
  unfold cBuyV kBuy
  by_cases c0 : told.toInt = 0
  · rw [if_pos c0, if_pos c0]
  · rw [if_neg c0, if_neg c0, H c0 stk w pu h c o d hs]
theorem kBuy_r {told : Int32} {as sy en L : List Int32} {ln : Int32} {w pu h c o d : Int32} : rBuyV told (wLaw as sy en L [w, pu, h, c, o, d] ln.toInt.toNat 0) w h o = kBuy told (fun nm => wLaw as sy en L nm ln.toInt.toNat 0) w pu h c o d := rfl
end
