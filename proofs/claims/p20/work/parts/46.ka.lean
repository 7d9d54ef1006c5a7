/-! WHAT HOLDS BETWEEN TWO CALLS OF THE LAW -/
def kU (i : Nat → Int32) (a : Nat → List Int32) : Prop := kHold i a ∧ kCode i a ∧ kChg i a ∧ (i 7453).toInt ≤ (i 7452).toInt
def kBod (i : Nat → Int32) (a : Nat → List Int32) : Prop := (i 6017).toInt = (i 7455).toInt ∧ a 95 = a 134
def kAll (i : Nat → Int32) (a : Nat → List Int32) (q : Nat → List Int64) (r : Nat → Nat) : Prop := (kI i a q ∧ kr r) ∧ kU i a ∧ kShel i a q ∧ kBod i a
def kFrU (w : kW) : Bool := !kM w.1 7432 && (!kM w.1 7452 && (!kM w.1 7453 && (!kM w.2.1 120 && (!kM w.2.1 121 && (!kM w.2.1 122 && (!kM w.2.1 123 && (!kM w.2.1 133 && !kM w.2.1 136)))))))
def kFrS (w : kW) : Bool := (List.range 6).all (fun t => !kM w.1 (6656 + 128 * t) && (!kM w.1 (6657 + 128 * t) && (!kM w.1 (6658 + 128 * t) && (!kM w.1 (6659 + 128 * t) && !kM w.2.2.1 (105 + 2 * t))))) && (!kM w.2.1 136 && (!kM w.2.1 137 && !kM w.2.2.1 138))
def kFrB (w : kW) : Bool := !kM w.1 6017 && (!kM w.1 7455 && (!kM w.2.1 95 && !kM w.2.1 134))
section FR
variable {w : kW} {i i1 : Nat → Int32} {a a1 : Nat → List Int32} {q q1 : Nat → List Int64} {r r1 : Nat → Nat}
theorem kI_ln (hI : kI i a q) : ∀ t : Nat, t < 6 → 0 ≤ (i (6659 + 128 * t)).toInt ∧ (i (6659 + 128 * t)).toInt ≤ 60 := fun t ht => match t, ht with
  | 0, _ => hI.1 6659
  | 1, _ => hI.1 6787
  | 2, _ => hI.1 6915
  | 3, _ => hI.1 7043
  | 4, _ => hI.1 7171
  | 5, _ => hI.1 7299
  | _ + 6, h => absurd h (by omega)
theorem kI_so (hI : kI i a q) : ∀ t : Nat, t < 6 → 0 ≤ (i (6658 + 128 * t)).toInt ∧ (i (6658 + 128 * t)).toInt ≤ 4 := fun t ht => match t, ht with
  | 0, _ => hI.1 6658
  | 1, _ => hI.1 6786
  | 2, _ => hI.1 6914
  | 3, _ => hI.1 7042
  | 4, _ => hI.1 7170
  | 5, _ => hI.1 7298
  | _ + 6, h => absurd h (by omega)
theorem kI_ho (hI : kI i a q) : ∀ t : Nat, t < 6 → 0 ≤ (i (6656 + 128 * t)).toInt ∧ (i (6656 + 128 * t)).toInt ≤ 2 := fun t ht => match t, ht with
  | 0, _ => hI.1 6656
  | 1, _ => hI.1 6784
  | 2, _ => hI.1 6912
  | 3, _ => hI.1 7040
  | 4, _ => hI.1 7168
  | 5, _ => hI.1 7296
  | _ + 6, h => absurd h (by omega)
theorem kI_ql (hI : kI i a q) : ∀ t : Nat, t < 6 → (q (105 + 2 * t)).length = 60 := fun t ht => match t, ht with
  | 0, _ => hI.2.2.2 105
  | 1, _ => hI.2.2.2 107
  | 2, _ => hI.2.2.2 109
  | 3, _ => hI.2.2.2 111
  | 4, _ => hI.2.2.2 113
  | 5, _ => hI.2.2.2 115
  | _ + 6, h => absurd h (by omega)
theorem kU_fr (g : kG w i a q r i1 a1 q1 r1) (f : kFrU w = true) (h : kU i a) : kU i1 a1 := by
  unfold kFrU at f
  simp only [Bool.and_eq_true, Bool.not_eq_true'] at f
  obtain ⟨f1, f2, f3, f4, f5, f6, f7, f8, f9⟩ := f
  exact ⟨kHold_of h.1 (g.fa _ f9), kCode_of h.2.1 (g.fi _ f1) (g.fa _ f4) (g.fa _ f5) (g.fa _ f6) (g.fa _ f7), kChg_of h.2.2.1 (g.fa _ f8), by rw [g.fi _ f2, g.fi _ f3]; exact h.2.2.2⟩
theorem kShel_fr (g : kG w i a q r i1 a1 q1 r1) (hI : kI i a q) (f : kFrS w = true) (h : kShel i a q) : kShel i1 a1 q1 := by
  unfold kFrS at f
  simp only [Bool.and_eq_true, Bool.not_eq_true', List.all_eq_true, List.mem_range] at f
  obtain ⟨f1, f2, f3, f4⟩ := f
  intro t ht
  obtain ⟨b0, b1, b2, b3, b4⟩ := f1 t ht
  exact kSh1_of (h t ht) (kVw_eq (g.fi _ b0) (g.fi _ b1) (g.fi _ b2) (g.fi _ b3) (g.fq _ b4)) (by rw [g.fa _ f2]) (by rw [g.fa _ f3]) (fun j _ => by rw [g.fq _ f4]) (kI_ln hI t ht).2
theorem kBod_fr (g : kG w i a q r i1 a1 q1 r1) (f : kFrB w = true) (h : kBod i a) : kBod i1 a1 := by
  unfold kFrB at f
  simp only [Bool.and_eq_true, Bool.not_eq_true'] at f
  obtain ⟨f1, f2, f3, f4⟩ := f
  exact ⟨by rw [g.fi _ f1, g.fi _ f2]; exact h.1, by rw [g.fa _ f3, g.fa _ f4]; exact h.2⟩
theorem kAll_fr (g : kG w i a q r i1 a1 q1 r1) (f : (kFrU w && (kFrS w && kFrB w)) = true) (h : kAll i a q r) : kAll i1 a1 q1 r1 := by
  obtain ⟨f1, f2⟩ := Bool.and_eq_true_iff.mp f
  obtain ⟨f2, f3⟩ := Bool.and_eq_true_iff.mp f2
  exact ⟨⟨g.I, g.R⟩, kU_fr g f1 h.2.1, kShel_fr g h.1.1 f2 h.2.2.1, kBod_fr g f3 h.2.2.2⟩
/-- the three methods of the reference that write what kU speaks of, and its law -/
theorem kAll_law (g : kG w i a q r i1 a1 q1 r1) (f : (!kM w.1 7452 && (!kM w.1 7453 && (!kM w.2.1 133 && !kM w.2.1 136)) && (kFrS w && kFrB w)) = true) (hc : kCode i1 a1) (h : kAll i a q r) : kAll i1 a1 q1 r1 := by
  simp only [Bool.and_eq_true, Bool.not_eq_true'] at f
  obtain ⟨⟨f1, f2, f3, f4⟩, f5, f6⟩ := f
  exact ⟨⟨g.I, g.R⟩, ⟨kHold_of h.2.1.1 (g.fa _ f4), hc, kChg_of h.2.1.2.2.1 (g.fa _ f3), by rw [g.fi _ f1, g.fi _ f2]; exact h.2.1.2.2.2⟩, kShel_fr g h.1.1 f5 h.2.2.1, kBod_fr g f6 h.2.2.2⟩
theorem kAll_chg (g : kG w i a q r i1 a1 q1 r1) (f : (!kM w.1 7432 && (!kM w.2.1 120 && (!kM w.2.1 121 && (!kM w.2.1 122 && (!kM w.2.1 123 && !kM w.2.1 136)))) && (kFrS w && kFrB w)) = true) (hc : kChg i1 a1) (hd : (i1 7453).toInt ≤ (i1 7452).toInt) (h : kAll i a q r) : kAll i1 a1 q1 r1 := by
  simp only [Bool.and_eq_true, Bool.not_eq_true'] at f
  obtain ⟨⟨f1, f2, f3, f4, f5, f6⟩, f7, f8⟩ := f
  exact ⟨⟨g.I, g.R⟩, ⟨kHold_of h.2.1.1 (g.fa _ f6), kCode_of h.2.1.2.1 (g.fi _ f1) (g.fa _ f2) (g.fa _ f3) (g.fa _ f4) (g.fa _ f5), hc, hd⟩, kShel_fr g h.1.1 f7 h.2.2.1, kBod_fr g f8 h.2.2.2⟩
end FR
theorem kset_gI {l : List Int32} {j m : Nat} {x : Int32} (h : j < l.length) : (l.set j x).getD m 0 = if m = j then x else l.getD m 0 := by
  by_cases e : m = j
  · subst e
    rw [if_pos rfl, List.getD_eq_getElem?_getD, List.getElem?_set_self h]
    rfl
  · rw [if_neg e, List.getD_eq_getElem?_getD, List.getElem?_set_ne (fun z => e z.symm), ← List.getD_eq_getElem?_getD]
theorem kj_t {x : Int32} {t : Nat} (c : (t : Int) = x.toInt) : x.toNatClampNeg = t := by have := Int32.toNat_toInt x; omega
theorem kj_ix {x y : Int32} {t j : Nat} (ht : (t : Int) = x.toInt) (h6 : t < 6) (hj : (j : Int) = y.toInt) (hk : j < 60) : ((60 * x) + y).toNatClampNeg = 60 * t + j := by
  have e0 : (60 * x).toInt = 60 * x.toInt := kd_cmul 60 (by decide) (by omega) (by omega)
  have e1 : ((60 * x) + y).toInt = (60 * x).toInt + y.toInt := kd_add (by omega) (by omega)
  have := Int32.toNat_toInt ((60 * x) + y)
  omega
theorem kj_v {v w : Int32} (h : v.toInt = w.toInt) : v = w := Int32.toInt_inj.mp h
theorem kj_v1 {v : Int32} (h : v.toInt = 1) : v = 1 := Int32.toInt_inj.mp (h.trans (by decide))
theorem kj_1v {v : Int32} (h : v = 1) : v.toInt = 1 := by subst h; decide

theorem st_keep {i i1 i2 : Nat → Int32} {a a1 a2 : Nat → List Int32} {q q1 q2 : Nat → List Int64} {r r1 r2 : Nat → Nat} {v w : Int32} {x1 : Int32} {x2 : Int32} (h : kAll i a q r) (g1 : kG xw113_0 i a q r i1 a1 q1 r1) (P1 : ((((v.toInt = 1) ∧ (((0 : Int) ≤ x1.toInt) ∧ (x1.toInt ≤ 5) ∧ ((x2.toInt = (-1)) ∨ (((0 : Int) ≤ x2.toInt) ∧ (x2.toInt < (i 6017).toInt))))) ∨ ((v.toInt = (-1)) ∧ (¬ (((0 : Int) ≤ x1.toInt) ∧ (x1.toInt ≤ 5) ∧ ((x2.toInt = (-1)) ∨ (((0 : Int) ≤ x2.toInt) ∧ (x2.toInt < (i 6017).toInt))))))) ∧ ((((v.toInt = 1) ∧ (x1.toInt = 0)) → ((((x2.toInt < 0) ∧ ((i1 6656).toInt = 0)) ∨ (((0 : Int) ≤ x2.toInt) ∧ ((i1 6656).toInt = 1))) ∧ ((i1 6657).toInt = x2.toInt)))) ∧ ((((v.toInt = 1) ∧ (x1.toInt = 1)) → ((((x2.toInt < 0) ∧ ((i1 6784).toInt = 0)) ∨ (((0 : Int) ≤ x2.toInt) ∧ ((i1 6784).toInt = 1))) ∧ ((i1 6785).toInt = x2.toInt)))) ∧ ((((v.toInt = 1) ∧ (x1.toInt = 2)) → ((((x2.toInt < 0) ∧ ((i1 6912).toInt = 0)) ∨ (((0 : Int) ≤ x2.toInt) ∧ ((i1 6912).toInt = 1))) ∧ ((i1 6913).toInt = x2.toInt)))) ∧ ((((v.toInt = 1) ∧ (x1.toInt = 3)) → ((((x2.toInt < 0) ∧ ((i1 7040).toInt = 0)) ∨ (((0 : Int) ≤ x2.toInt) ∧ ((i1 7040).toInt = 1))) ∧ ((i1 7041).toInt = x2.toInt)))) ∧ ((((v.toInt = 1) ∧ (x1.toInt = 4)) → ((((x2.toInt < 0) ∧ ((i1 7168).toInt = 0)) ∨ (((0 : Int) ≤ x2.toInt) ∧ ((i1 7168).toInt = 1))) ∧ ((i1 7169).toInt = x2.toInt)))) ∧ ((((v.toInt = 1) ∧ (x1.toInt = 5)) → ((((x2.toInt < 0) ∧ ((i1 7296).toInt = 0)) ∨ (((0 : Int) ≤ x2.toInt) ∧ ((i1 7296).toInt = 1))) ∧ ((i1 7297).toInt = x2.toInt))))) ∧ ((v = 1 → kOth i q i1 q1 x1.toInt) ∧ (v ≠ 1 → ∀ t : Nat, t < 6 → kVw i1 q1 t = kVw i q t))) (g2 : kG xw217_116 i1 a1 q1 r1 i2 a2 q2 r2) (P2 : (((w.toInt = 1) ∧ (((0 : Int) ≤ x1.toInt) ∧ (x1.toInt ≤ 5) ∧ (((-1) : Int) ≤ x2.toInt) ∧ (x2.toInt < (i1 7455).toInt))) ∨ ((w.toInt = (-1)) ∧ (¬ (((0 : Int) ≤ x1.toInt) ∧ (x1.toInt ≤ 5) ∧ (((-1) : Int) ≤ x2.toInt) ∧ (x2.toInt < (i1 7455).toInt))))) ∧ ((w = 1 → ∃ w : Int32, ((x2.toInt < 0 ∧ w.toInt = -1) ∨ (0 ≤ x2.toInt ∧ w.toInt = 10 + x2.toInt)) ∧ a2 136 = (a1 136).set x1.toNatClampNeg w ∧ a2 137 = (a1 137).set x1.toNatClampNeg 0) ∧ (w ≠ 1 → a2 136 = a1 136 ∧ a2 137 = a1 137))) : kAll i2 a2 q2 r2 ∧ v = w := by
  obtain ⟨⟨D, I0, I1, I2, I3, I4, I5⟩, o1, o2⟩ := P1
  obtain ⟨D1, p1, p2⟩ := P2
  have hC : v.toInt = 1 → ∀ t : Nat, t < 6 → (t : Int) = x1.toInt → ((x2.toInt < 0 ∧ (i1 (6656 + 128 * t)).toInt = 0) ∨ ((0 : Int) ≤ x2.toInt ∧ (i1 (6656 + 128 * t)).toInt = 1)) ∧ (i1 (6657 + 128 * t)).toInt = x2.toInt := fun hv1 t ht c => match t, ht, c with
    | 0, _, c => I0 ⟨hv1, c.symm⟩
    | 1, _, c => I1 ⟨hv1, c.symm⟩
    | 2, _, c => I2 ⟨hv1, c.symm⟩
    | 3, _, c => I3 ⟨hv1, c.symm⟩
    | 4, _, c => I4 ⟨hv1, c.symm⟩
    | 5, _, c => I5 ⟨hv1, c.symm⟩
    | _ + 6, hh, _ => absurd hh (by omega)
  clear I0 I1 I2 I3 I4 I5
  have eb := h.2.2.2.1
  have eb0 := h.1.1.1 6017
  have eb2 : 0 ≤ (i 6017).toInt := eb0.1
  have eb1 := g1.ti 7455 rfl
  have e : v = w := kj_v (by omega)
  refine ⟨?_, e⟩
  have hU1 := kU_fr g1 rfl h.2.1
  have hB2 := kBod_fr g2 rfl (kBod_fr g1 rfl h.2.2.2)
  have hl : (a1 136).length = 6 := g1.I.2.1 136
  by_cases hv : v = 1
  · have hv1 := kj_1v hv
    obtain ⟨u, hu, e1, e2⟩ := p1 (e ▸ hv)
    have ho := o1 hv
    have hx : 0 ≤ x1.toInt ∧ x1.toInt ≤ 5 := by omega
    have tx := Int32.toNat_toInt x1
    refine ⟨⟨g2.I, g2.R⟩, ⟨fun j => ?_, kCode_of hU1.2.1 (g2.fi _ rfl) (g2.fa _ rfl) (g2.fa _ rfl) (g2.fa _ rfl) (g2.fa _ rfl), kChg_of hU1.2.2.1 (g2.fa _ rfl), ?_⟩, fun t ht => ?_, hB2⟩
    · rw [e1, kset_gI (by omega)]
      by_cases c : j = x1.toNatClampNeg
      · rw [if_pos c]; omega
      · rw [if_neg c]; exact hU1.1 j
    · rw [g2.fi 7453 rfl, g2.fi 7452 rfl]; exact hU1.2.2.2
    · by_cases c : (t : Int) = x1.toInt
      · have hc := hC hv1 t ht c
        unfold kSh1
        rw [g2.fi _ rfl, g2.fi _ rfl, e1, e2, kset_gI (by omega), if_pos (by omega)]
        refine ⟨fun z => by omega, fun z => by omega, fun z => absurd z (by omega)⟩
      · have hn := ho t ht c
        refine kSh1_of (h.2.2.1 t ht) ((kVw_eq (g2.fi _ rfl) (g2.fi _ rfl) (g2.fi _ rfl) (g2.fi _ rfl) (g2.fq _ rfl)).trans hn) ?_ ?_ (fun j _ => by rw [g2.fq _ rfl, g1.fq _ rfl]) (kI_ln h.1.1 t ht).2
        · rw [e1, kset_gI (by omega), if_neg (by omega), g1.fa _ rfl]
        · have hl2 : (a1 137).length = 6 := g1.I.2.1 137
          rw [e2, kset_gI (by omega), if_neg (by omega), g1.fa _ rfl]
  · have hs := o2 hv
    obtain ⟨e1, e2⟩ := p2 (e ▸ hv)
    refine ⟨⟨g2.I, g2.R⟩, ⟨kHold_of hU1.1 e1, kCode_of hU1.2.1 (g2.fi _ rfl) (g2.fa _ rfl) (g2.fa _ rfl) (g2.fa _ rfl) (g2.fa _ rfl), kChg_of hU1.2.2.1 (g2.fa _ rfl), ?_⟩, fun t ht => ?_, hB2⟩
    · rw [g2.fi 7453 rfl, g2.fi 7452 rfl]; exact hU1.2.2.2
    · exact kSh1_of (h.2.2.1 t ht) ((kVw_eq (g2.fi _ rfl) (g2.fi _ rfl) (g2.fi _ rfl) (g2.fi _ rfl) (g2.fq _ rfl)).trans (hs t ht)) (by rw [e1, g1.fa _ rfl]) (by rw [e2, g1.fa _ rfl]) (fun j _ => by rw [g2.fq _ rfl, g1.fq _ rfl]) (kI_ln h.1.1 t ht).2
theorem st_row {i i1 i2 : Nat → Int32} {a a1 a2 : Nat → List Int32} {q q1 q2 : Nat → List Int64} {r r1 r2 : Nat → Nat} {v w : Int32} {x1 : Int32} {x2 : Int32} {x3 : Int32} (h : kAll i a q r) (g1 : kG xw114_0 i a q r i1 a1 q1 r1) (P1 : ((((v.toInt = 1) ∧ (((0 : Int) ≤ x1.toInt) ∧ (x1.toInt ≤ 5) ∧ ((0 : Int) ≤ x2.toInt) ∧ (x2.toInt ≤ 4) ∧ ((0 : Int) ≤ x3.toInt) ∧ (x3.toInt ≤ 60))) ∨ ((v.toInt = (-14)) ∧ ((0 : Int) ≤ x1.toInt) ∧ (x1.toInt ≤ 5) ∧ ((0 : Int) ≤ x2.toInt) ∧ (x2.toInt ≤ 4) ∧ (x3.toInt < 0)) ∨ ((v.toInt = (-1)) ∧ (¬ (((0 : Int) ≤ x1.toInt) ∧ (x1.toInt ≤ 5) ∧ ((0 : Int) ≤ x2.toInt) ∧ (x2.toInt ≤ 4) ∧ ((0 : Int) ≤ x3.toInt) ∧ (x3.toInt ≤ 60))) ∧ (¬ (((0 : Int) ≤ x1.toInt) ∧ (x1.toInt ≤ 5) ∧ ((0 : Int) ≤ x2.toInt) ∧ (x2.toInt ≤ 4) ∧ (x3.toInt < 0))))) ∧ ((((v.toInt = 1) ∧ (x1.toInt = 0)) → (((i1 6656).toInt = 2) ∧ ((i1 6658).toInt = x2.toInt) ∧ ((i1 6659).toInt = x3.toInt)))) ∧ ((((v.toInt = 1) ∧ (x1.toInt = 1)) → (((i1 6784).toInt = 2) ∧ ((i1 6786).toInt = x2.toInt) ∧ ((i1 6787).toInt = x3.toInt)))) ∧ ((((v.toInt = 1) ∧ (x1.toInt = 2)) → (((i1 6912).toInt = 2) ∧ ((i1 6914).toInt = x2.toInt) ∧ ((i1 6915).toInt = x3.toInt)))) ∧ ((((v.toInt = 1) ∧ (x1.toInt = 3)) → (((i1 7040).toInt = 2) ∧ ((i1 7042).toInt = x2.toInt) ∧ ((i1 7043).toInt = x3.toInt)))) ∧ ((((v.toInt = 1) ∧ (x1.toInt = 4)) → (((i1 7168).toInt = 2) ∧ ((i1 7170).toInt = x2.toInt) ∧ ((i1 7171).toInt = x3.toInt)))) ∧ ((((v.toInt = 1) ∧ (x1.toInt = 5)) → (((i1 7296).toInt = 2) ∧ ((i1 7298).toInt = x2.toInt) ∧ ((i1 7299).toInt = x3.toInt))))) ∧ ((v = 1 → kOth i q i1 q1 x1.toInt ∧ ∀ t : Nat, (t : Int) = x1.toInt → kZer (q1 (105 + 2 * t)) 0 x3.toInt.toNat) ∧ (v ≠ 1 → ∀ t : Nat, t < 6 → kVw i1 q1 t = kVw i q t))) (g2 : kG xw218_116 i1 a1 q1 r1 i2 a2 q2 r2) (P2 : (((w.toInt = 1) ∧ (((0 : Int) ≤ x1.toInt) ∧ (x1.toInt ≤ 5) ∧ ((0 : Int) ≤ x2.toInt) ∧ (x2.toInt ≤ 4) ∧ ((0 : Int) ≤ x3.toInt) ∧ (x3.toInt ≤ 60))) ∨ ((w.toInt = (-14)) ∧ ((0 : Int) ≤ x1.toInt) ∧ (x1.toInt ≤ 5) ∧ ((0 : Int) ≤ x2.toInt) ∧ (x2.toInt ≤ 4) ∧ (x3.toInt < 0)) ∨ ((w.toInt = (-1)) ∧ (¬ (((0 : Int) ≤ x1.toInt) ∧ (x1.toInt ≤ 5) ∧ ((0 : Int) ≤ x2.toInt) ∧ (x2.toInt ≤ 4) ∧ ((0 : Int) ≤ x3.toInt) ∧ (x3.toInt ≤ 60))) ∧ (¬ (((0 : Int) ≤ x1.toInt) ∧ (x1.toInt ≤ 5) ∧ ((0 : Int) ≤ x2.toInt) ∧ (x2.toInt ≤ 4) ∧ (x3.toInt < 0))))) ∧ ((w = 1 → a2 136 = (a1 136).set x1.toNatClampNeg x2 ∧ a2 137 = (a1 137).set x1.toNatClampNeg x3 ∧ kZer (q2 138) (60 * x1.toInt).toNat 60 ∧ kFar (q1 138) (q2 138) (60 * x1.toInt).toNat 60) ∧ (w ≠ 1 → a2 136 = a1 136 ∧ a2 137 = a1 137 ∧ q2 138 = q1 138))) : kAll i2 a2 q2 r2 ∧ v = w := by
  obtain ⟨⟨D, I0, I1, I2, I3, I4, I5⟩, o1, o2⟩ := P1
  obtain ⟨D1, p1, p2⟩ := P2
  have hC : v.toInt = 1 → ∀ t : Nat, t < 6 → (t : Int) = x1.toInt → (i1 (6656 + 128 * t)).toInt = 2 ∧ (i1 (6658 + 128 * t)).toInt = x2.toInt ∧ (i1 (6659 + 128 * t)).toInt = x3.toInt := fun hv1 t ht c => match t, ht, c with
    | 0, _, c => I0 ⟨hv1, c.symm⟩
    | 1, _, c => I1 ⟨hv1, c.symm⟩
    | 2, _, c => I2 ⟨hv1, c.symm⟩
    | 3, _, c => I3 ⟨hv1, c.symm⟩
    | 4, _, c => I4 ⟨hv1, c.symm⟩
    | 5, _, c => I5 ⟨hv1, c.symm⟩
    | _ + 6, hh, _ => absurd hh (by omega)
  clear I0 I1 I2 I3 I4 I5
  have e : v = w := kj_v (by omega)
  refine ⟨?_, e⟩
  have hU1 := kU_fr g1 rfl h.2.1
  have hB2 := kBod_fr g2 rfl (kBod_fr g1 rfl h.2.2.2)
  have hl : (a1 136).length = 6 := g1.I.2.1 136
  have hl2 : (a1 137).length = 6 := g1.I.2.1 137
  by_cases hv : v = 1
  · have hv1 := kj_1v hv
    obtain ⟨e1, e2, hz, hf⟩ := p1 (e ▸ hv)
    obtain ⟨ho, hq⟩ := o1 hv
    have hx : 0 ≤ x1.toInt ∧ x1.toInt ≤ 5 ∧ 0 ≤ x2.toInt ∧ x2.toInt ≤ 4 ∧ 0 ≤ x3.toInt ∧ x3.toInt ≤ 60 := by omega
    have tx := Int32.toNat_toInt x1
    refine ⟨⟨g2.I, g2.R⟩, ⟨fun j => ?_, kCode_of hU1.2.1 (g2.fi _ rfl) (g2.fa _ rfl) (g2.fa _ rfl) (g2.fa _ rfl) (g2.fa _ rfl), kChg_of hU1.2.2.1 (g2.fa _ rfl), ?_⟩, fun t ht => ?_, hB2⟩
    · rw [e1, kset_gI (by omega)]
      by_cases c : j = x1.toNatClampNeg
      · rw [if_pos c]; omega
      · rw [if_neg c]; exact hU1.1 j
    · rw [g2.fi 7453 rfl, g2.fi 7452 rfl]; exact hU1.2.2.2
    · by_cases c : (t : Int) = x1.toInt
      · have hc := hC hv1 t ht c
        unfold kSh1
        rw [g2.fi _ rfl, g2.fi _ rfl, g2.fi _ rfl, g2.fi _ rfl, e1, e2, kset_gI (by omega), if_pos (by omega), kset_gI (by omega), if_pos (by omega), g2.fq (105 + 2 * t) (by match t, ht with | 0, _ => rfl | 1, _ => rfl | 2, _ => rfl | 3, _ => rfl | 4, _ => rfl | 5, _ => rfl | _ + 6, hh => exact absurd hh (by omega))]
        refine ⟨fun z => absurd z (by omega), fun z => absurd z (by omega), fun z => ⟨by omega, by omega, fun j hj => ?_⟩⟩
        have z1 := hq t c j (by omega)
        have z2 := hz j (by omega)
        rw [Nat.zero_add] at z1
        have eb : (60 * x1.toInt).toNat = 60 * t := by omega
        rw [eb] at z2
        exact z1.trans z2.symm
      · have hn := ho t ht c
        refine kSh1_of (h.2.2.1 t ht) ((kVw_eq (g2.fi _ rfl) (g2.fi _ rfl) (g2.fi _ rfl) (g2.fi _ rfl) (g2.fq _ (by match t, ht with | 0, _ => rfl | 1, _ => rfl | 2, _ => rfl | 3, _ => rfl | 4, _ => rfl | 5, _ => rfl | _ + 6, hh => exact absurd hh (by omega)))).trans hn) ?_ ?_ (fun j hj => ?_) (kI_ln h.1.1 t ht).2
        · rw [e1, kset_gI (by omega), if_neg (by omega), g1.fa _ rfl]
        · rw [e2, kset_gI (by omega), if_neg (by omega), g1.fa _ rfl]
        · rw [hf (60 * t + j) (by omega), g1.fq _ rfl]
  · have hs := o2 hv
    obtain ⟨e1, e2, e3⟩ := p2 (e ▸ hv)
    refine ⟨⟨g2.I, g2.R⟩, ⟨kHold_of hU1.1 e1, kCode_of hU1.2.1 (g2.fi _ rfl) (g2.fa _ rfl) (g2.fa _ rfl) (g2.fa _ rfl) (g2.fa _ rfl), kChg_of hU1.2.2.1 (g2.fa _ rfl), ?_⟩, fun t ht => ?_, hB2⟩
    · rw [g2.fi 7453 rfl, g2.fi 7452 rfl]; exact hU1.2.2.2
    · exact kSh1_of (h.2.2.1 t ht) ((kVw_eq (g2.fi _ rfl) (g2.fi _ rfl) (g2.fi _ rfl) (g2.fi _ rfl) (g2.fq _ (by match t, ht with | 0, _ => rfl | 1, _ => rfl | 2, _ => rfl | 3, _ => rfl | 4, _ => rfl | 5, _ => rfl | _ + 6, hh => exact absurd hh (by omega)))).trans (hs t ht)) (by rw [e1, g1.fa _ rfl]) (by rw [e2, g1.fa _ rfl]) (fun j _ => by rw [e3, g1.fq _ rfl]) (kI_ln h.1.1 t ht).2
theorem st_put {i i1 i2 : Nat → Int32} {a a1 a2 : Nat → List Int32} {q q1 q2 : Nat → List Int64} {r r1 r2 : Nat → Nat} {v w : Int32} {x1 x2 : Int32} {x3 : Int64} (h : kAll i a q r) (g1 : kG xw115_0 i a q r i1 a1 q1 r1) (P1 : (((((x1.toInt < 0) ∨ ((5 : Int) < x1.toInt)) → (v.toInt < 0))) ∧ (((x1.toInt = 0) → (((v.toInt = 1) ∧ ((i 6656).toInt = 2) ∧ ((0 : Int) ≤ x2.toInt) ∧ (x2.toInt < (i 6659).toInt)) ∨ ((v.toInt < 0) ∧ (¬ (((i 6656).toInt = 2) ∧ ((0 : Int) ≤ x2.toInt) ∧ (x2.toInt < (i 6659).toInt))))))) ∧ (((x1.toInt = 1) → (((v.toInt = 1) ∧ ((i 6784).toInt = 2) ∧ ((0 : Int) ≤ x2.toInt) ∧ (x2.toInt < (i 6787).toInt)) ∨ ((v.toInt < 0) ∧ (¬ (((i 6784).toInt = 2) ∧ ((0 : Int) ≤ x2.toInt) ∧ (x2.toInt < (i 6787).toInt))))))) ∧ (((x1.toInt = 2) → (((v.toInt = 1) ∧ ((i 6912).toInt = 2) ∧ ((0 : Int) ≤ x2.toInt) ∧ (x2.toInt < (i 6915).toInt)) ∨ ((v.toInt < 0) ∧ (¬ (((i 6912).toInt = 2) ∧ ((0 : Int) ≤ x2.toInt) ∧ (x2.toInt < (i 6915).toInt))))))) ∧ (((x1.toInt = 3) → (((v.toInt = 1) ∧ ((i 7040).toInt = 2) ∧ ((0 : Int) ≤ x2.toInt) ∧ (x2.toInt < (i 7043).toInt)) ∨ ((v.toInt < 0) ∧ (¬ (((i 7040).toInt = 2) ∧ ((0 : Int) ≤ x2.toInt) ∧ (x2.toInt < (i 7043).toInt))))))) ∧ (((x1.toInt = 4) → (((v.toInt = 1) ∧ ((i 7168).toInt = 2) ∧ ((0 : Int) ≤ x2.toInt) ∧ (x2.toInt < (i 7171).toInt)) ∨ ((v.toInt < 0) ∧ (¬ (((i 7168).toInt = 2) ∧ ((0 : Int) ≤ x2.toInt) ∧ (x2.toInt < (i 7171).toInt))))))) ∧ (((x1.toInt = 5) → (((v.toInt = 1) ∧ ((i 7296).toInt = 2) ∧ ((0 : Int) ≤ x2.toInt) ∧ (x2.toInt < (i 7299).toInt)) ∨ ((v.toInt < 0) ∧ (¬ (((i 7296).toInt = 2) ∧ ((0 : Int) ≤ x2.toInt) ∧ (x2.toInt < (i 7299).toInt)))))))) ∧ ((v = 1 → kOth i q i1 q1 x1.toInt ∧ ∀ t : Nat, (t : Int) = x1.toInt → i1 (6656 + 128 * t) = i (6656 + 128 * t) ∧ i1 (6657 + 128 * t) = i (6657 + 128 * t) ∧ i1 (6658 + 128 * t) = i (6658 + 128 * t) ∧ i1 (6659 + 128 * t) = i (6659 + 128 * t) ∧ q1 (105 + 2 * t) = (q (105 + 2 * t)).set x2.toNatClampNeg (kNar (i (6658 + 128 * t)) x3)) ∧ (v ≠ 1 → ∀ t : Nat, t < 6 → kVw i1 q1 t = kVw i q t))) (g2 : kG xw221_116 i1 a1 q1 r1 i2 a2 q2 r2) (P2 : (((((x1.toInt < 0) ∨ ((5 : Int) < x1.toInt)) → (w.toInt < 0))) ∧ (((((0 : Int) ≤ x1.toInt) ∧ (x1.toInt ≤ 5)) → (((w.toInt = 1) ∧ ((0 : Int) ≤ ((a1 136).getD x1.toNatClampNeg 0).toInt) ∧ (((a1 136).getD x1.toNatClampNeg 0).toInt ≤ 4) ∧ ((0 : Int) ≤ x2.toInt) ∧ (x2.toInt < ((a1 137).getD x1.toNatClampNeg 0).toInt)) ∨ ((w.toInt < 0) ∧ (¬ (((0 : Int) ≤ ((a1 136).getD x1.toNatClampNeg 0).toInt) ∧ (((a1 136).getD x1.toNatClampNeg 0).toInt ≤ 4) ∧ ((0 : Int) ≤ x2.toInt) ∧ (x2.toInt < ((a1 137).getD x1.toNatClampNeg 0).toInt)))))))) ∧ ((w = 1 → q2 138 = (q1 138).set ((60 * x1) + x2).toNatClampNeg (kNar ((a1 136).getD x1.toNatClampNeg 0) x3)) ∧ (w ≠ 1 → q2 138 = q1 138))) : kAll i2 a2 q2 r2 := by
  obtain ⟨⟨D, I0, I1, I2, I3, I4, I5⟩, o1, o2⟩ := P1
  obtain ⟨⟨D1, D2⟩, p1, p2⟩ := P2
  have hU2 := kU_fr g2 rfl (kU_fr g1 rfl h.2.1)
  have hB2 := kBod_fr g2 rfl (kBod_fr g1 rfl h.2.2.2)
  have fq2 : ∀ t : Nat, t < 6 → q2 (105 + 2 * t) = q1 (105 + 2 * t) := fun t ht => g2.fq _ (by match t, ht with | 0, _ => rfl | 1, _ => rfl | 2, _ => rfl | 3, _ => rfl | 4, _ => rfl | 5, _ => rfl | _ + 6, hh => exact absurd hh (by omega))
  have hC : ∀ t : Nat, t < 6 → (t : Int) = x1.toInt → ((v.toInt = 1) ∧ ((i (6656 + 128 * t)).toInt = 2) ∧ ((0 : Int) ≤ x2.toInt) ∧ (x2.toInt < (i (6659 + 128 * t)).toInt)) ∨ ((v.toInt < 0) ∧ (¬ (((i (6656 + 128 * t)).toInt = 2) ∧ ((0 : Int) ≤ x2.toInt) ∧ (x2.toInt < (i (6659 + 128 * t)).toInt)))) := fun t ht c => match t, ht, c with
    | 0, _, c => I0 c.symm
    | 1, _, c => I1 c.symm
    | 2, _, c => I2 c.symm
    | 3, _, c => I3 c.symm
    | 4, _, c => I4 c.symm
    | 5, _, c => I5 c.symm
    | _ + 6, hh, _ => absurd hh (by omega)
  clear I0 I1 I2 I3 I4 I5
  have tx := Int32.toNat_toInt x1
  have ea : a1 136 = a 136 := g1.fa _ rfl
  have eb : a1 137 = a 137 := g1.fa _ rfl
  rw [ea, eb] at D2
  refine ⟨⟨g2.I, g2.R⟩, hU2, fun t ht => ?_, hB2⟩
  have ln := kI_ln h.1.1 t ht
  have so := kI_so h.1.1 t ht
  have ho := kI_ho h.1.1 t ht
  have hs := h.2.2.1 t ht
  by_cases hin : 0 ≤ x1.toInt ∧ x1.toInt ≤ 5
  · obtain ⟨s, hs6, hsx⟩ : ∃ s : Nat, s < 6 ∧ (s : Int) = x1.toInt := ⟨x1.toInt.toNat, by omega, by omega⟩
    have en : x1.toNatClampNeg = s := kj_t hsx
    have hc := hC s hs6 hsx
    have hr := D2 hin
    rw [en] at hr
    have lns := kI_ln h.1.1 s hs6
    have sos := kI_so h.1.1 s hs6
    have hos := kI_ho h.1.1 s hs6
    have hss := h.2.2.1 s hs6
    obtain ⟨h0, h1, h2⟩ := hss
    by_cases hv : v = 1
    · have hv1 := kj_1v hv
      have c2 : (i (6656 + 128 * s)).toInt = 2 ∧ 0 ≤ x2.toInt ∧ x2.toInt < (i (6659 + 128 * s)).toInt := by omega
      obtain ⟨m1, m2, m3⟩ := h2 c2.1
      have hw : w = 1 := kj_v1 (by omega)
      obtain ⟨ko_, kp⟩ := o1 hv
      obtain ⟨k0, k1, k2, k3, k4⟩ := kp s hsx
      have pw := p1 hw
      have eq0 : q1 138 = q 138 := g1.fq _ rfl
      rw [ea, en, eq0, kj_ix (j := x2.toNatClampNeg) hsx hs6 (by have := Int32.toNat_toInt x2; omega) (by have := Int32.toNat_toInt x2; omega)] at pw
      have esr : (a 136).getD s 0 = i (6658 + 128 * s) := Int32.toInt_inj.mp m1
      have lq : (q 138).length = 360 := h.1.1.2.2.2 138
      have tx2 := Int32.toNat_toInt x2
      by_cases c : t = s
      · subst c
        refine ⟨fun z => ?_, fun z => ?_, fun z => ?_⟩
        · rw [g2.fi _ rfl, k0] at z; omega
        · rw [g2.fi _ rfl, k0] at z; omega
        · rw [g2.fi _ rfl, g2.fi _ rfl, k2, k3, g2.fa _ rfl, g2.fa _ rfl, ea, eb, fq2 t ht, k4, pw]
          refine ⟨m1, m2, fun j hj => ?_⟩
          have l60 := kI_ql h.1.1 t ht
          rw [kset_getL (by omega), kset_getL (by omega), esr]
          by_cases cj : j = x2.toNatClampNeg
          · rw [if_pos cj, if_pos (by omega)]
          · rw [if_neg cj, if_neg (by omega)]; exact m3 j hj
      · refine kSh1_of hs ((kVw_eq (g2.fi _ rfl) (g2.fi _ rfl) (g2.fi _ rfl) (g2.fi _ rfl) (fq2 t ht)).trans (ko_ t ht (by omega))) (by rw [g2.fa _ rfl, ea]) (by rw [g2.fa _ rfl, eb]) (fun j hj => ?_) ln.2
        rw [pw, kset_getL (by omega), if_neg (by omega)]
    · have hv0 : v.toInt < 0 := by
        rcases hc with z | z
        · exact absurd (kj_v1 z.1) hv
        · exact z.1
      have hw : w ≠ 1 := fun z => by
        have := kj_1v z
        have hh : (i (6656 + 128 * s)).toInt = 2 := by
          rcases (show (i (6656 + 128 * s)).toInt = 0 ∨ (i (6656 + 128 * s)).toInt = 1 ∨ (i (6656 + 128 * s)).toInt = 2 by omega) with z0 | z0 | z0
          · have := h0 z0; omega
          · have := h1 z0; omega
          · exact z0
        obtain ⟨m1, m2, _⟩ := h2 hh
        omega
      exact kSh1_of hs ((kVw_eq (g2.fi _ rfl) (g2.fi _ rfl) (g2.fi _ rfl) (g2.fi _ rfl) (fq2 t ht)).trans (o2 hv t ht)) (by rw [g2.fa _ rfl, ea]) (by rw [g2.fa _ rfl, eb]) (fun j _ => by rw [p2 hw, g1.fq _ rfl]) ln.2
  · have hv : v ≠ 1 := fun z => by have := kj_1v z; have := D (by omega); omega
    have hw : w ≠ 1 := fun z => by have := kj_1v z; have := D1 (by omega); omega
    exact kSh1_of hs ((kVw_eq (g2.fi _ rfl) (g2.fi _ rfl) (g2.fi _ rfl) (g2.fi _ rfl) (fq2 t ht)).trans (o2 hv t ht)) (by rw [g2.fa _ rfl, ea]) (by rw [g2.fa _ rfl, eb]) (fun j _ => by rw [p2 hw, g1.fq _ rfl]) ln.2
theorem st_shift {i i1 i2 : Nat → Int32} {a a1 a2 : Nat → List Int32} {q q1 q2 : Nat → List Int64} {r r1 r2 : Nat → Nat} {v w : Int32} {x1 : Int32} {x2 : Int32} {x3 : Int32} {x4 : Int32} {x5 : Int32} (h : kAll i a q r) (g1 : kG xw117_0 i a q r i1 a1 q1 r1) (P1 : (True) ∧ ((∀ s t : Nat, s < 6 → t < 6 → (s : Int) = x1.toInt → (t : Int) = x3.toInt → kSfV (i (6656 + 128 * s)) (i (6656 + 128 * t)) (i (6658 + 128 * s)) (i (6658 + 128 * t)) (i (6659 + 128 * s)) (i (6659 + 128 * t)) x2 x4 x5 v ∧ (0 ≤ v.toInt → q1 (105 + 2 * t) = mi_cpy (q (105 + 2 * s)) (q (105 + 2 * t)) x2.toNatClampNeg x4.toNatClampNeg x5.toNatClampNeg ∧ ∀ u : Nat, u < 6 → u ≠ t → q1 (105 + 2 * u) = q (105 + 2 * u))) ∧ (v.toInt < 0 → (∀ u : Nat, u < 6 → q1 (105 + 2 * u) = q (105 + 2 * u))) ∧ (¬ (0 ≤ x1.toInt ∧ x1.toInt ≤ 5 ∧ 0 ≤ x3.toInt ∧ x3.toInt ≤ 5) → v.toInt = -1))) (g2 : kG xw223_116 i1 a1 q1 r1 i2 a2 q2 r2) (P2 : (True) ∧ (((0 ≤ x1.toInt ∧ x1.toInt ≤ 5 ∧ 0 ≤ x3.toInt ∧ x3.toInt ≤ 5) → kSfR ((a1 136).getD x1.toNatClampNeg 0) ((a1 136).getD x3.toNatClampNeg 0) ((a1 137).getD x1.toNatClampNeg 0) ((a1 137).getD x3.toNatClampNeg 0) x2 x4 x5 w) ∧ (¬ (0 ≤ x1.toInt ∧ x1.toInt ≤ 5 ∧ 0 ≤ x3.toInt ∧ x3.toInt ≤ 5) → w.toInt = -1) ∧ (0 ≤ w.toInt → kMov (q1 138) (q2 138) (60 * x1.toInt + x2.toInt) (60 * x3.toInt + x4.toInt) 0 x5.toInt) ∧ (w.toInt < 0 → q2 138 = q1 138))) : kAll i2 a2 q2 r2 ∧ v = w := by
  obtain ⟨_, c1, c2, c3⟩ := P1
  obtain ⟨_, d1, d2, d3, d4⟩ := P2
  have hU2 := kU_fr g2 rfl (kU_fr g1 rfl h.2.1)
  have hB2 := kBod_fr g2 rfl (kBod_fr g1 rfl h.2.2.2)
  have fq2 : ∀ t : Nat, t < 6 → q2 (105 + 2 * t) = q1 (105 + 2 * t) := fun t ht => g2.fq _ (by match t, ht with | 0, _ => rfl | 1, _ => rfl | 2, _ => rfl | 3, _ => rfl | 4, _ => rfl | 5, _ => rfl | _ + 6, hh => exact absurd hh (by omega))
  have ea : a1 136 = a 136 := g1.fa _ rfl
  have eb : a1 137 = a 137 := g1.fa _ rfl
  have eq0 : q1 138 = q 138 := g1.fq _ rfl
  rw [ea, eb] at d1
  rw [eq0] at d3 d4
  by_cases hin : 0 ≤ x1.toInt ∧ x1.toInt ≤ 5 ∧ 0 ≤ x3.toInt ∧ x3.toInt ≤ 5
  · obtain ⟨s, hs6, hsx⟩ : ∃ s : Nat, s < 6 ∧ (s : Int) = x1.toInt := ⟨x1.toInt.toNat, by omega, by omega⟩
    obtain ⟨t, ht6, htx⟩ : ∃ s : Nat, s < 6 ∧ (s : Int) = x3.toInt := ⟨x3.toInt.toNat, by omega, by omega⟩
    obtain ⟨V, mv⟩ := c1 s t hs6 ht6 hsx htx
    have R := d1 hin
    rw [kj_t hsx, kj_t htx] at R
    obtain ⟨s0, s1, s2⟩ := h.2.2.1 s hs6
    obtain ⟨t0, t1, t2⟩ := h.2.2.1 t ht6
    have lns := kI_ln h.1.1 s hs6
    have sos := kI_so h.1.1 s hs6
    have hos := kI_ho h.1.1 s hs6
    have lnt := kI_ln h.1.1 t ht6
    have sot := kI_so h.1.1 t ht6
    have hot := kI_ho h.1.1 t ht6
    have a1' : (i (6656 + 128 * s)).toInt = 2 → ((a 136).getD s 0).toInt = (i (6658 + 128 * s)).toInt ∧ ((a 137).getD s 0).toInt = (i (6659 + 128 * s)).toInt := fun z => ⟨(s2 z).1, (s2 z).2.1⟩
    have b1' : (i (6656 + 128 * t)).toInt = 2 → ((a 136).getD t 0).toInt = (i (6658 + 128 * t)).toInt ∧ ((a 137).getD t 0).toInt = (i (6659 + 128 * t)).toInt := fun z => ⟨(t2 z).1, (t2 z).2.1⟩
    have e : v = w := by
      unfold kSfV at V
      unfold kSfR at R
      rcases V with V | V | V | V <;> rcases R with R | R | R | R <;> first | (exact kj_v (by omega)) | (exact V.1.trans R.1.symm) | (exfalso; omega)
    refine ⟨⟨⟨g2.I, g2.R⟩, hU2, fun u hu => ?_, hB2⟩, e⟩
    have lnu := kI_ln h.1.1 u hu
    have hsu := h.2.2.1 u hu
    by_cases hv : 0 ≤ v.toInt
    · obtain ⟨k1, k2⟩ := mv hv
      have K := d3 (e ▸ hv)
      have F : v = x5 ∧ ((i (6656 + 128 * s)).toInt = 2 ∧ (i (6656 + 128 * t)).toInt = 2 ∧ (i (6658 + 128 * s)).toInt = (i (6658 + 128 * t)).toInt) ∧ (0 ≤ x2.toInt ∧ 0 ≤ x4.toInt ∧ 0 ≤ x5.toInt ∧ x2.toInt + x5.toInt ≤ (i (6659 + 128 * s)).toInt ∧ x4.toInt + x5.toInt ≤ (i (6659 + 128 * t)).toInt) := by
        unfold kSfV at V
        rcases V with V | V | V | V
        · omega
        · omega
        · omega
        · exact V
      obtain ⟨_, ⟨F1, F2, F3⟩, F4, F5, F6, F7, F8⟩ := F
      have y2 := Int32.toNat_toInt x2
      have y4 := Int32.toNat_toInt x4
      have y5 := Int32.toNat_toInt x5
      by_cases c : u = t
      · subst c
        refine ⟨fun z => ?_, fun z => ?_, fun z => ?_⟩
        · rw [g2.fi _ rfl, g1.fi _ rfl] at z; omega
        · rw [g2.fi _ rfl, g1.fi _ rfl] at z; omega
        · rw [g2.fi _ rfl, g2.fi _ rfl, g1.fi _ rfl, g1.fi _ rfl, g2.fa _ rfl, g2.fa _ rfl, ea, eb, fq2 u hu, k1]
          refine ⟨(t2 F2).1, (t2 F2).2.1, fun j hj => ?_⟩
          have l1 := kI_ql h.1.1 s hs6
          have l2 := kI_ql h.1.1 u hu
          rw [kcpy_at j (by omega) (by omega), K (60 * u + j)]
          by_cases cj : x4.toNatClampNeg ≤ j ∧ j < x4.toNatClampNeg + x5.toNatClampNeg
          · rw [if_pos cj, if_pos (by omega), (s2 F1).2.2 _ (by omega)]
            have en : 60 * s + (x2.toNatClampNeg + (j - x4.toNatClampNeg)) = (((60 * u + j : Nat) : Int) - (60 * x3.toInt + x4.toInt) + (60 * x1.toInt + x2.toInt)).toNat := by omega
            rw [en]
          · rw [if_neg cj, if_neg (by omega)]
            exact (t2 F2).2.2 j hj
      · refine kSh1_of hsu ((kVw_eq ((g2.fi _ rfl).trans (g1.fi _ rfl)) ((g2.fi _ rfl).trans (g1.fi _ rfl)) ((g2.fi _ rfl).trans (g1.fi _ rfl)) ((g2.fi _ rfl).trans (g1.fi _ rfl)) ((fq2 u hu).trans (k2 u hu c)))) (by rw [g2.fa _ rfl, ea]) (by rw [g2.fa _ rfl, eb]) (fun j hj => ?_) lnu.2
        rw [K (60 * u + j), if_neg (by omega)]
    · have e1 := c2 (by omega) u hu
      have e2 := d4 (by rw [← e]; omega)
      exact kSh1_of hsu ((kVw_eq ((g2.fi _ rfl).trans (g1.fi _ rfl)) ((g2.fi _ rfl).trans (g1.fi _ rfl)) ((g2.fi _ rfl).trans (g1.fi _ rfl)) ((g2.fi _ rfl).trans (g1.fi _ rfl)) ((fq2 u hu).trans e1))) (by rw [g2.fa _ rfl, ea]) (by rw [g2.fa _ rfl, eb]) (fun j _ => by rw [e2]) lnu.2
  · have v1 := c3 hin
    have w1 := d2 hin
    refine ⟨⟨⟨g2.I, g2.R⟩, hU2, fun u hu => ?_, hB2⟩, kj_v (by omega)⟩
    exact kSh1_of (h.2.2.1 u hu) ((kVw_eq ((g2.fi _ rfl).trans (g1.fi _ rfl)) ((g2.fi _ rfl).trans (g1.fi _ rfl)) ((g2.fi _ rfl).trans (g1.fi _ rfl)) ((g2.fi _ rfl).trans (g1.fi _ rfl)) ((fq2 u hu).trans (c2 (by omega) u hu)))) (by rw [g2.fa _ rfl, ea]) (by rw [g2.fa _ rfl, eb]) (fun j _ => by rw [d4 (by omega)]) (kI_ln h.1.1 u hu).2
theorem st_body {i i1 i2 : Nat → Int32} {a a1 a2 : Nat → List Int32} {q q1 q2 : Nat → List Int64} {r r1 r2 : Nat → Nat} {v w : Int32} {x1 : Int32} (h : kAll i a q r) (g1 : kG xw110_0 i a q r i1 a1 q1 r1) (P1 : (((v.toInt = (-1)) ∧ (¬ (((0 : Int) ≤ x1.toInt) ∧ (x1.toInt ≤ 7))) ∧ ((i1 6017).toInt = (i 6017).toInt)) ∨ (((0 : Int) ≤ x1.toInt) ∧ (x1.toInt ≤ 7) ∧ (((v.toInt = (-3)) ∧ ((50 : Int) ≤ (i 6017).toInt) ∧ ((i1 6017).toInt = (i 6017).toInt)) ∨ (((i 6017).toInt < 50) ∧ (v.toInt = (i 6017).toInt) ∧ ((i1 6017).toInt = ((i 6017).toInt + 1)))))) ∧ ((v.toInt < 0 → a1 95 = a 95) ∧ (0 ≤ v.toInt → a1 95 = (a 95).set (i 6017).toNatClampNeg x1))) (g2 : kG xw214_116 i1 a1 q1 r1 i2 a2 q2 r2) (P2 : (((w.toInt = (-1)) ∧ (¬ (((0 : Int) ≤ x1.toInt) ∧ (x1.toInt ≤ 7))) ∧ ((i2 7455).toInt = (i1 7455).toInt)) ∨ (((0 : Int) ≤ x1.toInt) ∧ (x1.toInt ≤ 7) ∧ (((w.toInt = (-3)) ∧ ((50 : Int) ≤ (i1 7455).toInt) ∧ ((i2 7455).toInt = (i1 7455).toInt)) ∨ (((i1 7455).toInt < 50) ∧ (w.toInt = (i1 7455).toInt) ∧ ((i2 7455).toInt = ((i1 7455).toInt + 1)))))) ∧ ((w.toInt < 0 → a2 134 = a1 134) ∧ (0 ≤ w.toInt → a2 134 = (a1 134).set (i1 7455).toNatClampNeg x1))) : kAll i2 a2 q2 r2 ∧ v = w := by
  obtain ⟨D, o1, o2⟩ := P1
  obtain ⟨D1, p1, p2⟩ := P2
  have e0 := h.2.2.2.1
  have e1 := g1.ti 7455 rfl
  have e2 := g2.ti 6017 rfl
  have b95 := g2.fa 95 rfl
  have b134 := g1.fa 134 rfl
  have e : v = w := kj_v (by omega)
  have hU2 := kU_fr g2 rfl (kU_fr g1 rfl h.2.1)
  have hS2 := kShel_fr g2 g1.I rfl (kShel_fr g1 h.1.1 rfl h.2.2.1)
  refine ⟨⟨⟨g2.I, g2.R⟩, hU2, hS2, by omega, ?_⟩, e⟩
  by_cases hv : v.toInt < 0
  · rw [b95, o1 hv, p1 (e ▸ hv), b134]; exact h.2.2.2.2
  · have ei : (i 6017) = (i1 7455) := kj_v (by omega)
    rw [b95, o2 (by omega), p2 (by rw [← e]; omega), b134, h.2.2.2.2, ei]


