/-! JUDGE: what is asked, of both sides -/
def fJd (K : gK) (S : gS) (n : Int) (L : List Int32) (len : Int) (C : Nat → Int) (v : Int32) : Prop := fUn n len C (fun j => ((gAt K L S (j + 1)).2.1).toInt) v
def cSe (i : Nat → Int32) (y v : Int32) (f : Nat → Prop) : Prop := (v.toInt < 0 ∧ cRb i y v) ∨ ∃ t : Nat, t < 6 ∧ y.toInt = (t : Int) ∧ ((i (6656 + 128 * t)).toInt = 2 ∧ (i (6658 + 128 * t)).toInt = 0) ∧ f t
def rSe (a : Nat → List Int32) (y v : Int32) (G : Prop) : Prop := rRb a y v ∨ (((a 136).getD y.toNatClampNeg 0).toInt = 0 ∧ G)
def rNr (a : Nat → List Int32) (x y v : Int32) : Prop := (v.toInt < 0 ∧ (rRb a x v ∨ (((a 136).getD x.toNatClampNeg 0).toInt = 0 ∧ rRb a y v))) ∨ (v = 0 ∧ ((a 136).getD x.toNatClampNeg 0).toInt = 0 ∧ ((a 136).getD y.toNatClampNeg 0).toInt = 0)
theorem fUn_c {n len : Int} {C Y Y1 : Nat → Int} {v : Int32} (hY : ∀ j : Nat, (j : Int) < n → Y j = Y1 j) (h : fUn n len C Y v) : fUn n len C Y1 v := by
  have t : ∀ j : Nat, uBad n C Y j → uBad n C Y1 j := fun j => uBad_eq rfl (hY j)
  have t1 : ∀ j : Nat, uBad n C Y1 j → uBad n C Y j := fun j => uBad_eq rfl (fun z => (hY j z).symm)
  rcases h with ⟨a, b⟩ | ⟨k, ka, kb, kc, kd⟩
  · exact Or.inl ⟨a, fun j hj z => b j hj (t1 j z)⟩
  · exact Or.inr ⟨k, ka, kb, t k kc, fun j hj z => kd j hj (t1 j z)⟩
theorem fJd_c {K : gK} {S : gS} {n n1 len len1 : Int} {C C1 : Nat → Int} {P P1 P2 L : List Int32} {v : Int32} (g : gOp K L S n P P1 P2) (h : fUn n1 len1 C1 (fun j => (P.getD j 0).toInt) v) (en : n1 = n) (el : len1 = len) (eC : C1 = C) : fJd K S n L len C v := by
  subst en
  subst el
  subst eC
  exact fUn_c (fun j hj => congrArg Int32.toInt (g j hj).1) h
theorem cRb_fr {w : kW} {i i1 : Nat → Int32} {a a1 : Nat → List Int32} {q q1 : Nat → List Int64} {r r1 : Nat → Nat} {x v : Int32} (g : kG w i a q r i1 a1 q1 r1) (f : kFrR w = true) (h : cRb i1 x v) : cRb i x v := by
  unfold kFrR at f
  rw [List.all_eq_true] at f
  rcases h with h | ⟨t, ht, et, h⟩
  · exact Or.inl h
  · refine Or.inr ⟨t, ht, et, ?_⟩
    have z := f t (List.mem_range.mpr ht)
    rw [Bool.and_eq_true, Bool.and_eq_true, Bool.and_eq_true, Bool.not_eq_true', Bool.not_eq_true', Bool.not_eq_true', Bool.not_eq_true'] at z
    rw [g.fi _ z.1, g.fi _ z.2.1] at h
    exact h
theorem cSe_go {i : Nat → Int32} {y u v : Int32} {t : Nat} {f : Nat → Prop} (ht : t < 6) (ey : y.toInt = (t : Int)) (h : cRb i y u) (hu : u.toInt = 0) (hf : f t) : cSe i y v f := Or.inr ⟨t, ht, ey, cRb_t h hu ey, hf⟩
theorem rNr_1 {a : Nat → List Int32} {x y v : Int32} (h : rNb a x v) (hv : v.toInt < 0) : rNr a x y v := Or.inl ⟨hv, Or.inl (rNb_r h hv)⟩
theorem rNr_2 {a : Nat → List Int32} {x y u v : Int32} (h : rNb a x u) (hu : ¬ (u.toInt < 0)) (h2 : rNb a y v) : rNr a x y v := by
  rcases h2 with ⟨z, z1⟩ | ⟨z, z1⟩
  · exact Or.inl ⟨z, Or.inr ⟨rNb_0 h hu, z1⟩⟩
  · exact Or.inr ⟨z, rNb_0 h hu, z1⟩
/-- some ROW is read -/
theorem kRd_ex (b : Int32) (len : Int) (V : Nat → Int32) (h0 : 0 ≤ len) : ∃ (n : Int) (L : List Int32), kRd b len V n L := by
  have t : ∀ m : Nat, m ≤ 20 → (m : Int) ≤ len → (∃ (n : Int) (L : List Int32), kRd b len V n L) ∨ ∀ j : Nat, j < m → 0 ≤ (V j).toInt ∧ (V j).toInt < b.toInt := by
    intro m
    induction m with
    | zero => exact fun _ _ => Or.inr (fun j hj => absurd hj (Nat.not_lt_zero j))
    | succ m ih =>
      intro hm hl
      rcases ih (by omega) (by omega) with z | z
      · exact Or.inl z
      · by_cases c : 0 ≤ (V m).toInt ∧ (V m).toInt < b.toInt
        · refine Or.inr (fun j hj => ?_)
          by_cases e : j = m
          · subst e
            exact c
          · exact z j (by omega)
        · refine Or.inl ⟨(m : Int), (List.range m).map V, ⟨by omega, by omega, by omega⟩, fun j hj => ?_, Or.inr (Or.inr ?_)⟩
          · have hj' : j < m := by omega
            refine ⟨?_, z j hj'⟩
            rw [List.getD_eq_getElem?_getD, List.getElem?_map, List.getElem?_range hj']
            rfl
          · rw [Int.toNat_natCast]
            exact c
  have f : ∀ m : Nat, m ≤ 20 → (m : Int) ≤ len → (m = 20 ∨ (m : Int) = len) → ∃ (n : Int) (L : List Int32), kRd b len V n L := by
    intro m hm hl he
    rcases t m hm hl with z | z
    · exact z
    · refine ⟨(m : Int), (List.range m).map V, ⟨by omega, by omega, by omega⟩, fun j hj => ?_, ?_⟩
      · have hj' : j < m := by omega
        refine ⟨?_, z j hj'⟩
        rw [List.getD_eq_getElem?_getD, List.getElem?_map, List.getElem?_range hj']
        rfl
      · rcases he with e | e
        · exact Or.inl (by omega)
        · exact Or.inr (Or.inl e)
  by_cases c : (20 : Int) ≤ len
  · exact f 20 (by omega) (by omega) (Or.inl rfl)
  · exact f len.toNat (by omega) (by omega) (Or.inr (by omega))
section JH
variable {ok : Prop} {i : Nat → Int32} {a : Nat → List Int32} {q : Nat → List Int64} {x y u v : Int32} {f : Int → List Int32 → Prop} {n : Int} {L : List Int32}
theorem rJd_bar (h0 : ok ∧ 0 ≤ x.toInt ∧ x.toInt ≤ 5) (h : rNr a x y v) (hv : v.toInt < 0) (hl : 0 ≤ ((a 137).getD x.toNatClampNeg 0).toInt) : rTop ok i a q x v (fun n L => rSe a y v (f n L)) := by
  refine Or.inr ⟨h0, ?_⟩
  rcases h with ⟨_, h | ⟨h, h1⟩⟩ | ⟨h, _⟩
  · exact Or.inl h
  · obtain ⟨n, L, d⟩ := kRd_ex (i 7424) ((a 137).getD x.toNatClampNeg 0).toInt (vQ (q 138) (60 * x.toInt).toNat) hl
    exact Or.inr ⟨n, L, ⟨h, d⟩, Or.inl h1⟩
  · rw [h] at hv
    exact absurd hv (by decide)
theorem rJd_go (h0 : ok ∧ 0 ≤ x.toInt ∧ x.toInt ≤ 5) (h : rNr a x y u) (hu : ¬ (u.toInt < 0)) (hd : kRd (i 7424) ((a 137).getD x.toNatClampNeg 0).toInt (vQ (q 138) (60 * x.toInt).toNat) n L) (hf : f n L) : rTop ok i a q x v (fun n L => rSe a y v (f n L)) := by
  rcases h with ⟨h, _⟩ | ⟨_, h, h1⟩
  · exact absurd h hu
  · exact Or.inr ⟨h0, Or.inr ⟨n, L, ⟨h, hd⟩, Or.inr ⟨h1, hf⟩⟩⟩
end JH
/-! the reference's walk -/
section JR
variable {K : gK} {S : gS} {n len : Int} {C Y : Nat → Int} {A B D A1 B1 D1 L : List Int32} {k k1 v w p : Int32}
theorem gOp_c (h : gOp K L S n A B D) (e1 : A1 = A) (e2 : B1 = B) (e3 : D1 = D) : gOp K L S n A1 B1 D1 := by
  subst e1
  subst e2
  subst e3
  exact h
theorem gOp_py (h : gOp K L S n A B D) (h0 : 0 ≤ k.toInt) (hm : k.toInt < n) : (A.getD k.toNatClampNeg 0).toInt = ((gAt K L S (k.toNatClampNeg + 1)).2.1).toInt := by
  have tk := Int32.toNat_toInt k
  exact congrArg Int32.toInt (h k.toNatClampNeg (by omega)).1
theorem uCr {Q : List Int64} {y : Int32} {m : Nat} (hy : y.toInt = (m : Int) + k.toInt) (h0 : 0 ≤ k.toInt) (hx : w = (Q.getD y.toNatClampNeg 0).toInt32) : w.toInt = (vQ Q m k.toNatClampNeg).toInt := by
  have tk := Int32.toNat_toInt k
  rw [hx, bt_idx (p := k.toNatClampNeg) (b := m) (by omega)]
theorem uNo_9r (h : uNo n C Y k.toInt) (h0 : 0 ≤ k.toInt) (h1 : k1.toInt = k.toInt + 1) (hn : k.toInt < n) (hw : w.toInt = C k.toNatClampNeg) (e : w.toInt = 9) : uNo n C Y k1.toInt := by
  have tk := Int32.toNat_toInt k
  intro j hj
  by_cases c : j = k.toNatClampNeg
  · subst c
    rintro (z | ⟨z, _⟩)
    · omega
    · exact z (hw.symm.trans e)
  · exact h j (by omega)
theorem uNo_yr (h : uNo n C Y k.toInt) (h0 : 0 ≤ k.toInt) (h1 : k1.toInt = k.toInt + 1) (hn : k.toInt < n) (hw : w.toInt = C k.toNatClampNeg) (hp : p.toInt = Y k.toNatClampNeg) (e : w.toInt = p.toInt) : uNo n C Y k1.toInt := by
  have tk := Int32.toNat_toInt k
  intro j hj
  by_cases c : j = k.toNatClampNeg
  · subst c
    rintro (z | ⟨_, z⟩)
    · omega
    · exact z (hw.symm.trans (e.trans hp))
  · exact h j (by omega)
theorem fUn_atr (h : uNo n C Y k.toInt) (h0 : 0 ≤ k.toInt) (hl : k.toInt < len) (hv : v.toInt = k.toInt) (hw : w.toInt = C k.toNatClampNeg) (hp : p.toInt = Y k.toNatClampNeg) (e : ¬ (w.toInt = 9) ∧ ¬ (w.toInt = p.toInt)) : fUn n len C Y v := by
  have tk := Int32.toNat_toInt k
  refine Or.inr ⟨k.toNatClampNeg, by omega, by omega, Or.inr ⟨fun z => e.1 (hw.trans z), fun z => e.2 ((hw.trans z).trans hp.symm)⟩, fun j hj => h j (by omega)⟩
end JR
/-! both alike -/
theorem by8_int {c : Int64} (h : by8 c) : c.toInt = c.toInt32.toInt := by
  have t : c.toInt32.toInt64.toInt = c.toInt32.toInt := Int32.toInt_toInt64 _
  rw [← t]
  exact congrArg Int64.toInt (show by8 c from h).symm
theorem fJd_same {K : gK} {S S1 : gS} {n len : Int} {L L1 : List Int32} {C C1 : Nat → Int} {u v : Int32} (hS : gEq S S1) (hL : ∀ j : Nat, (j : Int) < n → L.getD j 0 = L1.getD j 0) (hC : ∀ j : Nat, (j : Int) < len → C j = C1 j) (h : fJd K S n L len C u) (h1 : fJd K S1 n L1 len C1 v) : u = v := by
  refine fUn_same hC (fun j hj => ?_) h h1
  have e1 := gAt_row (K := K) (S := S1) hL (j + 1) (by omega)
  have e2 := (gAt_eq (K := K) (L := L) hS (j + 1)).2 (by omega)
  show ((gAt K L S (j + 1)).2.1).toInt = ((gAt K L1 S1 (j + 1)).2.1).toInt
  rw [e2, e1]
theorem se_same {i : Nat → Int32} {a : Nat → List Int32} {q : Nat → List Int64} {y v w : Int32} {F : Nat → Prop} {G : Prop} (K : kShel i a q) (hho : ∀ t : Nat, t < 6 → 0 ≤ (i (6656 + 128 * t)).toInt ∧ (i (6656 + 128 * t)).toInt ≤ 2) (hso : ∀ t : Nat, t < 6 → 0 ≤ (i (6658 + 128 * t)).toInt) (hy : 0 ≤ y.toInt ∧ y.toInt ≤ 5) (H : ∀ t : Nat, t < 6 → y.toInt = (t : Int) → (i (6656 + 128 * t)).toInt = 2 → (i (6658 + 128 * t)).toInt = 0 → F t → G → v = w) (hc : cSe i y v F) (hr : rSe a y w G) : v = w := by
  obtain ⟨t, ht, et⟩ : ∃ t : Nat, t < 6 ∧ y.toInt = (t : Int) := ⟨y.toInt.toNat, by omega, by omega⟩
  have e1 : y.toNatClampNeg = t := by
    have := Int32.toNat_toInt y
    omega
  obtain ⟨s0, s1, s2⟩ := K t ht
  have ho := hho t ht
  have so := hso t ht
  unfold rSe rRb at hr
  rw [e1] at hr
  rcases hc with ⟨hneg, c1⟩ | ⟨t1, _, et1, ⟨h2, h0⟩, fc⟩
  · rcases c1 with ⟨z, _⟩ | ⟨t1, _, et1, c1⟩
    · exact absurd hy z
    · have ett : t1 = t := by omega
      subst ett
      rcases c1 with ⟨z1, z2⟩ | ⟨z1, z2, z3⟩ | ⟨z1, z2, z3⟩
      · have hm := s0 z1
        rcases hr with (⟨_, y⟩ | ⟨y1, _⟩) | ⟨y1, _⟩
        · rw [z2, y]
        · exact absurd hm y1
        · rw [hm] at y1
          exact absurd y1 (by decide)
      · have hne : ((a 136).getD t1 0).toInt ≠ -1 ∧ ((a 136).getD t1 0).toInt ≠ 0 := by
          have hq : (i (6656 + 128 * t1)).toInt = 1 ∨ (i (6656 + 128 * t1)).toInt = 2 := by omega
          rcases hq with hq | hq
          · have := s1 hq
            clear s0 s1 s2
            omega
          · have := (s2 hq).1
            clear s0 s1 s2
            omega
        rcases hr with (⟨y1, _⟩ | ⟨_, _, y⟩) | ⟨y1, _⟩
        · exact absurd y1 hne.1
        · rw [z3, y]
        · exact absurd y1 hne.2
      · exfalso
        rw [z3] at hneg
        exact absurd hneg (by decide)
  · have ett : t1 = t := by omega
    subst ett
    obtain ⟨w1, _, _⟩ := s2 h2
    rcases hr with (⟨y1, _⟩ | ⟨_, y1, _⟩) | ⟨_, g⟩
    · rw [w1, h0] at y1
      exact absurd y1 (by decide)
    · rw [w1, h0] at y1
      exact absurd rfl y1
    · exact H t1 ht et1 h2 h0 fc g
theorem jd_y {x : Int32} (h : ((0 : Int) ≤ x.toInt) ∧ (((0 : Int) ≤ (x.toInt / 10)) ∧ ((x.toInt / 10) ≤ 5)) ∧ ((x.toInt % 10) ≤ 5)) : 0 ≤ (x - x / 10 * 10).toInt ∧ (x - x / 10 * 10).toInt ≤ 5 := by
  have t : (x - x / 10 * 10).toInt = x.toInt % 10 := kd_rem 10 (by decide) (by decide) h.1
  omega
theorem rSe_c {a a1 : Nat → List Int32} {y v : Int32} {G : Prop} (e : a1 136 = a 136) (h : rSe a1 y v G) : rSe a y v G := by
  unfold rSe rRb at h ⊢
  rw [e] at h
  exact h
theorem jd_fin {i : Nat → Int32} {a : Nat → List Int32} {q : Nat → List Int64} {t : Nat} {y u v : Int32} {K : gK} {S S1 : gS} {n : Int} {L L1 : List Int32} (Ks : kShel i a q) (R8 : kRow8 i a q) (ht : t < 6) (et : y.toInt = (t : Int)) (h2 : (i (6656 + 128 * t)).toInt = 2) (h0 : (i (6658 + 128 * t)).toInt = 0) (hS : gEq S S1) (hL : ∀ j : Nat, (j : Int) < n → L.getD j 0 = L1.getD j 0) (f : fJd K S n L (i (6659 + 128 * t)).toInt (fun j => ((q (105 + 2 * t)).getD j 0).toInt) u) (g : fJd K S1 n L1 ((a 137).getD y.toNatClampNeg 0).toInt (fun j => (vQ (q 138) (60 * y.toInt).toNat j).toInt) v) : u = v := by
  have e1 : y.toNatClampNeg = t := by
    have := Int32.toNat_toInt y
    omega
  have e60 : (60 * y.toInt).toNat = 60 * t := by omega
  obtain ⟨_, w2, w3⟩ := (Ks t ht).2.2 h2
  rw [e1, e60, w2] at g
  refine fJd_same hS hL (fun j hj => ?_) f g
  show ((q (105 + 2 * t)).getD j 0).toInt = (vQ (q 138) (60 * t) j).toInt
  rw [by8_int (R8 t ht h2 h0 j hj)]
  unfold vQ
  rw [← w3 j hj]
