/-! THE REFERENCE'S STEPS IN THOUGHT -/
def gT (i : Nat → Int32) (a : Nat → List Int32) : gS := (a 118, i 7464, i 7465, i 7466, i 7467, a 141)
def gR (i : Nat → Int32) (a : Nat → List Int32) : gS := (a 118, i 7464, i 7465, i 7466, 0, List.replicate 64 0)
theorem gT_6 {i : Nat → Int32} {a : Nat → List Int32} {N F : List Int32} {p d b la : Int32} (h1 : a 118 = N) (h2 : i 7464 = p) (h3 : i 7465 = d) (h4 : i 7466 = b) (h5 : i 7467 = la) (h6 : a 141 = F) : gT i a = (N, p, d, b, la, F) := by
  subst h1; subst h2; subst h3; subst h4; subst h5; subst h6; rfl
section RH
variable {w : kW} {i i1 : Nat → Int32} {a a1 : Nat → List Int32} {q q1 : Nat → List Int64} {r r1 : Nat → Nat} {S : gS} {x1 v : Int32}
theorem th_goesIn (P : pt_ke166_116 x1 v i a q r i1 a1 q1 r1) : gT i1 a1 = gIn (gKn i a) x1 (gT i a) := by
  obtain ⟨_, c1, c2, c3, c4, c5, c6, n1, n2, n3, n4, n5, n6⟩ := P
  by_cases hd : ((a 117).getD (16 + x1).toNatClampNeg 0).toInt = 1 ∧ (i 7427).toInt = 0
  · have e : gIn (gKn i a) x1 (gT i a) = (a 118, 8, 0, 0, i 7467, a 141) := if_pos hd
    rw [e]
    exact gT_6 (n1 hd) (n2 hd) (n3 hd) (n4 hd) (n5 hd) (n6 hd)
  · have e : gIn (gKn i a) x1 (gT i a) = gCo (gKn i a) x1 (a 118) (gPaid (i 7426) x1 (a 118) (i 7467) (a 141)) := if_neg hd
    rw [e]
    exact gT_6 (c1 hd) (c2 hd) (c3 hd) (c4 hd) (c5 hd) (c6 hd)
theorem kg166_116 (hI : kI i a q) (hr : kr r) (x1 : Int32) (hp0 : ((0 : Int) ≤ x1.toInt) ∧ (x1.toInt ≤ 7)) (hE_code : kCode i a) : km 9 166 [.ref 116, .int x1] (ks i a q r) (kVI yw166_116 i a q r (fun v i1 a1 q1 r1 => (True) ∧ gT i1 a1 = gIn (gKn i a) x1 (gT i a))) := by
  refine km_imp (ke166_116 hI hr x1 hp0 hE_code) ?_
  rintro rv h1 ⟨v, i1, a1, q1, r1, e1, e2, g, hc⟩
  exact ⟨v, i1, a1, q1, r1, e1, e2, g, trivial, th_goesIn (q := q) (r := r) (q1 := q1) (r1 := r1) hc⟩
theorem gT_st {p : Nat} (f : ∀ k, k ≠ p → a1 k = a k) (h1 : 118 ≠ p) (h2 : 141 ≠ p) (h : gT i a = S) : gT i a1 = S := by
  rw [← h]
  unfold gT
  rw [f 118 h1, f 141 h2]
theorem gT_out (h : gT i a = S) : i 7464 = S.2.1 ∧ i 7465 = S.2.2.1 ∧ i 7466 = S.2.2.2.1 := by subst h; exact ⟨rfl, rfl, rfl⟩
theorem gT_c {T : gS} (h : gT i a = S) (e : T = S) : gT i a = T := h.trans e.symm
theorem gT_R (h1 : a1 118 = a 118) (h2 : i1 7464 = i 7464) (h3 : i1 7465 = i 7465) (h4 : i1 7466 = i 7466) (h5 : i1 7467 = 0) (h6 : a1 141 = List.replicate 64 0) : gT i1 a1 = gR i a := gT_6 h1 h2 h3 h4 h5 h6
theorem gT_18 (h : gT i a = S) : (a 118).getD (18 : Int32).toNatClampNeg 0 = S.1.getD 18 0 := by subst h; rw [(by decide : (18 : Int32).toNatClampNeg = 18)]; rfl
theorem gT_pu {x : Int32} (h : gT i a = S) : (a 118).getD x.toNatClampNeg 0 = S.1.getD x.toNatClampNeg 0 := by subst h; rfl
theorem gT_la (h : gT i a = S) : i 7467 = S.2.2.2.2.1 := by subst h; rfl
theorem rok {p : Prop} (h : p) : p := h
def rNb (a : Nat → List Int32) (x1 v : Int32) : Prop := (v.toInt < 0 ∧ rRb a x1 v) ∨ (v = 0 ∧ ((a 136).getD x1.toNatClampNeg 0).toInt = 0)
theorem rNb_r (h : rNb a x1 v) (hv : v.toInt < 0) : rRb a x1 v := by
  rcases h with h | h
  · exact h.2
  · rw [h.1] at hv; exact absurd hv (by decide)
theorem rNb_0 (h : rNb a x1 v) (hv : ¬ (v.toInt < 0)) : ((a 136).getD x1.toNatClampNeg 0).toInt = 0 := by
  rcases h with h | h
  · exact absurd h.1 hv
  · exact h.2
theorem rTop_bar {ok : Prop} {f : Int → List Int32 → Prop} (h0 : ok ∧ 0 ≤ x1.toInt ∧ x1.toInt ≤ 5) (h : rNb a x1 v) (hv : v.toInt < 0) : rTop ok i a q x1 v f := Or.inr ⟨h0, Or.inl (rNb_r h hv)⟩
theorem rTop_go {ok : Prop} {f : Int → List Int32 → Prop} {u : Int32} {n : Int} {L : List Int32} (h0 : ok ∧ 0 ≤ x1.toInt ∧ x1.toInt ≤ 5) (h : rNb a x1 u) (hv : ¬ (u.toInt < 0)) (hd : kRd (i 7424) ((a 137).getD x1.toNatClampNeg 0).toInt (vQ (q 138) (60 * x1.toInt).toNat) n L) (hf : f n L) : rTop ok i a q x1 v f := Or.inr ⟨h0, Or.inr ⟨n, L, ⟨rNb_0 h hv, hd⟩, hf⟩⟩
end RH

