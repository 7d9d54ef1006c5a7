/-! THE LAW BECOMES ANOTHER: the market stays alike -/
def cLw (t : List Int32) (nn v : Int32) (i : Nat → Int32) (a : Nat → List Int32) (r : Nat → Nat) (i1 : Nat → Int32) (a1 : Nat → List Int32) (r1 : Nat → Nat) : Prop := ∃ st wi : List Int32, st.length = 121 ∧ wi.length = 121 ∧ ((cOk nn (cTxt t nn st wi) ∧ v = 1 ∧ i1 (64 * r1 0) = 1 ∧ (a1 (r1 0 + 1), a1 (r1 0 + 2), i1 (64 * r1 0 + 3)) = (cTxt t nn st wi).2.2) ∨ (¬ cOk nn (cTxt t nn st wi) ∧ v = -100 - (cTxt t nn st wi).1 ∧ r1 0 = r 0 ∧ i1 (64 * r 0) = i (64 * r 0) ∧ i1 (64 * r 0 + 3) = i (64 * r 0 + 3) ∧ a1 (r 0 + 1) = a (r 0 + 1) ∧ a1 (r 0 + 2) = a (r 0 + 2)))
def rLw (t : List Int32) (nn v : Int32) (i : Nat → Int32) (a : Nat → List Int32) (i1 : Nat → Int32) (a1 : Nat → List Int32) : Prop := ∃ L A Y E : List Int32, (L.length = 200 ∧ A.length = 61 ∧ Y.length = 61 ∧ E.length = 61) ∧ ((rOk nn (rTxt t nn L A Y E) ∧ v = 1 ∧ i1 7431 = 1 ∧ i1 7432 = (rTxt t nn L A Y E).2.2.1 ∧ kCp (rTxt t nn L A Y E).2.2.2.1 (a1 120) (rTxt t nn L A Y E).2.2.1.toInt.toNat ∧ kCp (rTxt t nn L A Y E).2.2.2.2.1 (a1 121) (rTxt t nn L A Y E).2.2.1.toInt.toNat ∧ kCp (rTxt t nn L A Y E).2.2.2.2.2 (a1 122) (rTxt t nn L A Y E).2.2.1.toInt.toNat ∧ kCp (rTxt t nn L A Y E).2.1.2.2 (a1 123) (rTxt t nn L A Y E).2.1.2.1.toInt.toNat) ∨ (¬ rOk nn (rTxt t nn L A Y E) ∧ v = -100 - (rTxt t nn L A Y E).2.1.1 ∧ i1 7431 = i 7431 ∧ i1 7432 = i 7432 ∧ a1 120 = a 120 ∧ a1 121 = a 121 ∧ a1 122 = a 122 ∧ a1 123 = a 123))
section LW
variable {i i1 i2 : Nat → Int32} {a a1 a2 : Nat → List Int32} {q q1 q2 : Nat → List Int64} {r r1 r2 : Nat → Nat} {u1 u2 : Int32}
theorem kz86_0 (hI : kI i a q) (hr : kr r) (hB : kBy (a 99)) : km 57 86 [.ref 0] (ks i a q r) (kVI yw86_0 i a q r (fun v i1 a1 q1 r1 => (i1 6273).toInt = 0 ∧ cLw (a 99) (i 6273) v i a r i1 a1 r1)) := by
  have hcase : (r 2 = 10 ∧ r 0 = 100) ∨ (r 2 = 100 ∧ r 0 = 10) := by
    rcases hr.1 with h | h
    · exact Or.inr ⟨h.2, h.1⟩
    · exact Or.inl ⟨h.2, h.1⟩
  rcases hcase with ⟨hL, h0⟩ | ⟨hL, h0⟩
  · refine km_imp (ke86_0_L10 hI hr (a 99) (i 6273) rfl rfl hL hB) ?_
    rintro rv h1 ⟨v, i1, a1, q1, r1, e1, e2, g, hz, hc⟩
    refine ⟨v, i1, a1, q1, r1, e1, e2, kG_call (kG_self _ hI hr) g (by decide +kernel), hz, a 11, a 12, hI.2.1 11, hI.2.1 12, ?_⟩
    rcases hc with ⟨c1, c2, c3, c4, c5, c6⟩ | ⟨c1, c2, c3, c4⟩
    · exact Or.inl ⟨c1, c2, by rw [c3]; exact c5, by rw [c3]; exact c6⟩
    · exact Or.inr ⟨c1, c2, by rw [c3, h0], by rw [h0]; exact g.fi 6400 rfl, by rw [h0]; exact g.fi 6403 rfl, by rw [h0]; exact g.fa 101 rfl, by rw [h0]; exact g.fa 102 rfl⟩
  · refine km_imp (ke86_0_L100 hI hr (a 99) (i 6273) rfl rfl hL hB) ?_
    rintro rv h1 ⟨v, i1, a1, q1, r1, e1, e2, g, hz, hc⟩
    refine ⟨v, i1, a1, q1, r1, e1, e2, kG_call (kG_self _ hI hr) g (by decide +kernel), hz, a 101, a 102, hI.2.1 101, hI.2.1 102, ?_⟩
    rcases hc with ⟨c1, c2, c3, c4, c5, c6⟩ | ⟨c1, c2, c3, c4⟩
    · exact Or.inl ⟨c1, c2, by rw [c3]; exact c5, by rw [c3]; exact c6⟩
    · exact Or.inr ⟨c1, c2, by rw [c3, h0], by rw [h0]; exact g.fi 640 rfl, by rw [h0]; exact g.fi 643 rfl, by rw [h0]; exact g.fa 11 rfl, by rw [h0]; exact g.fa 12 rfl⟩
theorem kz159_116 (hI : kI i a q) (hr : kr r) (hE_code : kCode i a) (hB : kBy (a 119)) : km 55 159 [.ref 116] (ks i a q r) (kVI yw159_116 i a q r (fun v i1 a1 q1 r1 => ((i1 7429).toInt = 0 ∧ rLw (a 119) (i 7429) v i a i1 a1) ∧ kCode i1 a1)) := by
  refine km_imp (kf159_116 hI hr (a 119) (i 7429) rfl rfl hB) ?_
  rintro rv h1 ⟨v, i1, a1, q1, r1, e1, e2, g, h0, hc⟩
  have hb : (0 : Int) ≤ (i 7429).toInt ∧ (i 7429).toInt ≤ 120 := hI.1 7429
  refine ⟨v, i1, a1, q1, r1, e1, e2, kG_call (kG_self _ hI hr) g (by decide +kernel), ⟨h0, a 127, a 124, a 125, a 126, ⟨hI.2.1 127, hI.2.1 124, hI.2.1 125, hI.2.1 126⟩, hc⟩, ?_⟩
  rcases hc with ⟨c1, c2, c3, c4, c5, c6, c7, c8⟩ | ⟨c1, c2, c3, c4, c5, c6, c7, c8⟩
  · obtain ⟨_, s2, s3⟩ := sim_txt (t := a 119) (n := i 7429) (st := List.replicate 121 0) (wi := List.replicate 121 0) (L := a 127) (A := a 124) (Y := a 125) (E := a 126) hb.1 hb.2 List.length_replicate List.length_replicate (hI.2.1 127) (hI.2.1 124) (hI.2.1 125) (hI.2.1 126)
    obtain ⟨l, hl⟩ := s3 (s2.mpr c1)
    exact code_law hb.2 hl c4 c5 c6 c7 c8
  · exact kCode_of hE_code c4 c5 c6 c7 c8
set_option maxHeartbeats 4000000 in
theorem st_lawm (K : kI i a q ∧ kr r) (T : kTB i a) (h : kMar i a r) (g1 : kG yw86_0 i a q r i1 a1 q1 r1) (P1 : (i1 6273).toInt = 0 ∧ cLw (a 99) (i 6273) u1 i a r i1 a1 r1) (g2 : kG yw159_116 i1 a1 q1 r1 i2 a2 q2 r2) (P2 : (i2 7429).toInt = 0 ∧ rLw (a1 119) (i1 7429) u2 i1 a1 i2 a2) : (kTB i2 a2 ∧ kMar i2 a2 r2) ∧ u1 = u2 := by
  obtain ⟨hI, hr⟩ := K
  obtain ⟨h1, h2, h3, h4, h5, h6, h7, h8⟩ := h
  have hb : (0 : Int) ≤ (i 6273).toInt ∧ (i 6273).toInt ≤ 120 := hI.1 6273
  have tb : kTB i2 a2 := by
    refine ⟨st_tlaw T.1 g1 P1.1 g2 P2.1, ?_⟩
    rw [g2.fa 99 rfl, g1.fa 99 rfl]
    exact T.2
  have en : i1 7429 = i 6273 := by
    rw [g1.fi 7429 rfl]
    exact kj_v (by have := T.1.1; omega)
  obtain ⟨st, wi, l1, l2, hc⟩ := P1.2
  obtain ⟨L, A, Y, E, ⟨l3, l4, l5, l6⟩, hd⟩ := P2.2
  rw [g1.fa 119 rfl, ← T.1.2, en] at hd
  obtain ⟨s1, s2, s3⟩ := sim_txt (t := a 99) hb.1 hb.2 l1 l2 l3 l4 l5 l6
  have er : r2 0 = r1 0 := g2.fr 0 rfl
  have hr1 := g1.R
  have fA : ∀ p : Nat, p = r1 0 + 1 ∨ p = r1 0 + 2 → a2 p = a1 p := fun p hp => by
    rcases hr1.1 with ⟨hz, _⟩ | ⟨hz, _⟩ <;> rw [hz] at hp <;> rcases hp with e | e <;> subst e <;> exact g2.fa _ rfl
  have fI : ∀ p : Nat, p = 64 * r1 0 ∨ p = 64 * r1 0 + 3 → i2 p = i1 p := fun p hp => by
    rcases hr1.1 with ⟨hz, _⟩ | ⟨hz, _⟩ <;> rw [hz] at hp <;> rcases hp with e | e <;> subst e <;> exact g2.fi _ rfl
  have fin : kLaw i2 a2 r2 → kMar i2 a2 r2 := fun lw => ⟨kCn_fr g2 (by decide +kernel) (kCn_fr g1 (by decide +kernel) h1), kMk_fr g2 (by decide +kernel) (kMk_fr g1 (by decide +kernel) h2), kNr_fr g2 (by decide +kernel) (kNr_fr g1 (by decide +kernel) h3), kGr_fr g2 (by decide +kernel) (kGr_fr g1 (by decide +kernel) h4), kLd_fr g2 (by decide +kernel) (kLd_fr g1 (by decide +kernel) h5), kZe_fr g2 (by decide +kernel) (kZe_fr g1 (by decide +kernel) h6), lw, kIm_fr g2 (by decide +kernel) (kIm_fr g1 (by decide +kernel) h8)⟩
  rcases hc with ⟨c1, c2, c3, c4⟩ | ⟨c1, c2, c3, c4, c5, c6, c7⟩
  · rcases hd with ⟨d1, d2, d3, d4, d5, d6, d7, d8⟩ | ⟨d1, _⟩
    · refine ⟨⟨tb, fin ⟨?_, fun _ => ?_⟩⟩, by rw [c2, d2]⟩
      · rw [er, fI _ (Or.inl rfl), c3, d3]
      · obtain ⟨l, hl⟩ := s3 c1
        rw [er, fI _ (Or.inr rfl), fA _ (Or.inl rfl), fA _ (Or.inr rfl)]
        intro stk w pu hh c o d hs
        have k := law_same (nm := [w, pu, hh, c, o, d]) (stk := stk) hb.2 hl d5 d6 d7 d8 hs
        rw [show a1 (r1 0 + 1) = (cTxt (a 99) (i 6273) st wi).2.2.1 from congrArg (fun z : List Int32 × List Int32 × Int32 => z.1) c4, show a1 (r1 0 + 2) = (cTxt (a 99) (i 6273) st wi).2.2.2.1 from congrArg (fun z : List Int32 × List Int32 × Int32 => z.2.1) c4, show i1 (64 * r1 0 + 3) = (cTxt (a 99) (i 6273) st wi).2.2.2.2 from congrArg (fun z : List Int32 × List Int32 × Int32 => z.2.2) c4]
        unfold wl
        rw [d4]
        exact k
    · exact absurd (s2.mp c1) d1
  · rcases hd with ⟨d1, _⟩ | ⟨d1, d2, d3, d4, d5, d6, d7, d8⟩
    · exact absurd (s2.mpr d1) c1
    · refine ⟨⟨tb, fin ⟨?_, fun z => ?_⟩⟩, by rw [c2, d2, s1]⟩
      · rw [er, fI _ (Or.inl rfl), c3, c4, d3, g1.fi 7431 rfl]
        exact h7.1
      · rw [er, fI _ (Or.inr rfl), fA _ (Or.inl rfl), fA _ (Or.inr rfl), c3, c5, c6, c7]
        unfold wl
        rw [d4, d5, d6, d7, d8, g1.fi 7432 rfl, g1.fa 120 rfl, g1.fa 121 rfl, g1.fa 122 rfl, g1.fa 123 rfl]
        refine h7.2 ?_
        rw [← g1.fi 7431 rfl, ← d3]
        exact z
end LW
