/-! ONE COMES IN, IN THOUGHT: the class's market follows the reference's steps -/
section TC
variable {i i1 : Nat → Int32} {a a1 : Nat → List Int32} {q q1 : Nat → List Int64} {r r1 : Nat → Nat} {S : gS} {x1 v : Int32}
theorem rw8 {a1 : Nat → List Int32} {F : Nat → List Int32} (h0 : a1 65 = F 0) (h1 : a1 66 = F 1) (h2 : a1 67 = F 2) (h3 : a1 68 = F 3) (h4 : a1 69 = F 4) (h5 : a1 70 = F 5) (h6 : a1 71 = F 6) (h7 : a1 72 = F 7) : ∀ u : Nat, u < 8 → a1 (50 + 15 + u) = F u
  | 0, _ => h0
  | 1, _ => h1
  | 2, _ => h2
  | 3, _ => h3
  | 4, _ => h4
  | 5, _ => h5
  | 6, _ => h6
  | 7, _ => h7
  | u + 8, h => absurd h (by omega)
theorem thc_fr {w : kW} (g : kG w i a q r i1 a1 q1 r1) (f : kUn w [3200, 64, 3206, 70, 3207, 71] [52, 3, 53, 4, 54, 5] [0, 1] = true) (h : kThC i a r) : kThC i1 a1 r1 := by
  obtain ⟨f1, f2, f3⟩ := kUn_all f
  obtain ⟨c1, c2, c3, c4, c5, c6, c7⟩ := h
  refine ⟨?_, ?_, ?_, ?_, ?_, ?_, ?_⟩
  · rw [g.fi _ (f1 3200 (by decide)), g.fi _ (f1 64 (by decide))]; exact c1
  · rw [g.fi _ (f1 3206 (by decide)), g.fi _ (f1 70 (by decide))]; exact c2
  · rw [g.fi _ (f1 3207 (by decide)), g.fi _ (f1 71 (by decide))]; exact c3
  · rw [g.fa _ (f2 52 (by decide)), g.fa _ (f2 3 (by decide))]; exact c4
  · rw [g.fa _ (f2 53 (by decide)), g.fa _ (f2 4 (by decide))]; exact c5
  · rw [g.fa _ (f2 54 (by decide)), g.fa _ (f2 5 (by decide))]; exact c6
  · rw [g.fr _ (f3 0 (by decide)), g.fr _ (f3 1 (by decide))]; exact c7
set_option maxHeartbeats 4000000 in
theorem th_come (hI : kI i a q) (hr : kr r) (hN : kNoW i a r) (hT : kThm i a r S) (hx0 : 0 ≤ x1.toInt) (hx1 : x1.toInt < (i 3200).toInt) (g : kG yw29_50 i a q r i1 a1 q1 r1) (P : pt_ke29_50 x1 v i a q r i1 a1 q1 r1) : kThm i1 a1 r1 (gIn (gKn i a) x1 S) ∧ v = (gIn (gKn i a) x1 S).2.2.1 := by
  obtain ⟨N, py, pd, bo, la, Fl⟩ := S
  obtain ⟨n1, n2, n3, n4⟩ := hN
  obtain ⟨hC, hb, ⟨L0, hP⟩, hF, hD⟩ := hT
  have kC := thc_fr g (by decide +kernel) hC
  obtain ⟨c1, c2, c3, c4, c5, c6, c7⟩ := hC
  have b8 := kI_64 hI
  have t5 := kI_3rd hI
  have hx1' : x1.toInt < (i 64).toInt := by rw [← c1]; exact hx1
  have t3 : i 70 = i 7426 := n3.2.2.1
  obtain ⟨de, dg⟩ := dog_eq n3 hx0 (by omega : x1.toInt < 8)
  obtain ⟨hp1, hp2, hp3, hp4, hp5, hp6, hp7, hp8⟩ := hP
  have hp1 : mNow (i 64) (a 51) (a 55) (i 3208) (i 3209) (i 3586) (a 57) (a 58) N := hp1
  have hp4 : (a 63).getD 2 0 = 0 + la := hp4
  have hp7 : N.length = 31 := hp7
  have hp8 : Fl.length = 64 := hp8
  have op : i 3586 = N.getD 18 0 := mNow_18 hp1
  have o5 : (0 : Int) ≤ (i 3586).toInt ∧ (i 3586).toInt ≤ 5 := hI.1 3586
  have e64 : i1 64 = i 64 := g.fi 64 rfl
  have e08 : i1 3208 = i 3208 := g.fi 3208 rfl
  by_cases hd : (i 3207).toInt = 0 ∧ ((a 54).getD x1.toNatClampNeg 0).toInt = 1
  · have hn : ¬ (((0 : Int) ≤ x1.toInt) ∧ (x1.toInt < (i 3200).toInt) ∧ (¬ (((i 3207).toInt = 0) ∧ (((a 54).getD x1.toNatClampNeg 0).toInt = 1)))) := fun z => z.2.2 hd
    have eg : gIn (gKn i a) x1 (N, py, pd, bo, la, Fl) = (N, 8, 0, 0, la, Fl) := if_pos ⟨by show ((a 117).getD (16 + x1).toNatClampNeg 0).toInt = 1; rw [← de, ← c6]; exact hd.2, by show (i 7427).toInt = 0; rw [← dg, ← c3]; exact hd.1⟩
    obtain ⟨_, _, _, _, _, _, _, _, _, _, _, _, _, _, _, _, _, _, _, _, m1, m2, m3, m4, m5, m6, m7, m8, m9, m10, m11, u0, u1, u2, u3, u4, u5, u6, u7⟩ := P
    rw [eg]
    have eT : cT 50 i1 a1 = (i 3586, a 57, a 58, a 51, 8, 0, a 63, cRow 50 a) := cT_eq (m1 hn) (m2 hn) (m3 hn) (m4 hn) (m7 hn) (m8 hn) (m6 hn) (rw8 (F := cRow 50 a) (u0 hn) (u1 hn) (u2 hn) (u3 hn) (u4 hn) (u5 hn) (u6 hn) (u7 hn)) (fun u hu => cRow_ge hu)
    refine ⟨⟨kC, m9 hn, ⟨L0, ?_⟩, ?_⟩, m11 hn⟩
    · rw [eT, e64, m5 hn, e08, m10 hn]
      exact ⟨hp1, rfl, rfl, hp4, hp5, hp6, hp7, hp8⟩
    · rw [eT]
      exact ⟨hF, hD⟩
  · have hC2 : ((0 : Int) ≤ x1.toInt) ∧ (x1.toInt < (i 3200).toInt) ∧ (¬ (((i 3207).toInt = 0) ∧ (((a 54).getD x1.toNatClampNeg 0).toInt = 1))) := ⟨hx0, hx1, hd⟩
    have eg : gIn (gKn i a) x1 (N, py, pd, bo, la, Fl) = gCo (gKn i a) x1 N (gPaid (i 7426) x1 N la Fl) := if_neg (fun z => hd ⟨by rw [c3, dg]; exact z.2, by rw [c6, de]; exact z.1⟩)
    obtain ⟨_, m1, m2, m3, m4, m5, m6, m7, m8, m9, m10, m11, u0, u1, u2, u3, u4, u5, u6, u7, _⟩ := P
    have k1 := m1 hC2
    have k2 := m2 hC2
    have k3 := m3 hC2
    have k4 := m4 hC2
    have k5 := m5 hC2
    have k6 := m6 hC2
    have k7 := m7 hC2
    have k8 := m8 hC2
    have k9 := m9 hC2
    have k10 := m10 hC2
    have k11 := m11 hC2
    have w := rw8 (a1 := a1) (F := (cPaid (i 3200) (i 3206) x1 5 (cT0 50 i a)).2.2.2.2.2.2.2) (u0 hC2) (u1 hC2) (u2 hC2) (u3 hC2) (u4 hC2) (u5 hC2) (u6 hC2) (u7 hC2)
    clear m1 m2 m3 m4 m5 m6 m7 m8 m9 m10 m11 u0 u1 u2 u3 u4 u5 u6 u7
    have hP0 : mP (i 64) 0 L0 (a 55) (i 3208) (i 3209) (cT0 50 i a) (N, 8, 0, la, Fl) := ⟨hp1, rfl, rfl, hp4, hp5, hp6, hp7, hp8⟩
    have tb := Int32.toNat_toInt x1
    obtain ⟨p1, p2, p3⟩ := paid_same (b := i 64) (c := x1) (t3 := i 7426) b8.2 hx0 hx1' t5.1 5 (N.getD 18 0).toInt.toNat (cT0 50 i a) (N, 8, 0, la, Fl) hP0 (show (i 3586).toInt ≤ 5 by omega) (show (i 3586).toInt ≤ ((N.getD 18 0).toInt.toNat : Int) by rw [op] at o5 ⊢; omega) (show (i 3586).toInt ≤ 5 by omega) (show 0 ≤ (i 3586).toInt by omega)
    have p3 := p3 hF
    have pD : kDg (cPaid (i 64) (i 7426) x1 5 (cT0 50 i a)) := cPaid_dg hx0 5 hD
    rw [c1, c2, t3] at k1 k2 k3 k4 k5 k6 k10 k11 w
    have egp : gPaid (i 7426) x1 N la Fl = sPaid (i 7426) x1 (N.getD 18 0).toInt.toNat (N, 8, 0, la, Fl) := rfl
    rw [eg, egp]
    clear eg egp hP0 hp5 hp6 hF
    generalize cPaid (i 64) (i 7426) x1 5 (cT0 50 i a) = T1 at *
    generalize sPaid (i 7426) x1 (N.getD 18 0).toInt.toNat (N, 8, 0, la, Fl) = S1 at *
    obtain ⟨z1, z2, z3, z4, z5, ⟨l1, l2, l3, l4, l5⟩, z7, z8⟩ := p1
    have be := th_buy (pu := (a 51).getD x1.toNatClampNeg 0) (N := N) (N1 := S1.1) hI hr n3 n4 hx0 (by omega : x1.toInt < 8) (hp1.1 _ (by omega)) z1.2.2.1.symm (z1.2.2.2.1 x1.toNatClampNeg (by omega)).symm z1.2.1.symm
    rw [c4, c5, c7, be] at k3 k7
    obtain ⟨y1, y2, y3⟩ := come_now (bu := gBy (gKn i a) N S1.1 x1) z1 b8.2 hx0 hx1' p2.2 (by omega) (kl_55 hI) l1 l2 z7
    unfold gCo
    refine ⟨⟨kC, k7, ⟨a1 63, ?_, ?_, ?_, ?_, fun _ _ => rfl, th_len g.I, y2, z8⟩, ?_⟩, ?_⟩
    · show mNow (i1 64) (a1 51) (a1 55) (i1 3208) (i1 3209) (i1 3586) (a1 57) (a1 58) (sCome x1 (gBy (gKn i a) N S1.1 x1) S1.1)
      rw [e64, k4, k9, e08, k8, k1, k2, k3]
      exact y1
    · show i1 3214 = S1.2.1
      rw [k5]; exact z2
    · show i1 3215 = S1.2.2.1
      rw [k6]; exact z3
    · show (a1 63).getD 2 0 = 0 + S1.2.2.2.1
      rw [k10, (by decide : (0 : Int32).toNatClampNeg = 0), (by decide : (1 : Int32).toNatClampNeg = 1), kset_gI (by rw [List.length_set]; omega), if_neg (by decide), kset_gI (by omega), if_neg (by decide)]
      exact z4
    · refine ⟨fun u c hu hc => ?_, fun u hu => ?_⟩
      · show (cRow 50 a1 u).getD c 0 = _
        rw [cRow_lt hu, w u hu]
        exact p3 u c hu hc
      · show (cRow 50 a1 u).getD u 0 = 0
        rw [cRow_lt hu, w u hu]
        exact pD u hu
    · rw [k11]; exact z3
theorem kg29_50 (hI : kI i a q) (hr : kr r) (x1 : Int32) (hp0 : ((0 : Int) ≤ x1.toInt) ∧ (x1.toInt < (i 3200).toInt)) (hN : kNoW i a r) (hT : kThm i a r S) : km 7 29 [.ref 50, .int x1] (ks i a q r) (kVI yw29_50 i a q r (fun v i1 a1 q1 r1 => (True) ∧ (kThm i1 a1 r1 (gIn (gKn i a) x1 S) ∧ v = (gIn (gKn i a) x1 S).2.2.1))) := by
  have e : i 3206 = i 7426 := hT.1.2.1.trans hN.2.2.1.2.2.1
  refine km_imp (ke29_50 hI hr x1 (by rw [e]; exact kI_3rd hI)) ?_
  rintro rv h1 ⟨v, i1, a1, q1, r1, e1, e2, g, hc⟩
  exact ⟨v, i1, a1, q1, r1, e1, e2, g, trivial, th_come hI hr hN hT hp0.1 hp0.2 g hc⟩
end TC
