/-! THE CLASS'S MARKET IN THOUGHT BEGINS AS IT IS NOW; evenings; what is asked of it -/
def gB (i : Nat → Int32) (a : Nat → List Int32) : gS := (a 118, i 3214, i 3215, i 3216, 0, List.replicate 64 0)
theorem rep_g {n j : Nat} : (List.replicate n (0 : Int32)).getD j 0 = 0 := by
  rw [List.getD_eq_getElem?_getD, List.getElem?_replicate]
  by_cases c : j < n
  · rw [if_pos c]; rfl
  · rw [if_neg c]; rfl
section HB
variable {i i1 : Nat → Int32} {a a1 : Nat → List Int32} {q q1 : Nat → List Int64} {r r1 : Nat → Nat} {S : gS} {x1 v : Int32}
theorem th_become (hI : kI i a q) (hN : kNoW i a r) (g : kG yw34_50_1 i a q r i1 a1 q1 r1) (P : pt_ke34_50_1 i a q r i1 a1 q1 r1) : kThm i1 a1 r1 (gB i a) := by
  obtain ⟨n1, n2, n3, n4⟩ := hN
  obtain ⟨_, ⟨m1, m2, m3, m4, m5, m6, m7, m8, m9, m10, m11, m12, m13, m14⟩, mz, mr⟩ := P
  have k8 : (sMx 0 (sMn 8 8)).toNatClampNeg = 8 := by decide
  have k5 : (5 : Int32).toNatClampNeg = 5 := by decide
  have k0 : (0 : Int32).toNatClampNeg = 0 := by decide
  have k8b : (8 : Int32).toNatClampNeg = 8 := by decide
  rw [k8, k0, cpy_alw (kl_2 hI) (kl_51 hI)] at m1
  rw [k8, k0, cpy_alw (kl_6 hI) (kl_55 hI)] at m2
  rw [k5, k0, cpy_alw (kl_8 hI) (kl_57 hI)] at m6
  rw [k5, k0, cpy_alw (kl_9 hI) (kl_58 hI)] at m7
  rw [k8b, k0, cpy_alw (kl_3 hI) (show (a 52).length = 8 from hI.2.1 52)] at m10
  rw [k8b, k0, cpy_alw (kl_4 hI) (show (a 53).length = 8 from hI.2.1 53)] at m11
  rw [k8b, k0, cpy_alw (kl_5 hI) (show (a 54).length = 8 from hI.2.1 54)] at m12
  refine ⟨⟨?_, ?_, ?_, ?_, ?_, ?_, ?_⟩, g.fi 3216 rfl, ⟨a1 63, ?_, ?_, ?_, ?_, fun _ _ => rfl, th_len g.I, kl_118 hI, List.length_replicate⟩, ?_⟩
  · rw [m9, g.fi 64 rfl]
  · rw [m13, g.fi 70 rfl]
  · rw [m14, g.fi 71 rfl]
  · rw [m10, g.fa 3 rfl]
  · rw [m11, g.fa 4 rfl]
  · rw [m12, g.fa 5 rfl]
  · rw [mr, g.fr 0 rfl]
  · show mNow (i1 64) (a1 51) (a1 55) (i1 3208) (i1 3209) (i1 3586) (a1 57) (a1 58) (a 118)
    rw [g.fi 64 rfl, m1, m2, m4, m5, m8, m6, m7]
    exact n2
  · exact g.fi 3214 rfl
  · exact g.fi 3215 rfl
  · show (a1 63).getD 2 0 = 0 + 0
    rw [m3, rep_g]
    decide
  · refine ⟨fun u c hu hc => ?_, fun u hu => ?_⟩
    · show (cRow 50 a1 u).getD c 0 = (List.replicate 64 (0 : Int32)).getD (8 * u + c) 0
      rw [cRow_lt hu, mz u hu, rep_g, rep_g]
    · show (cRow 50 a1 u).getD u 0 = 0
      rw [cRow_lt hu, mz u hu, rep_g]
theorem kg34_50_1 (hI : kI i a q) (hr : kr r) (hN : kNoW i a r) : km 5 34 [.ref 50, .ref 1] (ks i a q r) (kVN yw34_50_1 i a q r (fun i1 a1 q1 r1 => (True) ∧ kThm i1 a1 r1 (gB i a))) := by
  refine km_imp (ke34_50_1 hI hr) ?_
  rintro rv h1 ⟨i1, a1, q1, r1, e1, e2, g, hc⟩
  exact ⟨i1, a1, q1, r1, e1, e2, g, trivial, th_become hI hN g hc⟩
theorem cGet_pu {b x t g d : Int32} {P W H D : List Int32} (h0 : 0 ≤ x.toInt) (h1 : x.toInt < b.toInt) : cGet b x 0 (P, W, H, D, t, g, d) = P.getD x.toNatClampNeg 0 := by
  unfold cGet
  have k0 : (0 : Int32).toInt = 0 := by decide
  simp only [k0]
  simp [h0, h1]
theorem th_pu (hT : kThm i a r S) (h8 : (i 64).toInt ≤ 8) (h0 : 0 ≤ x1.toInt) (h1 : x1.toInt < (i 64).toInt) (hv : v = cGet (i 3200) x1 0 (a 51, a 52, a 53, a 54, i 3206, i 3207, i 3208)) : v = S.1.getD x1.toNatClampNeg 0 := by
  have t := Int32.toNat_toInt x1
  rw [hv, cGet_pu h0 (by rw [hT.1.1]; exact h1)]
  exact kThm_pu hT (by omega)
theorem gAt_len {K : gK} {L : List Int32} {S : gS} {k n : Int32} (h : k.toInt = n.toInt) : gAt K L S n.toInt.toNat = gAt K L S k.toInt.toNat := by rw [h]
theorem gOp_len {K : gK} {L A B C : List Int32} {S : gS} {k n : Int32} (g : gOp K L S k.toInt A B C) (h : k.toInt = n.toInt) : gOp K L S n.toInt A B C := by rw [← h]; exact g
end HB
theorem th_pu2 {i i1 : Nat → Int32} {a1 : Nat → List Int32} {r1 : Nat → Nat} {S : gS} {x v : Int32} (hT : kThm i1 a1 r1 S) (e : i1 64 = i 64) (h8 : (i 64).toInt ≤ 8) (hp : 0 ≤ x.toInt ∧ x.toInt < (i 64).toInt) (hv : v = cGet (i1 3200) x 0 (a1 51, a1 52, a1 53, a1 54, i1 3206, i1 3207, i1 3208)) : v = S.1.getD x.toNatClampNeg 0 :=
  th_pu hT (by rw [e]; exact h8) hp.1 (by rw [e]; exact hp.2) hv

