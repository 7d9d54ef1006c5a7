section
/-! what the contracts say, by names -/
def pt_ke29_50 (x1 : Int32) (v : Int32) (i : Nat → Int32) (a : Nat → List Int32) (q : Nat → List Int64) (r : Nat → Nat) (i1 : Nat → Int32) (a1 : Nat → List Int32) (q1 : Nat → List Int64) (r1 : Nat → Nat) : Prop := (True) ∧ ((((0 : Int) ≤ x1.toInt) ∧ (x1.toInt < (i 3200).toInt) ∧ (¬ (((i 3207).toInt = 0) ∧ (((a 54).getD x1.toNatClampNeg 0).toInt = 1))) → i1 3586 = (cPaid (i 3200) (i 3206) x1 5 (cT0 50 i a)).1 + 1) ∧ (((0 : Int) ≤ x1.toInt) ∧ (x1.toInt < (i 3200).toInt) ∧ (¬ (((i 3207).toInt = 0) ∧ (((a 54).getD x1.toNatClampNeg 0).toInt = 1))) → a1 57 = (cPaid (i 3200) (i 3206) x1 5 (cT0 50 i a)).2.1.set (cPaid (i 3200) (i 3206) x1 5 (cT0 50 i a)).1.toNatClampNeg x1) ∧ (((0 : Int) ≤ x1.toInt) ∧ (x1.toInt < (i 3200).toInt) ∧ (¬ (((i 3207).toInt = 0) ∧ (((a 54).getD x1.toNatClampNeg 0).toInt = 1))) → a1 58 = (cPaid (i 3200) (i 3206) x1 5 (cT0 50 i a)).2.2.1.set (cPaid (i 3200) (i 3206) x1 5 (cT0 50 i a)).1.toNatClampNeg (cBuyV (i (64 * r 1)) (a (r 1 + 1)) (a (r 1 + 2)) (a (r 1 + 3)) (i (64 * r 1 + 3)) ((a 52).getD x1.toNatClampNeg 0) ((a 51).getD x1.toNatClampNeg 0) ((a 53).getD x1.toNatClampNeg 0) (i 3209) ((a 55).getD x1.toNatClampNeg 0) (i 3208))) ∧ (((0 : Int) ≤ x1.toInt) ∧ (x1.toInt < (i 3200).toInt) ∧ (¬ (((i 3207).toInt = 0) ∧ (((a 54).getD x1.toNatClampNeg 0).toInt = 1))) → a1 51 = (cPaid (i 3200) (i 3206) x1 5 (cT0 50 i a)).2.2.2.1) ∧ (((0 : Int) ≤ x1.toInt) ∧ (x1.toInt < (i 3200).toInt) ∧ (¬ (((i 3207).toInt = 0) ∧ (((a 54).getD x1.toNatClampNeg 0).toInt = 1))) → i1 3214 = (cPaid (i 3200) (i 3206) x1 5 (cT0 50 i a)).2.2.2.2.1) ∧ (((0 : Int) ≤ x1.toInt) ∧ (x1.toInt < (i 3200).toInt) ∧ (¬ (((i 3207).toInt = 0) ∧ (((a 54).getD x1.toNatClampNeg 0).toInt = 1))) → i1 3215 = (cPaid (i 3200) (i 3206) x1 5 (cT0 50 i a)).2.2.2.2.2.1) ∧ (((0 : Int) ≤ x1.toInt) ∧ (x1.toInt < (i 3200).toInt) ∧ (¬ (((i 3207).toInt = 0) ∧ (((a 54).getD x1.toNatClampNeg 0).toInt = 1))) → i1 3216 = (cBuyV (i (64 * r 1)) (a (r 1 + 1)) (a (r 1 + 2)) (a (r 1 + 3)) (i (64 * r 1 + 3)) ((a 52).getD x1.toNatClampNeg 0) ((a 51).getD x1.toNatClampNeg 0) ((a 53).getD x1.toNatClampNeg 0) (i 3209) ((a 55).getD x1.toNatClampNeg 0) (i 3208))) ∧ (((0 : Int) ≤ x1.toInt) ∧ (x1.toInt < (i 3200).toInt) ∧ (¬ (((i 3207).toInt = 0) ∧ (((a 54).getD x1.toNatClampNeg 0).toInt = 1))) → i1 3209 = i 3209 + 1) ∧ (((0 : Int) ≤ x1.toInt) ∧ (x1.toInt < (i 3200).toInt) ∧ (¬ (((i 3207).toInt = 0) ∧ (((a 54).getD x1.toNatClampNeg 0).toInt = 1))) → a1 55 = (a 55).set x1.toNatClampNeg ((a 55).getD x1.toNatClampNeg 0 + 1)) ∧ (((0 : Int) ≤ x1.toInt) ∧ (x1.toInt < (i 3200).toInt) ∧ (¬ (((i 3207).toInt = 0) ∧ (((a 54).getD x1.toNatClampNeg 0).toInt = 1))) → a1 63 = ((cPaid (i 3200) (i 3206) x1 5 (cT0 50 i a)).2.2.2.2.2.2.1.set (0 : Int32).toNatClampNeg ((cPaid (i 3200) (i 3206) x1 5 (cT0 50 i a)).2.2.2.2.2.2.1.getD (0 : Int32).toNatClampNeg 0 + 1)).set (1 : Int32).toNatClampNeg (((cPaid (i 3200) (i 3206) x1 5 (cT0 50 i a)).2.2.2.2.2.2.1.set (0 : Int32).toNatClampNeg ((cPaid (i 3200) (i 3206) x1 5 (cT0 50 i a)).2.2.2.2.2.2.1.getD (0 : Int32).toNatClampNeg 0 + 1)).getD (1 : Int32).toNatClampNeg 0 + (cPaid (i 3200) (i 3206) x1 5 (cT0 50 i a)).2.2.2.2.2.1)) ∧ (((0 : Int) ≤ x1.toInt) ∧ (x1.toInt < (i 3200).toInt) ∧ (¬ (((i 3207).toInt = 0) ∧ (((a 54).getD x1.toNatClampNeg 0).toInt = 1))) → v = (cPaid (i 3200) (i 3206) x1 5 (cT0 50 i a)).2.2.2.2.2.1) ∧ (((0 : Int) ≤ x1.toInt) ∧ (x1.toInt < (i 3200).toInt) ∧ (¬ (((i 3207).toInt = 0) ∧ (((a 54).getD x1.toNatClampNeg 0).toInt = 1))) → a1 65 = (cPaid (i 3200) (i 3206) x1 5 (cT0 50 i a)).2.2.2.2.2.2.2 0) ∧ (((0 : Int) ≤ x1.toInt) ∧ (x1.toInt < (i 3200).toInt) ∧ (¬ (((i 3207).toInt = 0) ∧ (((a 54).getD x1.toNatClampNeg 0).toInt = 1))) → a1 66 = (cPaid (i 3200) (i 3206) x1 5 (cT0 50 i a)).2.2.2.2.2.2.2 1) ∧ (((0 : Int) ≤ x1.toInt) ∧ (x1.toInt < (i 3200).toInt) ∧ (¬ (((i 3207).toInt = 0) ∧ (((a 54).getD x1.toNatClampNeg 0).toInt = 1))) → a1 67 = (cPaid (i 3200) (i 3206) x1 5 (cT0 50 i a)).2.2.2.2.2.2.2 2) ∧ (((0 : Int) ≤ x1.toInt) ∧ (x1.toInt < (i 3200).toInt) ∧ (¬ (((i 3207).toInt = 0) ∧ (((a 54).getD x1.toNatClampNeg 0).toInt = 1))) → a1 68 = (cPaid (i 3200) (i 3206) x1 5 (cT0 50 i a)).2.2.2.2.2.2.2 3) ∧ (((0 : Int) ≤ x1.toInt) ∧ (x1.toInt < (i 3200).toInt) ∧ (¬ (((i 3207).toInt = 0) ∧ (((a 54).getD x1.toNatClampNeg 0).toInt = 1))) → a1 69 = (cPaid (i 3200) (i 3206) x1 5 (cT0 50 i a)).2.2.2.2.2.2.2 4) ∧ (((0 : Int) ≤ x1.toInt) ∧ (x1.toInt < (i 3200).toInt) ∧ (¬ (((i 3207).toInt = 0) ∧ (((a 54).getD x1.toNatClampNeg 0).toInt = 1))) → a1 70 = (cPaid (i 3200) (i 3206) x1 5 (cT0 50 i a)).2.2.2.2.2.2.2 5) ∧ (((0 : Int) ≤ x1.toInt) ∧ (x1.toInt < (i 3200).toInt) ∧ (¬ (((i 3207).toInt = 0) ∧ (((a 54).getD x1.toNatClampNeg 0).toInt = 1))) → a1 71 = (cPaid (i 3200) (i 3206) x1 5 (cT0 50 i a)).2.2.2.2.2.2.2 6) ∧ (((0 : Int) ≤ x1.toInt) ∧ (x1.toInt < (i 3200).toInt) ∧ (¬ (((i 3207).toInt = 0) ∧ (((a 54).getD x1.toNatClampNeg 0).toInt = 1))) → a1 72 = (cPaid (i 3200) (i 3206) x1 5 (cT0 50 i a)).2.2.2.2.2.2.2 7) ∧ (¬ (((0 : Int) ≤ x1.toInt) ∧ (x1.toInt < (i 3200).toInt) ∧ (¬ (((i 3207).toInt = 0) ∧ (((a 54).getD x1.toNatClampNeg 0).toInt = 1)))) → i1 3586 = i 3586) ∧ (¬ (((0 : Int) ≤ x1.toInt) ∧ (x1.toInt < (i 3200).toInt) ∧ (¬ (((i 3207).toInt = 0) ∧ (((a 54).getD x1.toNatClampNeg 0).toInt = 1)))) → a1 57 = a 57) ∧ (¬ (((0 : Int) ≤ x1.toInt) ∧ (x1.toInt < (i 3200).toInt) ∧ (¬ (((i 3207).toInt = 0) ∧ (((a 54).getD x1.toNatClampNeg 0).toInt = 1)))) → a1 58 = a 58) ∧ (¬ (((0 : Int) ≤ x1.toInt) ∧ (x1.toInt < (i 3200).toInt) ∧ (¬ (((i 3207).toInt = 0) ∧ (((a 54).getD x1.toNatClampNeg 0).toInt = 1)))) → a1 51 = a 51) ∧ (¬ (((0 : Int) ≤ x1.toInt) ∧ (x1.toInt < (i 3200).toInt) ∧ (¬ (((i 3207).toInt = 0) ∧ (((a 54).getD x1.toNatClampNeg 0).toInt = 1)))) → a1 55 = a 55) ∧ (¬ (((0 : Int) ≤ x1.toInt) ∧ (x1.toInt < (i 3200).toInt) ∧ (¬ (((i 3207).toInt = 0) ∧ (((a 54).getD x1.toNatClampNeg 0).toInt = 1)))) → a1 63 = a 63) ∧ (¬ (((0 : Int) ≤ x1.toInt) ∧ (x1.toInt < (i 3200).toInt) ∧ (¬ (((i 3207).toInt = 0) ∧ (((a 54).getD x1.toNatClampNeg 0).toInt = 1)))) → i1 3214 = 8) ∧ (¬ (((0 : Int) ≤ x1.toInt) ∧ (x1.toInt < (i 3200).toInt) ∧ (¬ (((i 3207).toInt = 0) ∧ (((a 54).getD x1.toNatClampNeg 0).toInt = 1)))) → i1 3215 = 0) ∧ (¬ (((0 : Int) ≤ x1.toInt) ∧ (x1.toInt < (i 3200).toInt) ∧ (¬ (((i 3207).toInt = 0) ∧ (((a 54).getD x1.toNatClampNeg 0).toInt = 1)))) → i1 3216 = 0) ∧ (¬ (((0 : Int) ≤ x1.toInt) ∧ (x1.toInt < (i 3200).toInt) ∧ (¬ (((i 3207).toInt = 0) ∧ (((a 54).getD x1.toNatClampNeg 0).toInt = 1)))) → i1 3209 = i 3209) ∧ (¬ (((0 : Int) ≤ x1.toInt) ∧ (x1.toInt < (i 3200).toInt) ∧ (¬ (((i 3207).toInt = 0) ∧ (((a 54).getD x1.toNatClampNeg 0).toInt = 1)))) → v = 0) ∧ (¬ (((0 : Int) ≤ x1.toInt) ∧ (x1.toInt < (i 3200).toInt) ∧ (¬ (((i 3207).toInt = 0) ∧ (((a 54).getD x1.toNatClampNeg 0).toInt = 1)))) → a1 65 = a 65) ∧ (¬ (((0 : Int) ≤ x1.toInt) ∧ (x1.toInt < (i 3200).toInt) ∧ (¬ (((i 3207).toInt = 0) ∧ (((a 54).getD x1.toNatClampNeg 0).toInt = 1)))) → a1 66 = a 66) ∧ (¬ (((0 : Int) ≤ x1.toInt) ∧ (x1.toInt < (i 3200).toInt) ∧ (¬ (((i 3207).toInt = 0) ∧ (((a 54).getD x1.toNatClampNeg 0).toInt = 1)))) → a1 67 = a 67) ∧ (¬ (((0 : Int) ≤ x1.toInt) ∧ (x1.toInt < (i 3200).toInt) ∧ (¬ (((i 3207).toInt = 0) ∧ (((a 54).getD x1.toNatClampNeg 0).toInt = 1)))) → a1 68 = a 68) ∧ (¬ (((0 : Int) ≤ x1.toInt) ∧ (x1.toInt < (i 3200).toInt) ∧ (¬ (((i 3207).toInt = 0) ∧ (((a 54).getD x1.toNatClampNeg 0).toInt = 1)))) → a1 69 = a 69) ∧ (¬ (((0 : Int) ≤ x1.toInt) ∧ (x1.toInt < (i 3200).toInt) ∧ (¬ (((i 3207).toInt = 0) ∧ (((a 54).getD x1.toNatClampNeg 0).toInt = 1)))) → a1 70 = a 70) ∧ (¬ (((0 : Int) ≤ x1.toInt) ∧ (x1.toInt < (i 3200).toInt) ∧ (¬ (((i 3207).toInt = 0) ∧ (((a 54).getD x1.toNatClampNeg 0).toInt = 1)))) → a1 71 = a 71) ∧ (¬ (((0 : Int) ≤ x1.toInt) ∧ (x1.toInt < (i 3200).toInt) ∧ (¬ (((i 3207).toInt = 0) ∧ (((a 54).getD x1.toNatClampNeg 0).toInt = 1)))) → a1 72 = a 72))
def pt_ke34_50_1  (i : Nat → Int32) (a : Nat → List Int32) (q : Nat → List Int64) (r : Nat → Nat) (i1 : Nat → Int32) (a1 : Nat → List Int32) (q1 : Nat → List Int64) (r1 : Nat → Nat) : Prop := (True) ∧ ((a1 51 = mi_cpy (a 2) (a 51) (0 : Int32).toNatClampNeg (0 : Int32).toNatClampNeg (sMx 0 (sMn 8 8)).toNatClampNeg ∧ a1 55 = mi_cpy (a 6) (a 55) (0 : Int32).toNatClampNeg (0 : Int32).toNatClampNeg (sMx 0 (sMn 8 8)).toNatClampNeg ∧ a1 63 = List.replicate 5 0 ∧ i1 3208 = i 72 ∧ i1 3209 = i 73 ∧ a1 57 = mi_cpy (a 8) (a 57) (0 : Int32).toNatClampNeg (0 : Int32).toNatClampNeg (5 : Int32).toNatClampNeg ∧ a1 58 = mi_cpy (a 9) (a 58) (0 : Int32).toNatClampNeg (0 : Int32).toNatClampNeg (5 : Int32).toNatClampNeg ∧ i1 3586 = i 450 ∧ i1 3200 = i 64 ∧ a1 52 = mi_cpy (a 3) (a 52) (0 : Int32).toNatClampNeg (0 : Int32).toNatClampNeg (8 : Int32).toNatClampNeg ∧ a1 53 = mi_cpy (a 4) (a 53) (0 : Int32).toNatClampNeg (0 : Int32).toNatClampNeg (8 : Int32).toNatClampNeg ∧ a1 54 = mi_cpy (a 5) (a 54) (0 : Int32).toNatClampNeg (0 : Int32).toNatClampNeg (8 : Int32).toNatClampNeg ∧ i1 3206 = i 70 ∧ i1 3207 = i 71) ∧ (kZ8 a1 ∧ r1 1 = r 0))
def pt_ke32_50  (i : Nat → Int32) (a : Nat → List Int32) (q : Nat → List Int64) (r : Nat → Nat) (i1 : Nat → Int32) (a1 : Nat → List Int32) (q1 : Nat → List Int64) (r1 : Nat → Nat) : Prop := (True) ∧ (i1 3208 = sMn 99 (i 3208 + 1) ∧ i1 3209 = 0 ∧ a1 55 = List.replicate 8 0 ∧ a1 63 = (a 63).set (3 : Int32).toNatClampNeg ((a 63).getD (3 : Int32).toNatClampNeg 0 + 1))
def pt_ke166_116 (x1 : Int32) (v : Int32) (i : Nat → Int32) (a : Nat → List Int32) (q : Nat → List Int64) (r : Nat → Nat) (i1 : Nat → Int32) (a1 : Nat → List Int32) (q1 : Nat → List Int64) (r1 : Nat → Nat) : Prop := (((v.toInt = 1) ∧ (¬ ((((a 117).getD (16 + x1).toNatClampNeg 0).toInt = 1) ∧ ((i 7427).toInt = 0)))) ∨ ((v.toInt = 0) ∧ (((a 117).getD (16 + x1).toNatClampNeg 0).toInt = 1) ∧ ((i 7427).toInt = 0))) ∧ ((¬ ((((a 117).getD (16 + x1).toNatClampNeg 0).toInt = 1) ∧ ((i 7427).toInt = 0)) → a1 118 = sCome x1 (gBuy (i 7431) (a 120) (a 121) (a 122) (a 123) (i 7432) (a 117) (a 118) (gPaid (i 7426) x1 (a 118) (i 7467) (a 141)).1 x1) (gPaid (i 7426) x1 (a 118) (i 7467) (a 141)).1) ∧ (¬ ((((a 117).getD (16 + x1).toNatClampNeg 0).toInt = 1) ∧ ((i 7427).toInt = 0)) → i1 7464 = (gPaid (i 7426) x1 (a 118) (i 7467) (a 141)).2.1) ∧ (¬ ((((a 117).getD (16 + x1).toNatClampNeg 0).toInt = 1) ∧ ((i 7427).toInt = 0)) → i1 7465 = (gPaid (i 7426) x1 (a 118) (i 7467) (a 141)).2.2.1) ∧ (¬ ((((a 117).getD (16 + x1).toNatClampNeg 0).toInt = 1) ∧ ((i 7427).toInt = 0)) → i1 7466 = (gBuy (i 7431) (a 120) (a 121) (a 122) (a 123) (i 7432) (a 117) (a 118) (gPaid (i 7426) x1 (a 118) (i 7467) (a 141)).1 x1)) ∧ (¬ ((((a 117).getD (16 + x1).toNatClampNeg 0).toInt = 1) ∧ ((i 7427).toInt = 0)) → i1 7467 = (gPaid (i 7426) x1 (a 118) (i 7467) (a 141)).2.2.2.1) ∧ (¬ ((((a 117).getD (16 + x1).toNatClampNeg 0).toInt = 1) ∧ ((i 7427).toInt = 0)) → a1 141 = (gPaid (i 7426) x1 (a 118) (i 7467) (a 141)).2.2.2.2) ∧ ((((a 117).getD (16 + x1).toNatClampNeg 0).toInt = 1) ∧ ((i 7427).toInt = 0) → a1 118 = a 118) ∧ ((((a 117).getD (16 + x1).toNatClampNeg 0).toInt = 1) ∧ ((i 7427).toInt = 0) → i1 7464 = 8) ∧ ((((a 117).getD (16 + x1).toNatClampNeg 0).toInt = 1) ∧ ((i 7427).toInt = 0) → i1 7465 = 0) ∧ ((((a 117).getD (16 + x1).toNatClampNeg 0).toInt = 1) ∧ ((i 7427).toInt = 0) → i1 7466 = 0) ∧ ((((a 117).getD (16 + x1).toNatClampNeg 0).toInt = 1) ∧ ((i 7427).toInt = 0) → i1 7467 = i 7467) ∧ ((((a 117).getD (16 + x1).toNatClampNeg 0).toInt = 1) ∧ ((i 7427).toInt = 0) → a1 141 = a 141))
end
section
/-! ONE COMES IN, IN THOUGHT: the class's market follows the reference's steps -/
section TC
variable {i i1 : Nat → Int32} {a a1 : Nat → List Int32} {q q1 : Nat → List Int64} {r r1 : Nat → Nat} {S : gS} {x1 v : Int32}
theorem rw8 {a1 : Nat → List Int32} {F : Nat → List Int32} (h0 : a1 65 = F 0) (h1 : a1 66 = F 1) (h2 : a1 67 = F 2) (h3 : a1 68 = F 3) (h4 : a1 69 = F 4) (h5 : a1 70 = F 5) (h6 : a1 71 = F 6) (h7 : a1 72 = F 7) : ∀ u : Nat, u < 8 → a1 (50 + 15 + u) = F u
  | 0, _ => h0
  | 1, _ => h1
  | 2, _ => h2
  | 3, _ => h3
  | 4, _ => h4
  | 5, _ => h5
  | 6, _ => h6
  | 7, _ => h7
  | u + 8, h => absurd h (by omega)
theorem thc_fr {w : kW} (g : kG w i a q r i1 a1 q1 r1) (f : kUn w [3200, 64, 3206, 70, 3207, 71] [52, 3, 53, 4, 54, 5] [0, 1] = true) (h : kThC i a r) : kThC i1 a1 r1 := by
  obtain ⟨f1, f2, f3⟩ := kUn_all f
  obtain ⟨c1, c2, c3, c4, c5, c6, c7⟩ := h
  refine ⟨?_, ?_, ?_, ?_, ?_, ?_, ?_⟩
  · rw [g.fi _ (f1 3200 (by decide)), g.fi _ (f1 64 (by decide))]; exact c1
  · rw [g.fi _ (f1 3206 (by decide)), g.fi _ (f1 70 (by decide))]; exact c2
  · rw [g.fi _ (f1 3207 (by decide)), g.fi _ (f1 71 (by decide))]; exact c3
  · rw [g.fa _ (f2 52 (by decide)), g.fa _ (f2 3 (by decide))]; exact c4
  · rw [g.fa _ (f2 53 (by decide)), g.fa _ (f2 4 (by decide))]; exact c5
  · rw [g.fa _ (f2 54 (by decide)), g.fa _ (f2 5 (by decide))]; exact c6
  · rw [g.fr _ (f3 0 (by decide)), g.fr _ (f3 1 (by decide))]; exact c7
set_option maxHeartbeats 4000000 in
theorem th_come (hI : kI i a q) (hr : kr r) (hN : kNoW i a r) (hT : kThm i a r S) (hx0 : 0 ≤ x1.toInt) (hx1 : x1.toInt < (i 3200).toInt) (g : kG yw29_50 i a q r i1 a1 q1 r1) (P : pt_ke29_50 x1 v i a q r i1 a1 q1 r1) : kThm i1 a1 r1 (gIn (gKn i a) x1 S) ∧ v = (gIn (gKn i a) x1 S).2.2.1 := by
  obtain ⟨N, py, pd, bo, la, Fl⟩ := S
  obtain ⟨n1, n2, n3, n4⟩ := hN
  obtain ⟨hC, hb, ⟨L0, hP⟩, hF, hD⟩ := hT
  have kC := thc_fr g (by decide +kernel) hC
  obtain ⟨c1, c2, c3, c4, c5, c6, c7⟩ := hC
  have b8 := kI_64 hI
  have t5 := kI_3rd hI
  have hx1' : x1.toInt < (i 64).toInt := by rw [← c1]; exact hx1
  have t3 : i 70 = i 7426 := n3.2.2.1
  obtain ⟨de, dg⟩ := dog_eq n3 hx0 (by omega : x1.toInt < 8)
  obtain ⟨hp1, hp2, hp3, hp4, hp5, hp6, hp7, hp8⟩ := hP
  have hp1 : mNow (i 64) (a 51) (a 55) (i 3208) (i 3209) (i 3586) (a 57) (a 58) N := hp1
  have hp4 : (a 63).getD 2 0 = 0 + la := hp4
  have hp7 : N.length = 31 := hp7
  have hp8 : Fl.length = 64 := hp8
  have op : i 3586 = N.getD 18 0 := mNow_18 hp1
  have o5 : (0 : Int) ≤ (i 3586).toInt ∧ (i 3586).toInt ≤ 5 := hI.1 3586
  have e64 : i1 64 = i 64 := g.fi 64 rfl
  have e08 : i1 3208 = i 3208 := g.fi 3208 rfl
  by_cases hd : (i 3207).toInt = 0 ∧ ((a 54).getD x1.toNatClampNeg 0).toInt = 1
  · have hn : ¬ (((0 : Int) ≤ x1.toInt) ∧ (x1.toInt < (i 3200).toInt) ∧ (¬ (((i 3207).toInt = 0) ∧ (((a 54).getD x1.toNatClampNeg 0).toInt = 1)))) := fun z => z.2.2 hd
    have eg : gIn (gKn i a) x1 (N, py, pd, bo, la, Fl) = (N, 8, 0, 0, la, Fl) := if_pos ⟨by show ((a 117).getD (16 + x1).toNatClampNeg 0).toInt = 1; rw [← de, ← c6]; exact hd.2, by show (i 7427).toInt = 0; rw [← dg, ← c3]; exact hd.1⟩
    obtain ⟨_, _, _, _, _, _, _, _, _, _, _, _, _, _, _, _, _, _, _, _, m1, m2, m3, m4, m5, m6, m7, m8, m9, m10, m11, u0, u1, u2, u3, u4, u5, u6, u7⟩ := P
    rw [eg]
    have eT : cT 50 i1 a1 = (i 3586, a 57, a 58, a 51, 8, 0, a 63, cRow 50 a) := cT_eq (m1 hn) (m2 hn) (m3 hn) (m4 hn) (m7 hn) (m8 hn) (m6 hn) (rw8 (F := cRow 50 a) (u0 hn) (u1 hn) (u2 hn) (u3 hn) (u4 hn) (u5 hn) (u6 hn) (u7 hn)) (fun u hu => cRow_ge hu)
    refine ⟨⟨kC, m9 hn, ⟨L0, ?_⟩, ?_⟩, m11 hn⟩
    · rw [eT, e64, m5 hn, e08, m10 hn]
      exact ⟨hp1, rfl, rfl, hp4, hp5, hp6, hp7, hp8⟩
    · rw [eT]
      exact ⟨hF, hD⟩
  · have hC2 : ((0 : Int) ≤ x1.toInt) ∧ (x1.toInt < (i 3200).toInt) ∧ (¬ (((i 3207).toInt = 0) ∧ (((a 54).getD x1.toNatClampNeg 0).toInt = 1))) := ⟨hx0, hx1, hd⟩
    have eg : gIn (gKn i a) x1 (N, py, pd, bo, la, Fl) = gCo (gKn i a) x1 N (gPaid (i 7426) x1 N la Fl) := if_neg (fun z => hd ⟨by rw [c3, dg]; exact z.2, by rw [c6, de]; exact z.1⟩)
    obtain ⟨_, m1, m2, m3, m4, m5, m6, m7, m8, m9, m10, m11, u0, u1, u2, u3, u4, u5, u6, u7, _⟩ := P
    have k1 := m1 hC2
    have k2 := m2 hC2
    have k3 := m3 hC2
    have k4 := m4 hC2
    have k5 := m5 hC2
    have k6 := m6 hC2
    have k7 := m7 hC2
    have k8 := m8 hC2
    have k9 := m9 hC2
    have k10 := m10 hC2
    have k11 := m11 hC2
    have w := rw8 (a1 := a1) (F := (cPaid (i 3200) (i 3206) x1 5 (cT0 50 i a)).2.2.2.2.2.2.2) (u0 hC2) (u1 hC2) (u2 hC2) (u3 hC2) (u4 hC2) (u5 hC2) (u6 hC2) (u7 hC2)
    clear m1 m2 m3 m4 m5 m6 m7 m8 m9 m10 m11 u0 u1 u2 u3 u4 u5 u6 u7
    have hP0 : mP (i 64) 0 L0 (a 55) (i 3208) (i 3209) (cT0 50 i a) (N, 8, 0, la, Fl) := ⟨hp1, rfl, rfl, hp4, hp5, hp6, hp7, hp8⟩
    have tb := Int32.toNat_toInt x1
    obtain ⟨p1, p2, p3⟩ := paid_same (b := i 64) (c := x1) (t3 := i 7426) b8.2 hx0 hx1' t5.1 5 (N.getD 18 0).toInt.toNat (cT0 50 i a) (N, 8, 0, la, Fl) hP0 (show (i 3586).toInt ≤ 5 by omega) (show (i 3586).toInt ≤ ((N.getD 18 0).toInt.toNat : Int) by rw [op] at o5 ⊢; omega) (show (i 3586).toInt ≤ 5 by omega) (show 0 ≤ (i 3586).toInt by omega)
    have p3 := p3 hF
    have pD : kDg (cPaid (i 64) (i 7426) x1 5 (cT0 50 i a)) := cPaid_dg hx0 5 hD
    rw [c1, c2, t3] at k1 k2 k3 k4 k5 k6 k10 k11 w
    have egp : gPaid (i 7426) x1 N la Fl = sPaid (i 7426) x1 (N.getD 18 0).toInt.toNat (N, 8, 0, la, Fl) := rfl
    rw [eg, egp]
    clear eg egp hP0 hp5 hp6 hF
    generalize cPaid (i 64) (i 7426) x1 5 (cT0 50 i a) = T1 at *
    generalize sPaid (i 7426) x1 (N.getD 18 0).toInt.toNat (N, 8, 0, la, Fl) = S1 at *
    obtain ⟨z1, z2, z3, z4, z5, ⟨l1, l2, l3, l4, l5⟩, z7, z8⟩ := p1
    have be := th_buy (pu := (a 51).getD x1.toNatClampNeg 0) (N := N) (N1 := S1.1) hI hr n3 n4 hx0 (by omega : x1.toInt < 8) (hp1.1 _ (by omega)) z1.2.2.1.symm (z1.2.2.2.1 x1.toNatClampNeg (by omega)).symm z1.2.1.symm
    rw [c4, c5, c7, be] at k3 k7
    obtain ⟨y1, y2, y3⟩ := come_now (bu := gBy (gKn i a) N S1.1 x1) z1 b8.2 hx0 hx1' p2.2 (by omega) (kl_55 hI) l1 l2 z7
    unfold gCo
    refine ⟨⟨kC, k7, ⟨a1 63, ?_, ?_, ?_, ?_, fun _ _ => rfl, th_len g.I, y2, z8⟩, ?_⟩, ?_⟩
    · show mNow (i1 64) (a1 51) (a1 55) (i1 3208) (i1 3209) (i1 3586) (a1 57) (a1 58) (sCome x1 (gBy (gKn i a) N S1.1 x1) S1.1)
      rw [e64, k4, k9, e08, k8, k1, k2, k3]
      exact y1
    · show i1 3214 = S1.2.1
      rw [k5]; exact z2
    · show i1 3215 = S1.2.2.1
      rw [k6]; exact z3
    · show (a1 63).getD 2 0 = 0 + S1.2.2.2.1
      rw [k10, (by decide : (0 : Int32).toNatClampNeg = 0), (by decide : (1 : Int32).toNatClampNeg = 1), kset_gI (by rw [List.length_set]; omega), if_neg (by decide), kset_gI (by omega), if_neg (by decide)]
      exact z4
    · refine ⟨fun u c hu hc => ?_, fun u hu => ?_⟩
      · show (cRow 50 a1 u).getD c 0 = _
        rw [cRow_lt hu, w u hu]
        exact p3 u c hu hc
      · show (cRow 50 a1 u).getD u 0 = 0
        rw [cRow_lt hu, w u hu]
        exact pD u hu
    · rw [k11]; exact z3
theorem kg29_50 (hI : kI i a q) (hr : kr r) (x1 : Int32) (hp0 : ((0 : Int) ≤ x1.toInt) ∧ (x1.toInt < (i 3200).toInt)) (hN : kNoW i a r) (hT : kThm i a r S) : km 7 29 [.ref 50, .int x1] (ks i a q r) (kVI yw29_50 i a q r (fun v i1 a1 q1 r1 => (True) ∧ (kThm i1 a1 r1 (gIn (gKn i a) x1 S) ∧ v = (gIn (gKn i a) x1 S).2.2.1))) := by
  have e : i 3206 = i 7426 := hT.1.2.1.trans hN.2.2.1.2.2.1
  refine km_imp (ke29_50 hI hr x1 (by rw [e]; exact kI_3rd hI)) ?_
  rintro rv h1 ⟨v, i1, a1, q1, r1, e1, e2, g, hc⟩
  exact ⟨v, i1, a1, q1, r1, e1, e2, g, trivial, th_come hI hr hN hT hp0.1 hp0.2 g hc⟩
end TC
end
section
/-! THE CLASS'S MARKET IN THOUGHT BEGINS AS IT IS NOW; evenings; what is asked of it -/
def gB (i : Nat → Int32) (a : Nat → List Int32) : gS := (a 118, i 3214, i 3215, i 3216, 0, List.replicate 64 0)
theorem rep_g {n j : Nat} : (List.replicate n (0 : Int32)).getD j 0 = 0 := by
  rw [List.getD_eq_getElem?_getD, List.getElem?_replicate]
  by_cases c : j < n
  · rw [if_pos c]; rfl
  · rw [if_neg c]; rfl
section HB
variable {i i1 : Nat → Int32} {a a1 : Nat → List Int32} {q q1 : Nat → List Int64} {r r1 : Nat → Nat} {S : gS} {x1 v : Int32}
theorem th_become (hI : kI i a q) (hN : kNoW i a r) (g : kG yw34_50_1 i a q r i1 a1 q1 r1) (P : pt_ke34_50_1 i a q r i1 a1 q1 r1) : kThm i1 a1 r1 (gB i a) := by
  obtain ⟨n1, n2, n3, n4⟩ := hN
  obtain ⟨_, ⟨m1, m2, m3, m4, m5, m6, m7, m8, m9, m10, m11, m12, m13, m14⟩, mz, mr⟩ := P
  have k8 : (sMx 0 (sMn 8 8)).toNatClampNeg = 8 := by decide
  have k5 : (5 : Int32).toNatClampNeg = 5 := by decide
  have k0 : (0 : Int32).toNatClampNeg = 0 := by decide
  have k8b : (8 : Int32).toNatClampNeg = 8 := by decide
  rw [k8, k0, cpy_alw (kl_2 hI) (kl_51 hI)] at m1
  rw [k8, k0, cpy_alw (kl_6 hI) (kl_55 hI)] at m2
  rw [k5, k0, cpy_alw (kl_8 hI) (kl_57 hI)] at m6
  rw [k5, k0, cpy_alw (kl_9 hI) (kl_58 hI)] at m7
  rw [k8b, k0, cpy_alw (kl_3 hI) (show (a 52).length = 8 from hI.2.1 52)] at m10
  rw [k8b, k0, cpy_alw (kl_4 hI) (show (a 53).length = 8 from hI.2.1 53)] at m11
  rw [k8b, k0, cpy_alw (kl_5 hI) (show (a 54).length = 8 from hI.2.1 54)] at m12
  refine ⟨⟨?_, ?_, ?_, ?_, ?_, ?_, ?_⟩, g.fi 3216 rfl, ⟨a1 63, ?_, ?_, ?_, ?_, fun _ _ => rfl, th_len g.I, kl_118 hI, List.length_replicate⟩, ?_⟩
  · rw [m9, g.fi 64 rfl]
  · rw [m13, g.fi 70 rfl]
  · rw [m14, g.fi 71 rfl]
  · rw [m10, g.fa 3 rfl]
  · rw [m11, g.fa 4 rfl]
  · rw [m12, g.fa 5 rfl]
  · rw [mr, g.fr 0 rfl]
  · show mNow (i1 64) (a1 51) (a1 55) (i1 3208) (i1 3209) (i1 3586) (a1 57) (a1 58) (a 118)
    rw [g.fi 64 rfl, m1, m2, m4, m5, m8, m6, m7]
    exact n2
  · exact g.fi 3214 rfl
  · exact g.fi 3215 rfl
  · show (a1 63).getD 2 0 = 0 + 0
    rw [m3, rep_g]
    decide
  · refine ⟨fun u c hu hc => ?_, fun u hu => ?_⟩
    · show (cRow 50 a1 u).getD c 0 = (List.replicate 64 (0 : Int32)).getD (8 * u + c) 0
      rw [cRow_lt hu, mz u hu, rep_g, rep_g]
    · show (cRow 50 a1 u).getD u 0 = 0
      rw [cRow_lt hu, mz u hu, rep_g]
theorem kg34_50_1 (hI : kI i a q) (hr : kr r) (hN : kNoW i a r) : km 5 34 [.ref 50, .ref 1] (ks i a q r) (kVN yw34_50_1 i a q r (fun i1 a1 q1 r1 => (True) ∧ kThm i1 a1 r1 (gB i a))) := by
  refine km_imp (ke34_50_1 hI hr) ?_
  rintro rv h1 ⟨i1, a1, q1, r1, e1, e2, g, hc⟩
  exact ⟨i1, a1, q1, r1, e1, e2, g, trivial, th_become hI hN g hc⟩
theorem th_dusk (hI : kI i a q) (hT : kThm i a r S) (g : kG yw32_50 i a q r i1 a1 q1 r1) (P : pt_ke32_50 i a q r i1 a1 q1 r1) : kThm i1 a1 r1 (gEve S) := by
  obtain ⟨N, py, pd, bo, la, Fl⟩ := S
  obtain ⟨hC, hb, ⟨L0, hP⟩, hF, hD⟩ := hT
  obtain ⟨hp1, hp2, hp3, hp4, hp5, hp6, hp7, hp8⟩ := hP
  have hp1 : mNow (i 64) (a 51) (a 55) (i 3208) (i 3209) (i 3586) (a 57) (a 58) N := hp1
  have hp4 : (a 63).getD 2 0 = 0 + la := hp4
  have hp7 : N.length = 31 := hp7
  obtain ⟨_, d1, d2, d3, d4⟩ := P
  obtain ⟨z1, z2⟩ := ends_now hp1 hp7
  refine ⟨thc_fr g (by decide +kernel) hC, (g.fi 3216 rfl).trans hb, ⟨a1 63, ?_, ?_, ?_, ?_, fun _ _ => rfl, th_len g.I, z2, hp8⟩, ?_⟩
  · show mNow (i1 64) (a1 51) (a1 55) (i1 3208) (i1 3209) (i1 3586) (a1 57) (a1 58) (sEnds N)
    rw [g.fi 64 rfl, g.fa 51 rfl, d3, d1, d2, g.fi 3586 rfl, g.fa 57 rfl, g.fa 58 rfl]
    exact z1
  · exact (g.fi 3214 rfl).trans hp2
  · exact (g.fi 3215 rfl).trans hp3
  · show (a1 63).getD 2 0 = 0 + la
    rw [d4, (by decide : (3 : Int32).toNatClampNeg = 3), kset_gI (by rw [kl_63 hI]; omega), if_neg (by decide)]
    exact hp4
  · have w := rw8 (F := cRow 50 a) (g.fa 65 rfl) (g.fa 66 rfl) (g.fa 67 rfl) (g.fa 68 rfl) (g.fa 69 rfl) (g.fa 70 rfl) (g.fa 71 rfl) (g.fa 72 rfl)
    refine ⟨fun u c hu hc => ?_, fun u hu => ?_⟩
    · show (cRow 50 a1 u).getD c 0 = _
      rw [cRow_lt hu, w u hu]
      exact hF u c hu hc
    · show (cRow 50 a1 u).getD u 0 = 0
      rw [cRow_lt hu, w u hu]
      exact hD u hu
theorem kg32_50 (hI : kI i a q) (hr : kr r) (hT : kThm i a r S) : km 1 32 [.ref 50] (ks i a q r) (kVN yw32_50 i a q r (fun i1 a1 q1 r1 => (True) ∧ kThm i1 a1 r1 (gEve S))) := by
  refine km_imp (ke32_50 hI hr) ?_
  rintro rv h1 ⟨i1, a1, q1, r1, e1, e2, g, hc⟩
  exact ⟨i1, a1, q1, r1, e1, e2, g, trivial, th_dusk hI hT g hc⟩
theorem gAt_len {K : gK} {L : List Int32} {S : gS} {k n : Int32} (h : k.toInt = n.toInt) : gAt K L S n.toInt.toNat = gAt K L S k.toInt.toNat := by rw [h]
theorem gOp_len {K : gK} {L A B C : List Int32} {S : gS} {k n : Int32} (g : gOp K L S k.toInt A B C) (h : k.toInt = n.toInt) : gOp K L S n.toInt A B C := by rw [← h]; exact g
end HB
end
section
theorem ox0 {a0 a1 a2 : Int} (h0 : a0 ≤ a1) (h1 : a0 = a2) (h2 : a1 ≤ a2) : a1 = a2 := by omega
theorem ox9 {a0 a1 a2 a3 a4 : Int} (h0 : a0 < a1) (h1 : a1 = a2) (h2 : a3 = a0 + a4) (h3 : a4 = 1) : a3 ≤ a2 := by omega
theorem ox22 {a0 a1 a2 a3 : Int} (h0 : a0 = a1) (h1 : a2 = a0) (h2 : a1 = a3) : a2 = a3 := by omega
end
section
/-! A ROW READ: how many come, by a SHELF's bytes; what SHELVES refuse -/
def kRp (b : Int32) (V : Nat → Int32) (n : Int) (L : List Int32) : Prop := ∀ j : Nat, (j : Int) < n → L.getD j 0 = V j ∧ 0 ≤ (V j).toInt ∧ (V j).toInt < b.toInt
def kRd (b : Int32) (len : Int) (V : Nat → Int32) (n : Int) (L : List Int32) : Prop := (0 ≤ n ∧ n ≤ 20 ∧ n ≤ len) ∧ kRp b V n L ∧ (n = 20 ∨ n = len ∨ ¬ (0 ≤ (V n.toNat).toInt ∧ (V n.toNat).toInt < b.toInt))
theorem kRp_0 {b : Int32} {V : Nat → Int32} {n : Int} {L : List Int32} (h : n ≤ 0) : kRp b V n L := fun j hj => by omega
theorem kRp_step {b x k k1 y : Int32} {Q : List Int64} {n m : Nat} {L L1 : List Int32} (h : kRp b (vQ Q n) k.toInt L) (lL : L.length = m) (h0 : 0 ≤ k.toInt) (hm : k.toInt < (m : Int)) (h1 : k1.toInt = k.toInt + 1) (e : L1 = L.set k.toNatClampNeg x) (hy : y.toInt = (n : Int) + k.toInt) (hx : x = (Q.getD y.toNatClampNeg 0).toInt32) (b0 : 0 ≤ x.toInt) (b1 : x.toInt < b.toInt) : kRp b (vQ Q n) k1.toInt L1 := by
  have tk := Int32.toNat_toInt k
  have ex : x = vQ Q n k.toInt.toNat := hx.trans (bt_idx (by omega))
  subst e
  intro j hj
  rw [kset_gI (by omega)]
  by_cases c : j = k.toNatClampNeg
  · rw [if_pos c, show j = k.toInt.toNat by omega, ← ex]
    exact ⟨rfl, b0, b1⟩
  · rw [if_neg c]
    exact h j (by omega)
theorem kRd_mk {b k n : Int32} {len : Int} {V : Nat → Int32} {L : List Int32} (h : kRp b V k.toInt L) (e : n.toInt = k.toInt) (h0 : 0 ≤ k.toInt) (h20 : k.toInt ≤ 20) (hl : k.toInt ≤ len) (s : k.toInt = 20 ∨ k.toInt = len ∨ ¬ (0 ≤ (V k.toInt.toNat).toInt ∧ (V k.toInt.toNat).toInt < b.toInt)) : kRd b len V n.toInt L := by
  unfold kRd
  rw [e]
  exact ⟨⟨h0, h20, hl⟩, h, s⟩
theorem kRd_bad {b x k y : Int32} {Q : List Int64} {n : Nat} (hy : y.toInt = (n : Int) + k.toInt) (h0 : 0 ≤ k.toInt) (hx : x = (Q.getD y.toNatClampNeg 0).toInt32) (hb : ¬ (0 ≤ x.toInt ∧ x.toInt < b.toInt)) : ¬ (0 ≤ (vQ Q n k.toInt.toNat).toInt ∧ (vQ Q n k.toInt.toNat).toInt < b.toInt) := by
  rw [← (hx.trans (bt_idx (by omega)) : x = vQ Q n k.toInt.toNat)]
  exact hb
/-- the reference's -/
def rRb (a : Nat → List Int32) (x1 v : Int32) : Prop := ((a 136).getD x1.toNatClampNeg 0).toInt = -1 ∧ v = -11 ∨ ((a 136).getD x1.toNatClampNeg 0).toInt ≠ -1 ∧ ((a 136).getD x1.toNatClampNeg 0).toInt ≠ 0 ∧ v = -12
def rRow1 (i : Nat → Int32) (a : Nat → List Int32) (q : Nat → List Int64) (x1 : Int32) (n : Int) (L : List Int32) : Prop := ((a 136).getD x1.toNatClampNeg 0).toInt = 0 ∧ kRd (i 7424) ((a 137).getD x1.toNatClampNeg 0).toInt (vQ (q 138) (60 * x1.toInt).toNat) n L
def rTop (ok : Prop) (i : Nat → Int32) (a : Nat → List Int32) (q : Nat → List Int64) (x1 v : Int32) (f : Int → List Int32 → Prop) : Prop := (¬ (ok ∧ 0 ≤ x1.toInt ∧ x1.toInt ≤ 5) ∧ v = -1) ∨ ((ok ∧ 0 ≤ x1.toInt ∧ x1.toInt ≤ 5) ∧ (rRb a x1 v ∨ ∃ (n : Int) (L : List Int32), rRow1 i a q x1 n L ∧ f n L))
end
section
/-! WHAT IS ASKED OF A ROW IN THOUGHT -/
def fMk (K : gK) (S : gS) (x2 x3 v : Int32) (n : Int) (L : List Int32) : Prop := (x3.toInt = 0 → v.toInt = n) ∧ (x3.toInt = 1 → v = (gAt K L S n.toNat).2.2.2.2.1) ∧ (x3.toInt = 2 → v = (gAt K L S n.toNat).1.getD 18 0) ∧ (x3.toInt = 3 → v = (gAt K L S n.toNat).1.getD x2.toNatClampNeg 0)
def fCo (K : gK) (S : gS) (x2 x3 v : Int32) (n : Int) (L : List Int32) : Prop := (n ≤ x2.toInt → v = -2) ∧ (x2.toInt < n → (x3.toInt = 0 → v = (gAt K L S (x2.toInt.toNat + 1)).2.1) ∧ (x3.toInt = 1 → v = (gAt K L S (x2.toInt.toNat + 1)).2.2.1) ∧ (x3.toInt = 2 → v = (gAt K L S (x2.toInt.toNat + 1)).2.2.2.1))
def fFl (K : gK) (S : gS) (x2 v : Int32) (n : Int) (L : List Int32) : Prop := v = (gAt K L S n.toNat).2.2.2.2.2.getD (8 * (x2 / 10) + (x2 - x2 / 10 * 10)).toNatClampNeg 0
/-- n days of the same ROW -/
def gDay (K : gK) (L : List Int32) (m : Nat) (S : gS) : Nat → gS
  | 0 => S
  | k + 1 => gAt K L (if k = 0 then gDay K L m S k else gEve (gDay K L m S k)) m
def fLa (K : gK) (S : gS) (x2 x3 v : Int32) (n : Int) (L : List Int32) : Prop := (x3.toInt = -1 → v = (gDay K L n.toNat S x2.toInt.toNat).2.2.2.2.1) ∧ (x3.toInt ≠ -1 → v = (gDay K L n.toNat S x2.toInt.toNat).1.getD x3.toNatClampNeg 0)
section TV
variable {K : gK} {S S1 : gS} {L L1 A B C : List Int32} {x2 x3 v w : Int32} {n : Int}
theorem gOp_at {m : Int32} (h : gOp K L S m.toInt A B C) (h0 : 0 ≤ x2.toInt) (hm : x2.toInt < m.toInt) : A.getD x2.toNatClampNeg 0 = (gAt K L S (x2.toInt.toNat + 1)).2.1 ∧ B.getD x2.toNatClampNeg 0 = (gAt K L S (x2.toInt.toNat + 1)).2.2.1 ∧ C.getD x2.toNatClampNeg 0 = (gAt K L S (x2.toInt.toNat + 1)).2.2.2.1 := h x2.toInt.toNat (by omega)
theorem gDay_0 {k : Int32} {m : Nat} (h : k.toInt = 0) : gDay K L m S k.toInt.toNat = S := by
  rw [h]
  rfl
/-- a day more: the first without an evening ahead -/
theorem gDay_one {T : gS} {k k1 : Int32} {m : Nat} (h : T = gAt K L (gDay K L m S k.toInt.toNat) m) (h0 : k.toInt = 0) (h1 : k1.toInt = k.toInt + 1) : T = gDay K L m S k1.toInt.toNat := by
  rw [h, show k1.toInt.toNat = k.toInt.toNat + 1 by omega]
  conv => rhs; unfold gDay
  rw [if_pos (by omega)]
theorem gDay_more {T : gS} {k k1 : Int32} {m : Nat} (h : T = gAt K L (gEve (gDay K L m S k.toInt.toNat)) m) (h0 : 1 ≤ k.toInt) (h1 : k1.toInt = k.toInt + 1) : T = gDay K L m S k1.toInt.toNat := by
  rw [h, show k1.toInt.toNat = k.toInt.toNat + 1 by omega]
  conv => rhs; unfold gDay
  rw [if_neg (by omega)]
theorem gDay_len {k n : Int32} {m : Nat} (h : k.toInt = n.toInt) : gDay K L m S n.toInt.toNat = gDay K L m S k.toInt.toNat := by rw [h]
end TV
end
section
theorem toy54 {a0 a1 a2 : Int} (h0 : a0 < a1) (h1 : a1 = a2) : a0 ≤ a2 := by omega
theorem toy74 {a0 a1 : Int} (h0 : a0 ≤ a1) (h1 : a0 = 20) : (0 : Int) ≤ a1 := by omega
theorem toy75 {a0 a1 : Int} (h0 : a0 ≤ a1) (h1 : a1 ≤ 20) (h2 : a0 = 20) : a1 = 20 := by omega
theorem toy121 {a0 a1 : Int} (h0 : a0 ≠ a1) (h1 : a1 ≤ a0) (h2 : a1 = 0) : ¬ (a0 = 0) := by omega
theorem toy122 {a0 a1 a2 : Int} (h0 : a0 ≠ a1) (h1 : a0 ≠ a2) (h2 : a1 ≤ a0) (h3 : a1 = 0) (h4 : a2 = 1) : ¬ (a0 = 1) := by omega
theorem toy127 {a0 a1 : Int} (h0 : a0 = a1) (h1 : a1 = 1) : ¬ (a0 = 2) := by omega
theorem toy129 {a0 a1 : Int} (h0 : a0 = a1) (h1 : a1 = 0) : ¬ (a0 = 1) := by omega
theorem toy130 {a0 a1 : Int} (h0 : a0 = a1) (h1 : a1 = 0) : ¬ (a0 = 2) := by omega
theorem toy131 {a0 a1 : Int} (h0 : a0 ≤ a1) : ¬ (a1 < a0) := by omega
end
section
/-! THE REFERENCE'S STEPS IN THOUGHT -/
def gT (i : Nat → Int32) (a : Nat → List Int32) : gS := (a 118, i 7464, i 7465, i 7466, i 7467, a 141)
def gR (i : Nat → Int32) (a : Nat → List Int32) : gS := (a 118, i 7464, i 7465, i 7466, 0, List.replicate 64 0)
theorem gT_6 {i : Nat → Int32} {a : Nat → List Int32} {N F : List Int32} {p d b la : Int32} (h1 : a 118 = N) (h2 : i 7464 = p) (h3 : i 7465 = d) (h4 : i 7466 = b) (h5 : i 7467 = la) (h6 : a 141 = F) : gT i a = (N, p, d, b, la, F) := by
  subst h1; subst h2; subst h3; subst h4; subst h5; subst h6; rfl
section RH
variable {w : kW} {i i1 : Nat → Int32} {a a1 : Nat → List Int32} {q q1 : Nat → List Int64} {r r1 : Nat → Nat} {S : gS} {x1 v : Int32}
theorem gR_eq (h : a1 118 = a 118) (h1 : i1 7464 = i 7464) (h2 : i1 7465 = i 7465) (h3 : i1 7466 = i 7466) : gR i1 a1 = gR i a := by
  unfold gR
  rw [h, h1, h2, h3]
theorem th_goesIn (P : pt_ke166_116 x1 v i a q r i1 a1 q1 r1) : gT i1 a1 = gIn (gKn i a) x1 (gT i a) := by
  obtain ⟨_, c1, c2, c3, c4, c5, c6, n1, n2, n3, n4, n5, n6⟩ := P
  by_cases hd : ((a 117).getD (16 + x1).toNatClampNeg 0).toInt = 1 ∧ (i 7427).toInt = 0
  · have e : gIn (gKn i a) x1 (gT i a) = (a 118, 8, 0, 0, i 7467, a 141) := if_pos hd
    rw [e]
    exact gT_6 (n1 hd) (n2 hd) (n3 hd) (n4 hd) (n5 hd) (n6 hd)
  · have e : gIn (gKn i a) x1 (gT i a) = gCo (gKn i a) x1 (a 118) (gPaid (i 7426) x1 (a 118) (i 7467) (a 141)) := if_neg hd
    rw [e]
    exact gT_6 (c1 hd) (c2 hd) (c3 hd) (c4 hd) (c5 hd) (c6 hd)
theorem kg166_116 (hI : kI i a q) (hr : kr r) (x1 : Int32) (hp0 : ((0 : Int) ≤ x1.toInt) ∧ (x1.toInt ≤ 7)) (hE_code : kCode i a) : km 9 166 [.ref 116, .int x1] (ks i a q r) (kVI yw166_116 i a q r (fun v i1 a1 q1 r1 => (True) ∧ gT i1 a1 = gIn (gKn i a) x1 (gT i a))) := by
  refine km_imp (ke166_116 hI hr x1 hp0 hE_code) ?_
  rintro rv h1 ⟨v, i1, a1, q1, r1, e1, e2, g, hc⟩
  exact ⟨v, i1, a1, q1, r1, e1, e2, g, trivial, th_goesIn (q := q) (r := r) (q1 := q1) (r1 := r1) hc⟩
theorem gT_st {p : Nat} (f : ∀ k, k ≠ p → a1 k = a k) (h1 : 118 ≠ p) (h2 : 141 ≠ p) (h : gT i a = S) : gT i a1 = S := by
  rw [← h]
  unfold gT
  rw [f 118 h1, f 141 h2]
theorem gT_out (h : gT i a = S) : i 7464 = S.2.1 ∧ i 7465 = S.2.2.1 ∧ i 7466 = S.2.2.2.1 := by subst h; exact ⟨rfl, rfl, rfl⟩
theorem gT_c {T : gS} (h : gT i a = S) (e : T = S) : gT i a = T := h.trans e.symm
theorem gT_R (h1 : a1 118 = a 118) (h2 : i1 7464 = i 7464) (h3 : i1 7465 = i 7465) (h4 : i1 7466 = i 7466) (h5 : i1 7467 = 0) (h6 : a1 141 = List.replicate 64 0) : gT i1 a1 = gR i a := gT_6 h1 h2 h3 h4 h5 h6
theorem gT_eve (h : gT i a = S) (h1 : a1 118 = sEnds (a 118)) (h2 : i1 7464 = i 7464) (h3 : i1 7465 = i 7465) (h4 : i1 7466 = i 7466) (h5 : i1 7467 = i 7467) (h6 : a1 141 = a 141) : gT i1 a1 = gEve S := by
  subst h
  exact gT_6 h1 h2 h3 h4 h5 h6
theorem gT_18 (h : gT i a = S) : (a 118).getD (18 : Int32).toNatClampNeg 0 = S.1.getD 18 0 := by subst h; rw [(by decide : (18 : Int32).toNatClampNeg = 18)]; rfl
theorem gT_pu {x : Int32} (h : gT i a = S) : (a 118).getD x.toNatClampNeg 0 = S.1.getD x.toNatClampNeg 0 := by subst h; rfl
theorem gT_la (h : gT i a = S) : i 7467 = S.2.2.2.2.1 := by subst h; rfl
theorem rok {p : Prop} (h : p) : p := h
def rNb (a : Nat → List Int32) (x1 v : Int32) : Prop := (v.toInt < 0 ∧ rRb a x1 v) ∨ (v = 0 ∧ ((a 136).getD x1.toNatClampNeg 0).toInt = 0)
theorem rNb_r (h : rNb a x1 v) (hv : v.toInt < 0) : rRb a x1 v := by
  rcases h with h | h
  · exact h.2
  · rw [h.1] at hv; exact absurd hv (by decide)
theorem rNb_0 (h : rNb a x1 v) (hv : ¬ (v.toInt < 0)) : ((a 136).getD x1.toNatClampNeg 0).toInt = 0 := by
  rcases h with h | h
  · exact absurd h.1 hv
  · exact h.2
theorem rTop_bar {ok : Prop} {f : Int → List Int32 → Prop} (h0 : ok ∧ 0 ≤ x1.toInt ∧ x1.toInt ≤ 5) (h : rNb a x1 v) (hv : v.toInt < 0) : rTop ok i a q x1 v f := Or.inr ⟨h0, Or.inl (rNb_r h hv)⟩
theorem rTop_go {ok : Prop} {f : Int → List Int32 → Prop} {u : Int32} {n : Int} {L : List Int32} (h0 : ok ∧ 0 ≤ x1.toInt ∧ x1.toInt ≤ 5) (h : rNb a x1 u) (hv : ¬ (u.toInt < 0)) (hd : kRd (i 7424) ((a 137).getD x1.toNatClampNeg 0).toInt (vQ (q 138) (60 * x1.toInt).toNat) n L) (hf : f n L) : rTop ok i a q x1 v f := Or.inr ⟨h0, Or.inr ⟨n, L, ⟨rNb_0 h hv, hd⟩, hf⟩⟩
end RH
end
section
theorem ktot0 : (0 : Int32).toInt = 0 := by decide
theorem ktot1 : (1 : Int32).toInt = 1 := by decide
theorem ktot2 : (2 : Int32).toInt = 2 := by decide
theorem ktot3 : (3 : Int32).toInt = 3 := by decide
theorem ktot60 : (60 : Int32).toInt = 60 := by decide
theorem ktot18 : (18 : Int32).toInt = 18 := by decide
theorem kotm1 : ((-1) : Int32).toInt = (-1) := by decide
theorem ktot20 : (20 : Int32).toInt = 20 := by decide
theorem kotm12 : ((-12) : Int32).toInt = (-12) := by decide
theorem kotm11 : ((-11) : Int32).toInt = (-11) := by decide
theorem ktot64 : (64 : Int32).toInt = 64 := by decide
theorem tot5 {a0 : Int} (h0 : (0 : Int) ≤ a0) : (0 : Int) ≤ a0 := oz3 h0
theorem tot6 {a0 : Int} (h0 : a0 ≤ 5) : a0 < 6 := oz19 h0
theorem tot7 {a0 : Int} (h0 : a0 = 0) : a0 ≤ 0 := by omega
theorem tot8 {a0 a1 : Int} (h0 : a0 = a1) (h1 : a1 = 0) : a0 = 0 := og41 h0 h1
theorem tot9 {a0 : Int} (h0 : a0 = (-12)) : a0 ≤ 0 := by omega
theorem tot10 {a0 a1 : Int} (h0 : a0 ≠ a1) (h1 : (-1 : Int) ≤ a0) (h2 : a1 = (-1)) : a0 ≠ -1 := by omega
theorem tot11 {a0 a1 a2 : Int} (h0 : a0 ≠ a1) (h1 : a0 ≠ a2) (h2 : (-1 : Int) ≤ a0) (h3 : a1 = (-1)) (h4 : a2 = 0) : a0 ≠ 0 := by omega
theorem tot12 {a0 : Int} (h0 : a0 = (-11)) : a0 ≤ 0 := by omega
theorem tot13 {a0 a1 : Int} (h0 : a0 = a1) (h1 : (-1 : Int) ≤ a0) (h2 : a1 = (-1)) : a0 = -1 := by omega
theorem tot14 {a0 : Int} (h0 : (0 : Int) ≤ a0) (h1 : a0 ≤ 5) : ((0 : Int) ≤ a0) ∧ (a0 ≤ 5) := oz35 h0 h1
theorem tot15 {a0 : Int} (h0 : a0 = 0) : (0 : Int) ≤ a0 := oz46 h0
theorem tot16 {a0 : Int} (h0 : a0 = 0) : a0 ≤ 21 := oz208 h0
theorem tot21 {a0 : Int} (h0 : (0 : Int) ≤ a0) : (-2147483648 : Int) ≤ 60 * a0 := oz28 h0
theorem tot22 {a0 : Int} (h0 : a0 ≤ 5) : 60 * a0 ≤ 2147483647 := oz29 h0
theorem tot27 {a0 : Int}  : a0 = a0 := oz34
theorem tot28 {a0 : Int} (h0 : (0 : Int) ≤ a0) (h1 : a0 ≤ 21) : ((0 : Int) ≤ a0) ∧ (a0 ≤ 59) := oz211 h0 h1
theorem tot34 {a0 a1 a2 : Int} (h0 : a0 = a1) (h1 : (0 : Int) ≤ a0) (h2 : a2 = a1) : (0 : Int) ≤ a2 := oz213 h0 h1 h2
theorem tot35 {a0 a1 a2 a3 : Int} (h0 : a0 ≤ 8) (h1 : a1 = a2) (h2 : a1 < a0) (h3 : a3 = a2) : a3 ≤ 7 := oz214 h0 h1 h2 h3
theorem tot36 {a0 a1 : Int} (h0 : (0 : Int) ≤ a0) (h1 : a1 = 1) : (-2147483648 : Int) ≤ a0 + a1 := oz12 h0 h1
theorem tot37 {a0 a1 : Int} (h0 : a0 ≤ 21) (h1 : a1 = 1) : a0 + a1 ≤ 2147483647 := oz215 h0 h1
theorem tot38 {a0 a1 a2 : Int} (h0 : (0 : Int) ≤ a0) (h1 : a1 = a0 + a2) (h2 : a2 = 1) : (0 : Int) ≤ a1 := oz14 h0 h1 h2
theorem tot41 {a0 a1 a2 a3 a4 : Int} (h0 : a0 < a1) (h1 : a2 = a0 + a3) (h2 : a1 = a4) (h3 : a3 = 1) : a2 ≤ a4 := by omega
theorem tot42 {a0 a1 a2 : Int} (h0 : (0 : Int) ≤ a0) (h1 : (0 : Int) ≤ a1) (h2 : a2 = 60 * a1) : (-2147483648 : Int) ≤ a2 + a0 := by omega
theorem tot44 {a0 a1 a2 a3 : Int} (h0 : a0 = 60 * a1) (h1 : a2 = a0 + a3) : a2 = 60 * a1 + a3 := by omega
theorem tot45 {a0 a1 : Int} (h0 : a0 = a1) : a0 = a1 := oz719 h0
theorem tot47 {a0 a1 a2 : Int} (h0 : a0 = a1 + a2) (h1 : a2 = 1) : a0 = a1 + 1 := oz169 h0 h1
theorem tot48 {a0 a1 a2 a3 a4 : Int} (h0 : a0 = a1) (h1 : a2 = a3) (h2 : a2 < a0) (h3 : a4 = a3) : a4 < a1 := by omega
theorem tot49 {a0 a1 a2 : Int} (h0 : a0 = a1 + a2) (h1 : a2 = 1) : (20 - a0) < (20 - a1) := oz218 h0 h1
theorem tot51 {a0 a1 a2 : Int} (h0 : a0 < a1) (h1 : a1 = a2) : a0 ≤ a2 := toy54 h0 h1
theorem tot52 {a0 a1 a2 a3 : Int} (h0 : a0 = a1) (h1 : a2 = a3) (h2 : ¬ (((0 : Int) ≤ a2) ∧ (a2 < a0))) : ¬ ((0 : Int) ≤ a3 ∧ a3 < a1) := by omega
theorem tot53 {a0 : Int} (h0 : a0 = 0) : a0 ≤ 20 := oz220 h0
theorem tot54 {a0 a1 : Int} (h0 : (0 : Int) ≤ a0) (h1 : a1 = 0) : a1 ≤ a0 := ob67 h0 h1
theorem tot55 {a0 : Int} (h0 : a0 ≤ 20) : a0 ≤ 20 := oz221 h0
theorem tot56 {a0 a1 : Int} (h0 : a0 ≤ a1) (h1 : a0 = 20) : (0 : Int) ≤ a1 := toy74 h0 h1
theorem tot57 {a0 a1 : Int} (h0 : a0 ≤ a1) : a0 ≤ a1 := oz173 h0
theorem tot58 {a0 a1 : Int} (h0 : a0 ≤ a1) (h1 : a1 ≤ 20) (h2 : a0 = 20) : a1 = 20 := toy75 h0 h1 h2
theorem tot59 {a0 a1 a2 : Int} (h0 : a0 ≤ a1) (h1 : a1 ≤ a2) (h2 : a0 = a2) : a1 = a2 := by omega
theorem tot60 {a0 : Int} (h0 : a0 ≤ 20) : a0 < 21 := oz222 h0
theorem tot61 {a0 a1 a2 : Int} (h0 : a0 ≤ 20) (h1 : a1 = a0 + a2) (h2 : a2 = 1) : a1 ≤ 21 := oz223 h0 h1 h2
theorem tot62 {a0 a1 a2 a3 : Int} (h0 : a0 < a1) (h1 : a2 = a0 + a3) (h2 : a1 = 20) (h3 : a3 = 1) : a2 ≤ 20 := oz224 h0 h1 h2 h3
theorem tot63 {a0 a1 a2 a3 : Int} (h0 : a0 < a1) (h1 : a2 ≤ 5) (h2 : a3 = 60 * a2) (h3 : a1 = 20) : a3 + a0 ≤ 2147483647 := by omega
theorem tot64 {a0 : Int} (h0 : a0 ≤ 20) : a0 < ((21 : Nat) : Int) := by omega
theorem tot65 {a0 a1 : Int} (h0 : a0 < a1) (h1 : a1 = 20) : (1 : Int) ≤ (20 - a0) := oz225 h0 h1
theorem tot78 {a0 : Int} (h0 : a0 = 0) : a0 = 0 := oz236 h0
theorem tot79 {a0 a1 : Int} (h0 : a0 ≤ a1) (h1 : a0 = 64) : ((64 : Nat) : Int) ≤ a1 := by omega
theorem tot80 {a0 a1 : Int} (h0 : a0 < a1) (h1 : a1 = 64) : a0 < 64 := oz237 h0 h1
theorem tot81 {a0 a1 a2 : Int} (h0 : a0 < a1) (h1 : a1 = 64) (h2 : a2 = 1) : a0 + a2 ≤ 2147483647 := oz238 h0 h1 h2
theorem tot82 {a0 a1 : Int} (h0 : a0 < a1) (h1 : a1 = 64) : a0 < ((64 : Nat) : Int) := by omega
theorem tot83 {a0 a1 a2 : Int} (h0 : a0 = a1 + a2) (h1 : a2 = 1) : (64 - a0) < (64 - a1) := oz239 h0 h1
theorem tot84 {a0 a1 : Int} (h0 : a0 < a1) (h1 : a1 = 64) : (1 : Int) ≤ (64 - a0) := oz240 h0 h1
theorem tot85 {a0 a1 a2 : Int} (h0 : a0 ≤ a1) (h1 : a0 = a2) (h2 : a1 ≤ a2) : a1 = a2 := ox0 h0 h1 h2
theorem tot86 {a0 a1 a2 : Int} (h0 : a0 < a1) (h1 : a1 = a2) (h2 : a2 ≤ 21) : a0 < 21 := by omega
theorem tot87 {a0 : Int} (h0 : (0 : Int) ≤ a0) (h1 : a0 ≤ 7) : ((0 : Int) ≤ a0) ∧ (a0 ≤ 7) := oz181 h0 h1
theorem tot88 {a0 a1 a2 a3 : Int} (h0 : a0 < a1) (h1 : a1 = a2) (h2 : a2 ≤ 21) (h3 : a3 = 1) : a0 + a3 ≤ 2147483647 := by omega
theorem tot89 {a0 a1 a2 a3 a4 : Int} (h0 : a0 < a1) (h1 : a1 = a2) (h2 : a3 = a0 + a4) (h3 : a4 = 1) : a3 ≤ a2 := ox9 h0 h1 h2 h3
theorem tot90 {a0 a1 a2 : Int} (h0 : a0 = a1) (h1 : a2 = a0) : a2 = a1 := oz762 h0 h1
theorem tot91 {a0 a1 a2 : Int} (h0 : a0 < a1) (h1 : a1 = a2) (h2 : a2 ≤ 21) : a0 < ((21 : Nat) : Int) := by omega
theorem tot92 {a0 a1 a2 a3 a4 : Int} (h0 : a0 = a1) (h1 : a2 = a3 + a4) (h2 : a4 = 1) : (a0 - a2) < (a1 - a3) := oz308 h0 h1 h2
theorem tot93 {a0 a1 : Int} (h0 : a0 < a1) : (1 : Int) ≤ (a1 - a0) := oz45 h0
theorem tot94 {a0 a1 a2 a3 a4 : Int} (h0 : a0 ≠ a1) (h1 : a0 ≠ a2) (h2 : a0 ≠ a3) (h3 : a0 ≠ a4) (h4 : a1 ≤ a0) (h5 : a0 ≤ a4) (h6 : a1 = 0) (h7 : a2 = 1) (h8 : a3 = 2) (h9 : a4 = 3) : False := oz382 h0 h1 h2 h3 h4 h5 h6 h7 h8 h9
theorem tot95 {a0 : Int} (h0 : a0 = 18) : (0 : Int) ≤ a0 := oz195 h0
theorem tot96 {a0 : Int} (h0 : a0 = 18) : a0 < 31 := oz196 h0
theorem tot99 {a0 a1 a2 a3 a4 a5 a6 : Int} (h0 : a0 = a1) (h1 : a2 = a3) (h2 : (0 : Int) ≤ a4) (h3 : a4 ≤ 5) (h4 : a0 ≤ a5) (h5 : a1 = 2) (h6 : a3 = 0) (h7 : a5 = 3) : (((0 : Int) ≤ a0) ∧ (a0 ≤ 3) ∧ (((a0 = 3) → (((0 : Int) ≤ a2) ∧ (a2 < a6)))) ∧ (((a0 ≠ 3) → (a2 = 0)))) ∧ ((0 : Int) ≤ a4) ∧ (a4 ≤ 5) := by omega
theorem tot100 {a0 a1 : Int} (h0 : a0 ≤ a1) (h1 : a0 = 0) : ¬ (a1 < 0) := oy47 h0 h1
theorem tot101 {a0 a1 : Int} (h0 : a0 = a1) (h1 : a1 = 2) : ¬ (a0 = 0) := by omega
theorem tot102 {a0 a1 : Int} (h0 : a0 = a1) (h1 : a1 = 2) : ¬ (a0 = 1) := by omega
theorem tot104 {a0 a1 : Int} (h0 : a0 = a1) (h1 : a1 = 2) : ¬ (a0 = 3) := by omega
theorem tot105 {a0 a1 a2 a3 a4 a5 a6 : Int} (h0 : a0 = a1) (h1 : a2 = a3) (h2 : (0 : Int) ≤ a4) (h3 : a4 ≤ 5) (h4 : a0 ≤ a5) (h5 : a1 = 1) (h6 : a3 = 0) (h7 : a5 = 3) : (((0 : Int) ≤ a0) ∧ (a0 ≤ 3) ∧ (((a0 = 3) → (((0 : Int) ≤ a2) ∧ (a2 < a6)))) ∧ (((a0 ≠ 3) → (a2 = 0)))) ∧ ((0 : Int) ≤ a4) ∧ (a4 ≤ 5) := by omega
theorem tot106 {a0 a1 : Int} (h0 : a0 = a1) (h1 : a1 = 1) : ¬ (a0 = 0) := oz1174 h0 h1
theorem tot108 {a0 a1 : Int} (h0 : a0 = a1) (h1 : a1 = 1) : ¬ (a0 = 2) := toy127 h0 h1
theorem tot109 {a0 a1 : Int} (h0 : a0 = a1) (h1 : a1 = 1) : ¬ (a0 = 3) := by omega
theorem tot110 {a0 a1 a2 a3 a4 a5 : Int} (h0 : a0 = a1) (h1 : a2 = a1) (h2 : (0 : Int) ≤ a3) (h3 : a3 ≤ 5) (h4 : a1 ≤ a0) (h5 : a0 ≤ a4) (h6 : a1 = 0) (h7 : a4 = 3) : (((0 : Int) ≤ a0) ∧ (a0 ≤ 3) ∧ (((a0 = 3) → (((0 : Int) ≤ a2) ∧ (a2 < a5)))) ∧ (((a0 ≠ 3) → (a2 = 0)))) ∧ ((0 : Int) ≤ a3) ∧ (a3 ≤ 5) := by omega
theorem tot112 {a0 a1 : Int} (h0 : a0 = a1) (h1 : a1 = 0) : ¬ (a0 = 1) := toy129 h0 h1
theorem tot113 {a0 a1 : Int} (h0 : a0 = a1) (h1 : a1 = 0) : ¬ (a0 = 2) := toy130 h0 h1
theorem tot114 {a0 a1 : Int} (h0 : a0 = a1) (h1 : a1 = 0) : ¬ (a0 = 3) := by omega
theorem tot115 {a0 a1 a2 a3 a4 a5 : Int} (h0 : a0 ≠ a1) (h1 : a2 = a3) (h2 : (0 : Int) ≤ a4) (h3 : a4 ≤ 5) (h4 : a3 ≤ a0) (h5 : a0 ≤ a1) (h6 : a1 = 3) (h7 : a3 = 0) : (((0 : Int) ≤ a0) ∧ (a0 ≤ 3) ∧ (((a0 = 3) → (((0 : Int) ≤ a2) ∧ (a2 < a5)))) ∧ (((a0 ≠ 3) → (a2 = 0)))) ∧ ((0 : Int) ≤ a4) ∧ (a4 ≤ 5) := by omega
theorem tot116 {a0 a1 : Int} (h0 : a0 < a1) (h1 : a1 = 0) : a0 < 0 := oz1670 h0 h1
theorem tot117 {a0 a1 a2 a3 a4 a5 : Int} (h0 : a0 ≠ a1) (h1 : a2 ≠ a3) (h2 : a2 ≤ a3) (h3 : a1 = 0) (h4 : a3 = 3) : ¬ ((((0 : Int) ≤ a2) ∧ (a2 ≤ 3) ∧ (((a2 = 3) → (((0 : Int) ≤ a0) ∧ (a0 < a4)))) ∧ (((a2 ≠ 3) → (a0 = 0)))) ∧ ((0 : Int) ≤ a5) ∧ (a5 ≤ 5)) := by omega
theorem tot118 {a0 a1 : Int} (h0 : a0 ≤ 8) (h1 : a1 < a0) : a1 < 31 := oz385 h0 h1
theorem tot119 {a0 a1 a2 a3 a4 : Int} (h0 : a0 = a1) (h1 : (0 : Int) ≤ a2) (h2 : a2 ≤ 5) (h3 : (0 : Int) ≤ a3) (h4 : a3 < a4) (h5 : a0 ≤ a1) (h6 : a1 = 3) : (((0 : Int) ≤ a0) ∧ (a0 ≤ 3) ∧ (((a0 = 3) → (((0 : Int) ≤ a3) ∧ (a3 < a4)))) ∧ (((a0 ≠ 3) → (a3 = 0)))) ∧ ((0 : Int) ≤ a2) ∧ (a2 ≤ 5) := by omega
theorem tot120 {a0 a1 : Int} (h0 : a0 = a1) (h1 : a1 = 3) : ¬ (a0 = 0) := oz1053 h0 h1
theorem tot121 {a0 a1 : Int} (h0 : a0 = a1) (h1 : a1 = 3) : ¬ (a0 = 1) := oz1054 h0 h1
theorem tot122 {a0 a1 : Int} (h0 : a0 = a1) (h1 : a1 = 3) : ¬ (a0 = 2) := oz1055 h0 h1
theorem tot124 {a0 a1 a2 : Int} (h0 : a0 = a1) (h1 : a0 = a2) (h2 : a1 = 3) (h3 : a2 = 2) : False := oz386 h0 h1 h2 h3
theorem tot125 {a0 a1 a2 : Int} (h0 : a0 = a1) (h1 : a0 = a2) (h2 : a1 = 3) (h3 : a2 = 1) : False := oz387 h0 h1 h2 h3
theorem tot126 {a0 a1 a2 : Int} (h0 : a0 = a1) (h1 : a0 = a2) (h2 : a1 = 3) (h3 : a2 = 0) : False := oz388 h0 h1 h2 h3
theorem tot127 {a0 a1 a2 a3 a4 : Int} (h0 : a0 = a1) (h1 : a0 ≤ a1) (h2 : ¬ (((0 : Int) ≤ a2) ∧ (a2 < a3))) (h3 : a1 = 3) : ¬ ((((0 : Int) ≤ a0) ∧ (a0 ≤ 3) ∧ (((a0 = 3) → (((0 : Int) ≤ a2) ∧ (a2 < a3)))) ∧ (((a0 ≠ 3) → (a2 = 0)))) ∧ ((0 : Int) ≤ a4) ∧ (a4 ≤ 5)) := by omega
theorem tot128 {a0 a1 a2 a3 a4 a5 : Int} (h0 : ¬ ((a0 ≤ a1) ∧ (a1 ≤ a2))) (h1 : a0 = 0) (h2 : a2 = 3) : ¬ ((((0 : Int) ≤ a1) ∧ (a1 ≤ 3) ∧ (((a1 = 3) → (((0 : Int) ≤ a3) ∧ (a3 < a4)))) ∧ (((a1 ≠ 3) → (a3 = 0)))) ∧ ((0 : Int) ≤ a5) ∧ (a5 ≤ 5)) := by omega
theorem tot129 {a0 a1 a2 a3 : Int} (h0 : ¬ (((0 : Int) ≤ a0) ∧ (a0 ≤ 5))) : ¬ ((((0 : Int) ≤ a1) ∧ (a1 ≤ 3) ∧ (((a1 = 3) → (((0 : Int) ≤ a2) ∧ (a2 < a3)))) ∧ (((a1 ≠ 3) → (a2 = 0)))) ∧ ((0 : Int) ≤ a0) ∧ (a0 ≤ 5)) := by omega
theorem tot130 {a0 a1 a2 a3 : Int} (h0 : a0 < a1) (h1 : a1 = 0) : ¬ ((((0 : Int) ≤ a0) ∧ ((0 : Int) ≤ a2) ∧ (a2 ≤ 2)) ∧ ((0 : Int) ≤ a3) ∧ (a3 ≤ 5)) := by omega
theorem tot131 {a0 a1 : Int} (h0 : a0 ≤ a1) (h1 : a0 = 0) : (0 : Int) ≤ a1 := oz389 h0 h1
theorem tot132 {a0 a1 : Int} (h0 : a0 < a1) (h1 : a1 ≤ 21) : a0 < 21 := oz241 h0 h1
theorem tot133 {a0 a1 a2 a3 a4 : Int} (h0 : a0 ≤ a1) (h1 : (0 : Int) ≤ a2) (h2 : a2 ≤ 5) (h3 : a0 ≤ a3) (h4 : a3 ≤ a4) (h5 : a0 = 0) (h6 : a4 = 2) : (((0 : Int) ≤ a1) ∧ ((0 : Int) ≤ a3) ∧ (a3 ≤ 2)) ∧ ((0 : Int) ≤ a2) ∧ (a2 ≤ 5) := by omega
theorem tot134 {a0 a1 : Int} (h0 : a0 < a1) : a0 < a1 := oz270 h0
theorem tot135 {a0 a1 : Int} (h0 : a0 < a1) : ¬ (a1 ≤ a0) := ou140 h0
theorem tot136 {a0 a1 : Int} (h0 : a0 ≠ a1) (h1 : a1 ≤ a0) (h2 : a1 = 0) : ¬ (a0 = 0) := toy121 h0 h1 h2
theorem tot137 {a0 a1 a2 : Int} (h0 : a0 ≠ a1) (h1 : a0 ≠ a2) (h2 : a1 ≤ a0) (h3 : a1 = 0) (h4 : a2 = 1) : ¬ (a0 = 1) := toy122 h0 h1 h2 h3 h4
theorem tot139 {a0 a1 a2 a3 a4 a5 : Int} (h0 : a0 = a1) (h1 : a2 ≤ a3) (h2 : (0 : Int) ≤ a4) (h3 : a4 ≤ 5) (h4 : a0 ≤ a5) (h5 : a1 = 1) (h6 : a2 = 0) (h7 : a5 = 2) : (((0 : Int) ≤ a3) ∧ ((0 : Int) ≤ a0) ∧ (a0 ≤ 2)) ∧ ((0 : Int) ≤ a4) ∧ (a4 ≤ 5) := by omega
theorem tot140 {a0 a1 : Int} (h0 : a0 ≤ a1) : ¬ (a1 < a0) := toy131 h0
theorem tot141 {a0 a1 a2 a3 a4 : Int} (h0 : ¬ ((a0 ≤ a1) ∧ (a1 ≤ a2))) (h1 : a0 = 0) (h2 : a2 = 2) : ¬ ((((0 : Int) ≤ a3) ∧ ((0 : Int) ≤ a1) ∧ (a1 ≤ 2)) ∧ ((0 : Int) ≤ a4) ∧ (a4 ≤ 5)) := by omega
theorem tot142 {a0 a1 a2 : Int} (h0 : ¬ (((0 : Int) ≤ a0) ∧ (a0 ≤ 5))) : ¬ ((((0 : Int) ≤ a1) ∧ ((0 : Int) ≤ a2) ∧ (a2 ≤ 2)) ∧ ((0 : Int) ≤ a0) ∧ (a0 ≤ 5)) := by omega
set_option maxRecDepth 100000 in
theorem kg173_116 {i : Nat → Int32} {a : Nat → List Int32} {q : Nat → List Int64} {r : Nat → Nat} (hI : kI i a q) (hr : kr r) (x1 : Int32) (hp0 : ((0 : Int) ≤ x1.toInt) ∧ (x1.toInt ≤ 5)) : km 1 173 [.ref 116, .int x1] (ks i a q r) (kPI (ks i a q r) (fun v => (v.toInt ≤ 0) ∧ rNb a x1 v)) := by
  have hG := kG_self kW0 hI hr
  refine km_ofPI (q := (mi_h173, mi_c173)) rfl (by decide) (Nat.le_of_ble_eq_true rfl) ?_
  intro P hP
  first | refine fo_goL mi_k173 fz173_0_3_5 [(0, .ref 116), (1, .int x1)] [.int x1, .ref 136] (by rfl) ?_ | refine ft_go mi_k173 3 5 [(0, .ref 116), (1, .int x1)] [.int x1, .ref 136] i a q r (by rfl) ?_
  refine ko_iald3 mi_k173.1 (n := 6) (c := 6) (ax := (0, 0, 0, 0, 0)) (mi_k173.2 _ _ (by rfl)) (by rfl) (ksG136 _ _ _ _) (hG.I.2.1 136) rfl (tot5 hp0.1) (tot6 hp0.2) ?_
  have r1 : ((-1 : Int) ≤ ((a 136).getD x1.toNatClampNeg 0).toInt) ∧ (((a 136).getD x1.toNatClampNeg 0).toInt ≤ 59) := hG.I.2.2.1 136 (x1.toNatClampNeg)
  first | refine ft_goS mi_k173 1 7 [.int (-1), .int ((a 136).getD x1.toNatClampNeg 0)] (by rfl) ?_ | refine ft_go mi_k173 1 7 [(0, .ref 116), (1, .int x1)] [.int (-1), .int ((a 136).getD x1.toNatClampNeg 0)] i a q r (by rfl) ?_
  refine ft_ifS mi_k173 (((a 136).getD x1.toNatClampNeg 0) != (-1)) 15 10 [] (by rfl) (fun c => ?_) (fun c => ?_)
  ·
    have c2 : ((a 136).getD x1.toNatClampNeg 0).toInt ≠ ((-1) : Int32).toInt := kd_ne c; clear c
    first | refine fo_goS mi_k173 fz173_15_3_20 [.int x1, .ref 136] (by rfl) ?_ | refine ft_go mi_k173 3 20 [(0, .ref 116), (1, .int x1)] [.int x1, .ref 136] i a q r (by rfl) ?_
    refine ko_iald3 mi_k173.1 (n := 6) (c := 6) (ax := (0, 0, 0, 0, 0)) (mi_k173.2 _ _ (by rfl)) (by rfl) (ksG136 _ _ _ _) (hG.I.2.1 136) rfl (tot5 hp0.1) (tot6 hp0.2) ?_
    refine ft_ifS mi_k173 (((a 136).getD x1.toNatClampNeg 0) == 0) 29 24 [] (by rfl) (fun c => ?_) (fun c => ?_)
    ·
      have c3 : ((a 136).getD x1.toNatClampNeg 0).toInt = (0 : Int32).toInt := kd_eq c; clear c
      first | refine ft_goS mi_k173 1 30 [.int 0] (by rfl) ?_ | refine ft_go mi_k173 1 30 [(0, .ref 116), (1, .int x1)] [.int 0] i a q r (by rfl) ?_
      exact ft_ret mi_k173 (by rfl) (hP 0 ⟨(tot7 ktot0), (Or.inr ⟨rfl, (tot8 c3 ktot0)⟩)⟩)
    ·
      have c4 : ((a 136).getD x1.toNatClampNeg 0).toInt ≠ (0 : Int32).toInt := kd_eqF c; clear c
      first | refine fo_goS mi_k173 fz173_10_2_30 [.int (-12)] (by rfl) ?_ | refine fo_goS mi_k173 fz173_24_2_30 [.int (-12)] (by rfl) ?_ | refine fo_goS mi_k173 fz173_21_2_30 [.int (-12)] (by rfl) ?_ | refine ft_go mi_k173 2 30 [(0, .ref 116), (1, .int x1)] [.int (-12)] i a q r (by rfl) ?_
      exact ft_ret mi_k173 (by rfl) (hP (-12) ⟨(tot9 kotm12), (Or.inl ⟨by decide, Or.inr ⟨(tot10 c2 r1.1 kotm1), (tot11 c2 c4 r1.1 kotm1 ktot0), rfl⟩⟩)⟩)
  ·
    have c5 : ((a 136).getD x1.toNatClampNeg 0).toInt = ((-1) : Int32).toInt := kd_neF c; clear c
    first | refine fo_goS mi_k173 fz173_10_2_30 [.int (-11)] (by rfl) ?_ | refine fo_goS mi_k173 fz173_24_2_30 [.int (-11)] (by rfl) ?_ | refine fo_goS mi_k173 fz173_21_2_30 [.int (-11)] (by rfl) ?_ | refine ft_go mi_k173 2 30 [(0, .ref 116), (1, .int x1)] [.int (-11)] i a q r (by rfl) ?_
    exact ft_ret mi_k173 (by rfl) (hP (-11) ⟨(tot12 kotm11), (Or.inl ⟨by decide, Or.inl ⟨(tot13 c5 r1.1 kotm1), rfl⟩⟩)⟩)
def ygw174_116 : kW := ([7469], [142], [], [])
def ygw174_116_L5 : kW := ([7469], [142], [], [])
set_option maxRecDepth 100000 in
theorem kg174_116 {i : Nat → Int32} {a : Nat → List Int32} {q : Nat → List Int64} {r : Nat → Nat} (hI : kI i a q) (hr : kr r) (x1 : Int32) (hp0 : ((0 : Int) ≤ x1.toInt) ∧ (x1.toInt ≤ 5)) : km 5 174 [.ref 116, .int x1] (ks i a q r) (kVN ygw174_116 i a q r (fun i1 a1 q1 r1 => ((i1 7469).toInt ≤ 20) ∧ kRd (i 7424) ((a 137).getD x1.toNatClampNeg 0).toInt (vQ (q 138) (60 * x1.toInt).toNat) (i1 7469).toInt (a1 142))) := by
  have hG := kG_self ygw174_116 hI hr
  refine km_ofN (q := (mi_h174, mi_c174)) rfl (by decide) (Nat.le_of_ble_eq_true rfl) ?_
  intro P hP
  have hJ1 := kG_i hG 7469 rfl (v := 0) ⟨(tot15 ktot0), (tot16 ktot0)⟩
  first | refine fo_go mi_k174 fz174_0_3_5 [(0, .ref 116), (1, .int x1)] [] (ku i 7469 0) a q r (by rfl) ?_ | refine fo_go mi_k174 fz174_67_3_5 [(0, .ref 116), (1, .int x1)] [] (ku i 7469 0) a q r (by rfl) ?_ | refine ft_go mi_k174 3 5 [(0, .ref 116), (1, .int x1)] [] (ku i 7469 0) a q r (by rfl) ?_
  have lp2 : ∀ (nz : Nat) (i2 : Nat → Int32) (a2 : Nat → List Int32) (q2 : Nat → List Int64) (r2 : Nat → Nat), kG ygw174_116_L5 (ku i 7469 0) a q r i2 a2 q2 r2 → (0 : Int) ≤ (i2 7469).toInt → (i2 7469).toInt ≤ 20 → (i2 7469).toInt ≤ ((a 137).getD x1.toNatClampNeg 0).toInt → kRp (i 7424) (vQ (q 138) (60 * x1.toInt).toNat) (i2 7469).toInt (a2 142) → ((20 - (i2 7469).toInt)).toNat < nz → ko 5 (mi_h174, mi_c174) P (5, [(0, .ref 116), (1, .int x1)], [], (0, 0), ks i2 a2 q2 r2) := by
    intro nz
    induction nz with
    | zero =>
      intro _ _ _ _ _ _ _ _ _ hm
      exact absurd hm (Nat.not_lt_zero _)
    | succ nz ih2 =>
      intro i2 a2 q2 r2 hL2 p2_0 p2_1 p2_2 O2_0 hm2
      have fi2_7469 : ((0 : Int) ≤ (i2 7469).toInt) ∧ ((i2 7469).toInt ≤ 21) := hL2.I.1 7469
      have r4 : ((0 : Int) ≤ ((a 137).getD x1.toNatClampNeg 0).toInt) ∧ (((a 137).getD x1.toNatClampNeg 0).toInt ≤ 60) := hG.I.2.2.1 137 (x1.toNatClampNeg)
      first | refine fo_goL mi_k174 fz174_5_3_11 [(0, .ref 116), (1, .int x1)] [.int 20, .int (i2 7469)] (by rfl) ?_ | refine ft_go mi_k174 3 11 [(0, .ref 116), (1, .int x1)] [.int 20, .int (i2 7469)] i2 a2 q2 r2 (by rfl) ?_
      refine ft_ifS mi_k174 (decide (20 ≤ (i2 7469))) 74 14 [] (by rfl) (fun c => ?_) (fun c => ?_)
      ·
        have c5 : (20 : Int32).toInt ≤ (i2 7469).toInt := kd_le c; clear c
        have hG6 := kG_call hJ1 hL2 (by decide +kernel)
        exact ft_ret mi_k174 (by rfl) (hP  _ _ _ _ hG6 ⟨(tot55 p2_1), (kRd_mk (k := (i2 7469)) O2_0 rfl (tot56 c5 ktot20) (tot55 p2_1) (tot57 p2_2) (Or.inl (tot58 c5 p2_1 ktot20)))⟩)
      ·
        have c7 : (i2 7469).toInt < (20 : Int32).toInt := kd_leF c; clear c
        first | refine fo_goS mi_k174 fz174_14_5_23 [.int x1, .ref 137, .int (i2 7469)] (by rfl) ?_ | refine ft_go mi_k174 5 23 [(0, .ref 116), (1, .int x1)] [.int x1, .ref 137, .int (i2 7469)] i2 a2 q2 r2 (by rfl) ?_
        refine ko_iald3 mi_k174.1 (n := 6) (c := 6) (ax := (0, 0, 0, 0, 0)) (mi_k174.2 _ _ (by rfl)) (by rfl) (ksG137 _ _ _ _) (hL2.I.2.1 137) rfl (tot5 hp0.1) (tot6 hp0.2) ?_
        have r8 : ((0 : Int) ≤ ((a2 137).getD x1.toNatClampNeg 0).toInt) ∧ (((a2 137).getD x1.toNatClampNeg 0).toInt ≤ 60) := hL2.I.2.2.1 137 (x1.toNatClampNeg)
        have u9 : ((a2 137).getD x1.toNatClampNeg 0).toInt = ((a 137).getD x1.toNatClampNeg 0).toInt := congrArg (fun z : List Int32 => (z.getD x1.toNatClampNeg 0).toInt) (hL2.fa 137 rfl)
        refine ft_ifS mi_k174 (decide (((a2 137).getD x1.toNatClampNeg 0) ≤ (i2 7469))) 74 27 [] (by rfl) (fun c => ?_) (fun c => ?_)
        ·
          have c10 : ((a2 137).getD x1.toNatClampNeg 0).toInt ≤ (i2 7469).toInt := kd_le c; clear c
          have hG11 := kG_call hJ1 hL2 (by decide +kernel)
          exact ft_ret mi_k174 (by rfl) (hP  _ _ _ _ hG11 ⟨(tot55 p2_1), (kRd_mk (k := (i2 7469)) O2_0 rfl (tot5 fi2_7469.1) (tot55 p2_1) (tot57 p2_2) (Or.inr (Or.inl (tot59 c10 p2_2 u9))))⟩)
        ·
          have c12 : (i2 7469).toInt < ((a2 137).getD x1.toNatClampNeg 0).toInt := kd_leF c; clear c
          first | refine fo_goS mi_k174 fz174_27_5_34 [.int (i2 7469), .int x1, .ref 116, .ref 116] (by rfl) ?_ | refine ft_go mi_k174 5 34 [(0, .ref 116), (1, .int x1)] [.int (i2 7469), .int x1, .ref 116, .ref 116] i2 a2 q2 r2 (by rfl) ?_
          refine ko_callPI mi_k174.1 (pc := 34) (ls := [(0, .ref 116), (1, .int x1)]) (st := [.int (i2 7469), .int x1, .ref 116, .ref 116]) (h := ks i2 a2 q2 r2) (i := (.invokevirtual 133, 3, 137, 0, 9, 0, 384)) (mi_k174.2 _ _ (by rfl)) (ft_invS mi_pq137 (by rfl)) (cy := mi_c137) mi_pq137 rfl (kc137_116 hL2.I hL2.R x1 (i2 7469) (tot14 hp0.1 hp0.2) (tot28 fi2_7469.1 fi2_7469.2)) (by decide) ?_
          intro vg13 hg13
          have z14 : vg13.toInt = (((q2 138).getD ((60 * x1) + (i2 7469)).toNatClampNeg 0).toInt32).toInt := hg13
          refine ko_callPI mi_k174.1 (pc := 37) (ls := [(0, .ref 116), (1, .int x1)]) (st := [.int vg13, .ref 116]) (h := ks i2 a2 q2 r2) (i := (.invokevirtual 137, 3, 132, 0, 9, 0, 387)) (mi_k174.2 _ _ (by rfl)) (ft_invS mi_pq132 (by rfl)) (cy := mi_c132) mi_pq132 rfl (kc132_116 hL2.I hL2.R vg13) (by decide) ?_
          intro vg15 hg15
          rcases hg15 with ⟨eg15, hg15⟩ | ⟨eg15, hg15⟩
          ·
            subst eg15
            have fi2_7424 : ((0 : Int) ≤ (i2 7424).toInt) ∧ ((i2 7424).toInt ≤ 8) := hL2.I.1 7424
            have efi2_7424 : (i2 7424).toInt = (i 7424).toInt := hL2.ti 7424 rfl
            have z16 : ((0 : Int) ≤ vg13.toInt) ∧ (vg13.toInt < (i2 7424).toInt) := hg15
            first | refine fo_goS mi_k174 fz174_40_9_57 [.int (i2 7469), .int x1, .ref 116, .int (i2 7469), .ref 142] (by rfl) ?_ | refine ft_go mi_k174 9 57 [(0, .ref 116), (1, .int x1)] [.int (i2 7469), .int x1, .ref 116, .int (i2 7469), .ref 142] i2 a2 q2 r2 (by rfl) ?_
            refine ko_callPI mi_k174.1 (pc := 57) (ls := [(0, .ref 116), (1, .int x1)]) (st := [.int (i2 7469), .int x1, .ref 116, .int (i2 7469), .ref 142]) (h := ks i2 a2 q2 r2) (i := (.invokevirtual 133, 3, 137, 0, 9, 0, 384)) (mi_k174.2 _ _ (by rfl)) (ft_invS mi_pq137 (by rfl)) (cy := mi_c137) mi_pq137 rfl (kc137_116 hL2.I hL2.R x1 (i2 7469) (tot14 hp0.1 hp0.2) (tot28 fi2_7469.1 fi2_7469.2)) (by decide) ?_
            intro vg17 hg17
            have z18 : vg17.toInt = (((q2 138).getD ((60 * x1) + (i2 7469)).toNatClampNeg 0).toInt32).toInt := hg17
            refine ko_iast3 mi_k174.1 (n := 21) (c := 21) (ax := (0, 0, 0, 0, 0)) (mi_k174.2 _ _ (by rfl)) (by rfl) (ksG142 _ _ _ _) (ksA142 _ _ _ _) (hL2.I.2.1 142) rfl (tot5 fi2_7469.1) (tot60 p2_1) ?_
            intro a19 ea19 fa19
            have hJ19 := kG_a3 hL2 142 rfl ea19 fa19 ⟨(tot34 z14 z16.1 z18), (tot35 fi2_7424.2 z14 z16.2 z18)⟩
            have s20 : ((i2 7469) + 1).toInt = (i2 7469).toInt + (1 : Int32).toInt := kd_add (tot36 fi2_7469.1 ktot1) (tot37 fi2_7469.2 ktot1)
            have hJ21 := kG_i hJ19 7469 rfl (v := ((i2 7469) + 1)) ⟨(tot38 fi2_7469.1 s20 ktot1), (tot61 p2_1 s20 ktot1)⟩
            first | refine fo_goI mi_k174 fz174_61_7_5 [] (ku i2 7469 ((i2 7469) + 1)) (by rfl) ?_ | refine ft_go mi_k174 7 5 [(0, .ref 116), (1, .int x1)] [] (ku i2 7469 ((i2 7469) + 1)) a19 q2 r2 (by rfl) ?_
            have s22 : (60 * x1).toInt = 60 * x1.toInt := kd_cmul 60 ktot60 (tot21 hp0.1) (tot22 hp0.2)
            have s23 : ((60 * x1) + (i2 7469)).toInt = (60 * x1).toInt + (i2 7469).toInt := kd_add (tot42 fi2_7469.1 hp0.1 s22) (tot63 c7 hp0.2 s22 ktot20)
            exact ih2 _ _ _ _ hJ21 (tot38 fi2_7469.1 s20 ktot1) (tot62 c7 s20 ktot20 ktot1) (tot41 c12 s20 u9 ktot1) (kRp_step (y := ((60 * x1) + (i2 7469))) (m := 21) O2_0 (hL2.I.2.1 142) (tot5 fi2_7469.1) (tot64 p2_1) (tot47 s20 ktot1) ea19 (kj_b60y (kj_b60 (tot5 hp0.1)) (tot44 s22 s23)) ((kj_v (tot45 z18)).trans (congrArg (fun z : List Int64 => (z.getD ((60 * x1) + (i2 7469)).toNatClampNeg 0).toInt32) (hL2.fq 138 rfl : q2 138 = q 138))) (tot34 z14 z16.1 z18) (tot48 efi2_7424 z14 z16.2 z18)) (kj_meas (tot49 s20 ktot1) (tot65 c7 ktot20) hm2)
          ·
            subst eg15
            have efi2_7424 : (i2 7424).toInt = (i 7424).toInt := hL2.ti 7424 rfl
            have z24 : ¬ (((0 : Int) ≤ vg13.toInt) ∧ (vg13.toInt < (i2 7424).toInt)) := hg15
            first | refine ft_goS mi_k174 1 74 [] (by rfl) ?_ | refine ft_go mi_k174 1 74 [(0, .ref 116), (1, .int x1)] [] i2 a2 q2 r2 (by rfl) ?_
            have hG25 := kG_call hJ1 hL2 (by decide +kernel)
            have s26 : (60 * x1).toInt = 60 * x1.toInt := kd_cmul 60 ktot60 (tot21 hp0.1) (tot22 hp0.2)
            have s27 : ((60 * x1) + (i2 7469)).toInt = (60 * x1).toInt + (i2 7469).toInt := kd_add (tot42 fi2_7469.1 hp0.1 s26) (tot63 c7 hp0.2 s26 ktot20)
            exact ft_ret mi_k174 (by rfl) (hP  _ _ _ _ hG25 ⟨(tot55 p2_1), (kRd_mk (k := (i2 7469)) O2_0 rfl (tot5 fi2_7469.1) (tot55 p2_1) (tot51 c12 u9) (Or.inr (Or.inr (kRd_bad (y := ((60 * x1) + (i2 7469))) (kj_b60y (kj_b60 (tot5 hp0.1)) (tot44 s26 s27)) (tot5 fi2_7469.1) (congrArg (fun z : List Int64 => (z.getD ((60 * x1) + (i2 7469)).toNatClampNeg 0).toInt32) (hL2.fq 138 rfl : q2 138 = q 138)) (tot52 efi2_7424 z14 z24)))))⟩)
  have r28 : ((0 : Int) ≤ ((a 137).getD x1.toNatClampNeg 0).toInt) ∧ (((a 137).getD x1.toNatClampNeg 0).toInt ≤ 60) := hG.I.2.2.1 137 (x1.toNatClampNeg)
  exact lp2 _ _ _ _ _ (kG_self _ hJ1.I hJ1.R) (tot15 ktot0) (tot53 ktot0) (tot54 r28.1 ktot0) (kRp_0 (Int.le_of_eq ktot0)) (Nat.lt_succ_self _)
def ygw171_116 : kW := ([7467], [139, 141], [], [])
def ygw171_116_L16 : kW := ([], [141], [], [])
set_option maxRecDepth 100000 in
theorem kg171_116 {i : Nat → Int32} {a : Nat → List Int32} {q : Nat → List Int64} {r : Nat → Nat} (hI : kI i a q) (hr : kr r)  : km 3 171 [.ref 116] (ks i a q r) (kVN ygw171_116 i a q r (fun i1 a1 q1 r1 => (True) ∧ (a1 139 = a 118 ∧ a1 118 = a 118 ∧ i1 7467 = 0 ∧ a1 141 = List.replicate 64 0))) := by
  have hG := kG_self ygw171_116 hI hr
  refine km_ofN (q := (mi_h171, mi_c171)) rfl (by decide) (Nat.le_of_ble_eq_true rfl) ?_
  intro P hP
  first | refine fo_goL mi_k171 fz171_0_4_6 [(0, .ref 116)] [.int 0, .ref 139, .ref 116] (by rfl) ?_ | refine ft_go mi_k171 4 6 [(0, .ref 116)] [.int 0, .ref 139, .ref 116] i a q r (by rfl) ?_
  refine ko_callN mi_k171.1 (pc := 6) (ls := [(0, .ref 116)]) (st := [.int 0, .ref 139, .ref 116]) (h := ks i a q r) (i := (.invokevirtual 263, 3, 168, 0, 9, 0, 413)) (mi_k171.2 _ _ (by rfl)) (ft_invS mi_pq168 (by rfl)) (cy := mi_c168) mi_pq168 rfl (ke168_116_139 hG.I hG.R 0 (tot78 ktot0)) (by decide) ?_
  intro ig1 ag1 qg1 rg1 kg1 hg1
  have hGg1 := kG_call hG kg1 (by decide +kernel)
  obtain ⟨hg1, og1⟩ := hg1
  have q2 : ag1 139 = a 118 := og1
  have hJ3 := kG_i hGg1 7467 rfl (v := 0) (kd_bd _)
  first | refine fo_go mi_k171 fz171_9_5_16 [(1, .int 0), (0, .ref 116)] [] (ku ig1 7467 0) ag1 qg1 rg1 (by rfl) ?_ | refine ft_goL mi_k171 5 16 [(1, .int 0), (0, .ref 116)] [] (by rfl) ?_ | refine ft_go mi_k171 5 16 [(1, .int 0), (0, .ref 116)] [] (ku ig1 7467 0) ag1 qg1 rg1 (by rfl) ?_
  have lp4 : ∀ (nz : Nat) (i4 : Nat → Int32) (a4 : Nat → List Int32) (q4 : Nat → List Int64) (r4 : Nat → Nat) (l1_4 : Int32), kG ygw171_116_L16 (ku ig1 7467 0) ag1 qg1 rg1 i4 a4 q4 r4 → (0 : Int) ≤ l1_4.toInt → kZr (a4 141) l1_4.toInt → ((64 - l1_4.toInt)).toNat < nz → ko 3 (mi_h171, mi_c171) P (16, [(1, .int l1_4), (0, .ref 116)], [], (0, 0), ks i4 a4 q4 r4) := by
    intro nz
    induction nz with
    | zero =>
      intro _ _ _ _ _ _ _ _ hm
      exact absurd hm (Nat.not_lt_zero _)
    | succ nz ih4 =>
      intro i4 a4 q4 r4 l1_4 hL4 p4_0 O4_0 hm4
      first | refine ft_goL mi_k171 2 19 [(1, .int l1_4), (0, .ref 116)] [.int 64, .int l1_4] (by rfl) ?_ | refine ft_go mi_k171 2 19 [(1, .int l1_4), (0, .ref 116)] [.int 64, .int l1_4] i4 a4 q4 r4 (by rfl) ?_
      refine ft_ifS mi_k171 (decide (64 ≤ l1_4)) 35 22 [] (by rfl) (fun c => ?_) (fun c => ?_)
      ·
        have c5 : (64 : Int32).toInt ≤ l1_4.toInt := kd_le c; clear c
        have hG6 := kG_call hJ3 hL4 (by decide +kernel)
        have qz7 : a4 141 = List.replicate 64 0 := kZr_end O4_0 (hG6.I.2.1 141) (tot79 c5 ktot64)
        exact ft_ret mi_k171 (by rfl) (hP  _ _ _ _ hG6 ⟨trivial, ⟨(show a4 139 = a 118 from (by first | rfl | (simp only [hL4.fa 139 rfl, q2, sMn, sMx]; done) | (simp only [hL4.fa 139 rfl, q2, sMn, sMx]; rfl))), (show a4 118 = a 118 from (by first | rfl | (simp only [hL4.fa 118 rfl, kg1.fa 118 rfl, sMn, sMx]; done) | (simp only [hL4.fa 118 rfl, kg1.fa 118 rfl, sMn, sMx]; rfl))), (show i4 7467 = 0 from (by first | rfl | (simp only [(show i4 7467 = (0 : Int32) from hL4.fi 7467 rfl), sMn, sMx]; done) | (simp only [(show i4 7467 = (0 : Int32) from hL4.fi 7467 rfl), sMn, sMx]; rfl))), (show a4 141 = List.replicate 64 0 from (by first | rfl | (simp only [qz7, sMn, sMx]; done) | (simp only [qz7, sMn, sMx]; rfl)))⟩⟩)
      ·
        have c8 : l1_4.toInt < (64 : Int32).toInt := kd_leF c; clear c
        first | refine fo_goS mi_k171 fz171_22_4_28 [.int 0, .int l1_4, .ref 141] (by rfl) ?_ | refine ft_go mi_k171 4 28 [(1, .int l1_4), (0, .ref 116)] [.int 0, .int l1_4, .ref 141] i4 a4 q4 r4 (by rfl) ?_
        refine ko_iast3 mi_k171.1 (n := 64) (c := 64) (ax := (0, 0, 0, 0, 0)) (mi_k171.2 _ _ (by rfl)) (by rfl) (ksG141 _ _ _ _) (ksA141 _ _ _ _) (hL4.I.2.1 141) rfl (tot5 p4_0) (tot80 c8 ktot64) ?_
        intro a9 ea9 fa9
        have hJ9 := kG_a3 hL4 141 rfl ea9 fa9 (kd_bd _)
        have s10 : (l1_4 + 1).toInt = l1_4.toInt + (1 : Int32).toInt := kd_add (tot36 p4_0 ktot1) (tot81 c8 ktot64 ktot1)
        first | refine ft_goL mi_k171 2 16 [(1, .int (l1_4 + 1)), (0, .ref 116)] [] (by rfl) ?_ | refine ft_go mi_k171 2 16 [(1, .int (l1_4 + 1)), (0, .ref 116)] [] i4 a9 q4 r4 (by rfl) ?_
        exact ih4 _ _ _ _ _ hJ9 (tot38 p4_0 s10 ktot1) (kZr_step O4_0 (hL4.I.2.1 141) (tot5 p4_0) (tot82 c8 ktot64) (tot47 s10 ktot1) ea9) (kj_meas (tot83 s10 ktot1) (tot84 c8 ktot64) hm4)
  exact lp4 _ _ _ _ _ _ (kG_self _ hJ3.I hJ3.R) (tot15 ktot0) (kZr_zero ktot0) (Nat.lt_succ_self _)
def ygw170_116 : kW := ([7464, 7465, 7466, 7467], [118, 128, 129, 141, 143, 144, 145], [], [])
def ygw170_116_L2 : kW := ([7464, 7465, 7466, 7467], [118, 128, 129, 141, 143, 144, 145], [], [])
set_option maxRecDepth 100000 in
theorem kg170_116 {i : Nat → Int32} {a : Nat → List Int32} {q : Nat → List Int64} {r : Nat → Nat} (hI : kI i a q) (hr : kr r) (hE_code : kCode i a) : km 11 170 [.ref 116] (ks i a q r) (kVN ygw170_116 i a q r (fun i1 a1 q1 r1 => (True) ∧ (gT i1 a1 = gAt (gKn i a) (a 142) (gT i a) (i 7469).toInt.toNat ∧ gOp (gKn i a) (a 142) (gT i a) (i 7469).toInt (a1 143) (a1 144) (a1 145)))) := by
  have hG := kG_self ygw170_116 hI hr
  refine km_ofN (q := (mi_h170, mi_c170)) rfl (by decide) (Nat.le_of_ble_eq_true rfl) ?_
  intro P hP
  first | refine fo_goL mi_k170 fz170_0_2_2 [(1, .int 0), (0, .ref 116)] [] (by rfl) ?_ | refine fo_goL mi_k170 fz170_51_2_2 [(1, .int 0), (0, .ref 116)] [] (by rfl) ?_ | refine ft_go mi_k170 2 2 [(1, .int 0), (0, .ref 116)] [] i a q r (by rfl) ?_
  have lp1 : ∀ (nz : Nat) (i1 : Nat → Int32) (a1 : Nat → List Int32) (q1 : Nat → List Int64) (r1 : Nat → Nat) (l1_1 : Int32), kG ygw170_116_L2 i a q r i1 a1 q1 r1 → (0 : Int) ≤ l1_1.toInt → l1_1.toInt ≤ (i 7469).toInt → (i1 7469).toInt = (i 7469).toInt → gT i1 a1 = gAt (gKn i a) (a 142) (gT i a) l1_1.toInt.toNat → gOp (gKn i a) (a 142) (gT i a) l1_1.toInt (a1 143) (a1 144) (a1 145) → (((i1 7469).toInt - l1_1.toInt)).toNat < nz → ko 11 (mi_h170, mi_c170) P (2, [(1, .int l1_1), (0, .ref 116)], [], (0, 0), ks i1 a1 q1 r1) := by
    intro nz
    induction nz with
    | zero =>
      intro _ _ _ _ _ _ _ _ _ _ _ hm
      exact absurd hm (Nat.not_lt_zero _)
    | succ nz ih1 =>
      intro i1 a1 q1 r1 l1_1 hL1 p1_0 p1_1 p1_2 O1_0 O1_1 hm1
      have fi_7469 : ((0 : Int) ≤ (i 7469).toInt) ∧ ((i 7469).toInt ≤ 21) := hG.I.1 7469
      have efi1_7469 : (i1 7469).toInt = (i 7469).toInt := hL1.ti 7469 rfl
      first | refine fo_goL mi_k170 fz170_2_3_7 [(1, .int l1_1), (0, .ref 116)] [.int (i1 7469), .int l1_1] (by rfl) ?_ | refine ft_go mi_k170 3 7 [(1, .int l1_1), (0, .ref 116)] [.int (i1 7469), .int l1_1] i1 a1 q1 r1 (by rfl) ?_
      refine ft_ifS mi_k170 (decide ((i1 7469) ≤ l1_1)) 57 10 [] (by rfl) (fun c => ?_) (fun c => ?_)
      ·
        have c2 : (i1 7469).toInt ≤ l1_1.toInt := kd_le c; clear c
        have hG3 := kG_call hG hL1 (by decide +kernel)
        exact ft_ret mi_k170 (by rfl) (hP  _ _ _ _ hG3 ⟨trivial, ⟨gT_c O1_0 (gAt_len (tot85 c2 efi1_7469 p1_1)), gOp_len O1_1 (tot85 c2 efi1_7469 p1_1)⟩⟩)
      ·
        have c4 : l1_1.toInt < (i1 7469).toInt := kd_leF c; clear c
        first | refine fo_goS mi_k170 fz170_10_4_16 [.int l1_1, .ref 142, .ref 116] (by rfl) ?_ | refine ft_go mi_k170 4 16 [(1, .int l1_1), (0, .ref 116)] [.int l1_1, .ref 142, .ref 116] i1 a1 q1 r1 (by rfl) ?_
        refine ko_iald3 mi_k170.1 (n := 21) (c := 21) (ax := (0, 0, 0, 0, 0)) (mi_k170.2 _ _ (by rfl)) (by rfl) (ksG142 _ _ _ _) (hL1.I.2.1 142) rfl (tot5 p1_0) (tot86 c4 efi1_7469 fi_7469.2) ?_
        have r5 : ((0 : Int) ≤ ((a1 142).getD l1_1.toNatClampNeg 0).toInt) ∧ (((a1 142).getD l1_1.toNatClampNeg 0).toInt ≤ 7) := hL1.I.2.2.1 142 (l1_1.toNatClampNeg)
        have hG6 := kG_call hG hL1 (by decide +kernel)
        refine ko_callI mi_k170.1 (pc := 17) (ls := [(1, .int l1_1), (0, .ref 116)]) (st := [.int ((a1 142).getD l1_1.toNatClampNeg 0), .ref 116]) (h := ks i1 a1 q1 r1) (i := (.invokevirtual 260, 3, 166, 0, 9, 0, 415)) (mi_k170.2 _ _ (by rfl)) (ft_invS mi_pq166 (by rfl)) (cy := mi_c166) mi_pq166 rfl (kg166_116 hL1.I hL1.R ((a1 142).getD l1_1.toNatClampNeg 0) (tot87 r5.1 r5.2) (kCode_of (i1 := i1) hE_code (hG6.fi 7432 rfl) (hG6.fa 120 rfl) (hG6.fa 121 rfl) (hG6.fa 122 rfl) (hG6.fa 123 rfl))) (by decide) ?_
        intro vg7 ig7 ag7 qg7 rg7 kg7 hg7
        have hGg7 := kG_call hL1 kg7 (by decide +kernel)
        obtain ⟨hg7, og7⟩ := hg7
        have oG8 := og7
        have hG9 := kG_call hG hL1 (by decide +kernel)
        rw [(gKn_fr hG9 (by decide +kernel) : gKn i1 a1 = gKn i a), (O1_0 : gT i1 a1 = gAt (gKn i a) (a 142) (gT i a) l1_1.toInt.toNat)] at oG8
        have tG10 : gT ig7 ag7 = gIn (gKn i a) ((a1 142).getD l1_1.toNatClampNeg 0) (gAt (gKn i a) (a 142) (gT i a) l1_1.toInt.toNat) := oG8
        first | refine fo_goS mi_k170 fz170_20_6_30 [.int (ig7 7464), .int l1_1, .ref 143] (by rfl) ?_ | refine ft_go mi_k170 6 30 [(1, .int l1_1), (0, .ref 116)] [.int (ig7 7464), .int l1_1, .ref 143] ig7 ag7 qg7 rg7 (by rfl) ?_
        refine ko_iast3 mi_k170.1 (n := 21) (c := 21) (ax := (0, 0, 0, 0, 0)) (mi_k170.2 _ _ (by rfl)) (by rfl) (ksG143 _ _ _ _) (ksA143 _ _ _ _) (hGg7.I.2.1 143) rfl (tot5 p1_0) (tot86 c4 efi1_7469 fi_7469.2) ?_
        intro a11 ea11 fa11
        have hJ11 := kG_a3 hGg7 143 rfl ea11 fa11 (kd_bd _)
        first | refine fo_goS mi_k170 fz170_31_5_40 [.int (ig7 7465), .int l1_1, .ref 144] (by rfl) ?_ | refine ft_go mi_k170 5 40 [(1, .int l1_1), (0, .ref 116)] [.int (ig7 7465), .int l1_1, .ref 144] ig7 a11 qg7 rg7 (by rfl) ?_
        refine ko_iast3 mi_k170.1 (n := 21) (c := 21) (ax := (0, 0, 0, 0, 0)) (mi_k170.2 _ _ (by rfl)) (by rfl) (ksG144 _ _ _ _) (ksA144 _ _ _ _) (hJ11.I.2.1 144) rfl (tot5 p1_0) (tot86 c4 efi1_7469 fi_7469.2) ?_
        intro a12 ea12 fa12
        have hJ12 := kG_a3 hJ11 144 rfl ea12 fa12 (kd_bd _)
        first | refine fo_goS mi_k170 fz170_41_5_50 [.int (ig7 7466), .int l1_1, .ref 145] (by rfl) ?_ | refine ft_go mi_k170 5 50 [(1, .int l1_1), (0, .ref 116)] [.int (ig7 7466), .int l1_1, .ref 145] ig7 a12 qg7 rg7 (by rfl) ?_
        refine ko_iast3 mi_k170.1 (n := 21) (c := 21) (ax := (0, 0, 0, 0, 0)) (mi_k170.2 _ _ (by rfl)) (by rfl) (ksG145 _ _ _ _) (ksA145 _ _ _ _) (hJ12.I.2.1 145) rfl (tot5 p1_0) (tot86 c4 efi1_7469 fi_7469.2) ?_
        intro a13 ea13 fa13
        have hJ13 := kG_a3 hJ12 145 rfl ea13 fa13 (kd_bd _)
        have s14 : (l1_1 + 1).toInt = l1_1.toInt + (1 : Int32).toInt := kd_add (tot36 p1_0 ktot1) (tot88 c4 efi1_7469 fi_7469.2 ktot1)
        first | refine fo_goL mi_k170 fz170_0_2_2 [(1, .int (l1_1 + 1)), (0, .ref 116)] [] (by rfl) ?_ | refine fo_goL mi_k170 fz170_51_2_2 [(1, .int (l1_1 + 1)), (0, .ref 116)] [] (by rfl) ?_ | refine ft_go mi_k170 2 2 [(1, .int (l1_1 + 1)), (0, .ref 116)] [] ig7 a13 qg7 rg7 (by rfl) ?_
        have efig7_7469 : (ig7 7469).toInt = (i1 7469).toInt := kg7.ti 7469 rfl
        exact ih1 _ _ _ _ _ hJ13 (tot38 p1_0 s14 ktot1) (tot89 c4 efi1_7469 s14 ktot1) (tot90 efi1_7469 efig7_7469) (gT_c (gT_st fa13 (by decide) (by decide) (gT_st fa12 (by decide) (by decide) (gT_st fa11 (by decide) (by decide) tG10))) (gAt_next (i1 := i) rfl (congrArg (fun z : List Int32 => z.getD l1_1.toNatClampNeg 0) ((hL1.fa 142 rfl) : a1 142 = a 142)) (tot5 p1_0) (tot47 s14 ktot1) rfl).symm) (gOp_step (n := 21) O1_1 (hL1.I.2.1 143) (hL1.I.2.1 144) (hL1.I.2.1 145) (tot5 p1_0) (tot91 c4 efi1_7469 fi_7469.2) (tot47 s14 ktot1) (gAt_next (i1 := i) rfl (congrArg (fun z : List Int32 => z.getD l1_1.toNatClampNeg 0) ((hL1.fa 142 rfl) : a1 142 = a 142)) (tot5 p1_0) (tot47 s14 ktot1) rfl) (show a13 143 = (a1 143).set l1_1.toNatClampNeg (ig7 7464) from (by first | rfl | (simp only [fa13 143 (by decide), fa12 143 (by decide), ea11, kg7.fa 143 rfl, sMn, sMx]; done) | (simp only [fa13 143 (by decide), fa12 143 (by decide), ea11, kg7.fa 143 rfl, sMn, sMx]; rfl))) (show a13 144 = (a1 144).set l1_1.toNatClampNeg (ig7 7465) from (by first | rfl | (simp only [fa13 144 (by decide), ea12, fa11 144 (by decide), kg7.fa 144 rfl, sMn, sMx]; done) | (simp only [fa13 144 (by decide), ea12, fa11 144 (by decide), kg7.fa 144 rfl, sMn, sMx]; rfl))) (show a13 145 = (a1 145).set l1_1.toNatClampNeg (ig7 7466) from (by first | rfl | (simp only [ea13, fa12 145 (by decide), fa11 145 (by decide), kg7.fa 145 rfl, sMn, sMx]; done) | (simp only [ea13, fa12 145 (by decide), fa11 145 (by decide), kg7.fa 145 rfl, sMn, sMx]; rfl))) (gT_out tG10).1 (gT_out tG10).2.1 (gT_out tG10).2.2) (kj_meas (tot92 efig7_7469 s14 ktot1) (tot93 c4) hm1)
  have fi_7469 : ((0 : Int) ≤ (i 7469).toInt) ∧ ((i 7469).toInt ≤ 21) := hG.I.1 7469
  exact lp1 _ _ _ _ _ _ (kG_self _ hG.I hG.R) (tot15 ktot0) (tot54 fi_7469.1 ktot0) tot27 (gT_c rfl (gAt_k0 ktot0)) (gOp_0 ktot0) (Nat.lt_succ_self _)
def yzw175_116 : kW := ([7464, 7465, 7466, 7467, 7469], [118, 128, 129, 139, 141, 142, 143, 144, 145], [], [])
set_option maxRecDepth 100000 in
theorem kz175_116 {i : Nat → Int32} {a : Nat → List Int32} {q : Nat → List Int64} {r : Nat → Nat} (hI : kI i a q) (hr : kr r) (x1 : Int32) (x2 : Int32) (x3 : Int32) (hE_code : kCode i a) : km 13 175 [.ref 116, .int x1, .int x2, .int x3] (ks i a q r) (kVI yzw175_116 i a q r (fun v i1 a1 q1 r1 => (True) ∧ (a1 118 = a 118 ∧ rTop (((0 : Int) ≤ x3.toInt) ∧ (x3.toInt ≤ 3) ∧ (((x3.toInt = 3) → (((0 : Int) ≤ x2.toInt) ∧ (x2.toInt < (i 7424).toInt)))) ∧ (((x3.toInt ≠ 3) → (x2.toInt = 0)))) i a q x1 v (fun n L => fMk (gKn i a) (gR i a) x2 x3 v n L)))) := by
  have hG := kG_self yzw175_116 hI hr
  refine km_ofI (q := (mi_h175, mi_c175)) rfl (by decide) (Nat.le_of_ble_eq_true rfl) ?_
  intro P hP
  first | refine ft_goL mi_k175 1 1 [(0, .ref 116), (1, .int x1), (2, .int x2), (3, .int x3)] [.int x1] (by rfl) ?_ | refine ft_go mi_k175 1 1 [(0, .ref 116), (1, .int x1), (2, .int x2), (3, .int x3)] [.int x1] i a q r (by rfl) ?_
  refine ko_callPI mi_k175.1 (pc := 1) (ls := [(0, .ref 116), (1, .int x1), (2, .int x2), (3, .int x3)]) (st := [.int x1]) (h := ks i a q r) (i := (.invokestatic 127, 3, 133, 0, 9, 0, 382)) (mi_k175.2 _ _ (by rfl)) (ft_invS mi_pq133 (by rfl)) (cy := mi_c133) mi_pq133 rfl (kc133 hG.I hG.R x1) (by decide) ?_
  intro vg1 hg1
  rcases hg1 with ⟨eg1, hg1⟩ | ⟨eg1, hg1⟩
  ·
    subst eg1
    have z2 : ((0 : Int) ≤ x1.toInt) ∧ (x1.toInt ≤ 5) := hg1
    first | refine ft_goS mi_k175 4 10 [.int 3, .int 0, .int x3] (by rfl) ?_ | refine ft_go mi_k175 4 10 [(0, .ref 116), (1, .int x1), (2, .int x2), (3, .int x3)] [.int 3, .int 0, .int x3] i a q r (by rfl) ?_
    refine ko_callPI mi_k175.1 (pc := 10) (ls := [(0, .ref 116), (1, .int x1), (2, .int x2), (3, .int x3)]) (st := [.int 3, .int 0, .int x3]) (h := ks i a q r) (i := (.invokestatic 119, 3, 131, 0, 9, 0, 379)) (mi_k175.2 _ _ (by rfl)) (ft_invS mi_pq131 (by rfl)) (cy := mi_c131) mi_pq131 rfl (kc131 hG.I hG.R x3 0 3) (by decide) ?_
    intro vg3 hg3
    rcases hg3 with ⟨eg3, hg3⟩ | ⟨eg3, hg3⟩
    ·
      subst eg3
      have z4 : ((0 : Int32).toInt ≤ x3.toInt) ∧ (x3.toInt ≤ (3 : Int32).toInt) := hg3
      first | refine ft_goS mi_k175 3 18 [.int 3, .int x3] (by rfl) ?_ | refine ft_go mi_k175 3 18 [(0, .ref 116), (1, .int x1), (2, .int x2), (3, .int x3)] [.int 3, .int x3] i a q r (by rfl) ?_
      refine ft_ifS mi_k175 (x3 != 3) 32 21 [] (by rfl) (fun c => ?_) (fun c => ?_)
      ·
        have c5 : x3.toInt ≠ (3 : Int32).toInt := kd_ne c; clear c
        first | refine ft_goS mi_k175 1 33 [.int x2] (by rfl) ?_ | refine ft_go mi_k175 1 33 [(0, .ref 116), (1, .int x1), (2, .int x2), (3, .int x3)] [.int x2] i a q r (by rfl) ?_
        refine ft_ifS mi_k175 (x2 == 0) 38 36 [] (by rfl) (fun c => ?_) (fun c => ?_)
        ·
          have c6 : x2.toInt = (0 : Int32).toInt := kd_eq c; clear c
          first | refine ft_goS mi_k175 2 40 [.int x1, .ref 116] (by rfl) ?_ | refine ft_go mi_k175 2 40 [(0, .ref 116), (1, .int x1), (2, .int x2), (3, .int x3)] [.int x1, .ref 116] i a q r (by rfl) ?_
          refine ko_callPI mi_k175.1 (pc := 40) (ls := [(0, .ref 116), (1, .int x1), (2, .int x2), (3, .int x3)]) (st := [.int x1, .ref 116]) (h := ks i a q r) (i := (.invokevirtual 276, 3, 173, 0, 9, 0, 410)) (mi_k175.2 _ _ (by rfl)) (ft_invS mi_pq173 (by rfl)) (cy := mi_c173) mi_pq173 rfl (kg173_116 hG.I hG.R x1 (tot14 z2.1 z2.2)) (by decide) ?_
          intro vg7 hg7
          obtain ⟨hg7, og7⟩ := hg7
          first | refine ft_goL mi_k175 2 47 [(4, .int vg7), (0, .ref 116), (1, .int x1), (2, .int x2), (3, .int x3)] [.int vg7] (by rfl) ?_ | refine ft_go mi_k175 2 47 [(4, .int vg7), (0, .ref 116), (1, .int x1), (2, .int x2), (3, .int x3)] [.int vg7] i a q r (by rfl) ?_
          refine ft_ifS mi_k175 (decide (0 ≤ vg7)) 53 50 [] (by rfl) (fun c => ?_) (fun c => ?_)
          ·
            have c9 : (0 : Int32).toInt ≤ vg7.toInt := kd_le c; clear c
            first | refine ft_goS mi_k175 2 55 [.int x1, .ref 116] (by rfl) ?_ | refine ft_go mi_k175 2 55 [(4, .int vg7), (0, .ref 116), (1, .int x1), (2, .int x2), (3, .int x3)] [.int x1, .ref 116] i a q r (by rfl) ?_
            refine ko_callN mi_k175.1 (pc := 55) (ls := [(4, .int vg7), (0, .ref 116), (1, .int x1), (2, .int x2), (3, .int x3)]) (st := [.int x1, .ref 116]) (h := ks i a q r) (i := (.invokevirtual 279, 3, 174, 0, 9, 0, 411)) (mi_k175.2 _ _ (by rfl)) (ft_invS mi_pq174 (by rfl)) (cy := mi_c174) mi_pq174 rfl (kg174_116 hG.I hG.R x1 (tot14 z2.1 z2.2)) (by decide) ?_
            intro ig10 ag10 qg10 rg10 kg10 hg10
            have hGg10 := kG_call hG kg10 (by decide +kernel)
            obtain ⟨hg10, og10⟩ := hg10
            first | refine ft_goS mi_k175 1 59 [.ref 116] (by rfl) ?_ | refine ft_go mi_k175 1 59 [(4, .int vg7), (0, .ref 116), (1, .int x1), (2, .int x2), (3, .int x3)] [.ref 116] ig10 ag10 qg10 rg10 (by rfl) ?_
            refine ko_callN mi_k175.1 (pc := 59) (ls := [(4, .int vg7), (0, .ref 116), (1, .int x1), (2, .int x2), (3, .int x3)]) (st := [.ref 116]) (h := ks ig10 ag10 qg10 rg10) (i := (.invokevirtual 267, 3, 171, 0, 9, 0, 412)) (mi_k175.2 _ _ (by rfl)) (ft_invS mi_pq171 (by rfl)) (cy := mi_c171) mi_pq171 rfl (kg171_116 hGg10.I hGg10.R ) (by decide) ?_
            intro ig12 ag12 qg12 rg12 kg12 hg12
            have hGg12 := kG_call hGg10 kg12 (by decide +kernel)
            obtain ⟨hg12, og12⟩ := hg12
            have tG13 : gT ig12 ag12 = gR i a := (gT_R (og12.2.1.trans (kg10.fa 118 rfl)) ((kg12.fi 7464 rfl).trans (kg10.fi 7464 rfl)) ((kg12.fi 7465 rfl).trans (kg10.fi 7465 rfl)) ((kg12.fi 7466 rfl).trans (kg10.fi 7466 rfl)) og12.2.2.1 og12.2.2.2)
            have q14 : ag12 139 = ag10 118 := og12.1
            have q15 : ag12 118 = ag10 118 := og12.2.1
            have q16 : ig12 7467 = 0 := og12.2.2.1
            have q17 : ag12 141 = List.replicate 64 0 := og12.2.2.2
            first | refine ft_goS mi_k175 1 63 [.ref 116] (by rfl) ?_ | refine ft_go mi_k175 1 63 [(4, .int vg7), (0, .ref 116), (1, .int x1), (2, .int x2), (3, .int x3)] [.ref 116] ig12 ag12 qg12 rg12 (by rfl) ?_
            refine ko_callN mi_k175.1 (pc := 63) (ls := [(4, .int vg7), (0, .ref 116), (1, .int x1), (2, .int x2), (3, .int x3)]) (st := [.ref 116]) (h := ks ig12 ag12 qg12 rg12) (i := (.invokevirtual 270, 3, 170, 0, 9, 0, 414)) (mi_k175.2 _ _ (by rfl)) (ft_invS mi_pq170 (by rfl)) (cy := mi_c170) mi_pq170 rfl (kg170_116 hGg12.I hGg12.R (kCode_of (i1 := ig12) hE_code (hGg12.fi 7432 rfl) (hGg12.fa 120 rfl) (hGg12.fa 121 rfl) (hGg12.fa 122 rfl) (hGg12.fa 123 rfl))) (by decide) ?_
            intro ig18 ag18 qg18 rg18 kg18 hg18
            have hGg18 := kG_call hGg12 kg18 (by decide +kernel)
            obtain ⟨hg18, og18⟩ := hg18
            have oG19 := og18
            rw [(gKn_fr hGg12 (by decide +kernel) : gKn ig12 ag12 = gKn i a), (tG13 : gT ig12 ag12 = gR i a)] at oG19
            rw [((kg12.fa 142 rfl) : ag12 142 = ag10 142), ((kg12.fi 7469 rfl) : ig12 7469 = ig10 7469)] at oG19
            have tG20 : gT ig18 ag18 = gAt (gKn i a) (ag10 142) (gR i a) (ig10 7469).toInt.toNat := oG19.1
            first | refine ft_goS mi_k175 1 67 [.int x3] (by rfl) ?_ | refine ft_go mi_k175 1 67 [(4, .int vg7), (0, .ref 116), (1, .int x1), (2, .int x2), (3, .int x3)] [.int x3] ig18 ag18 qg18 rg18 (by rfl) ?_
            refine ft_ifS mi_k175 (x3 != 0) 77 70 [] (by rfl) (fun c => ?_) (fun c => ?_)
            ·
              have c21 : x3.toInt ≠ (0 : Int32).toInt := kd_ne c; clear c
              first | refine ft_goS mi_k175 2 79 [.int 1, .int x3] (by rfl) ?_ | refine ft_go mi_k175 2 79 [(4, .int vg7), (0, .ref 116), (1, .int x1), (2, .int x2), (3, .int x3)] [.int 1, .int x3] ig18 ag18 qg18 rg18 (by rfl) ?_
              refine ft_ifS mi_k175 (x3 != 1) 89 82 [] (by rfl) (fun c => ?_) (fun c => ?_)
              ·
                have c22 : x3.toInt ≠ (1 : Int32).toInt := kd_ne c; clear c
                first | refine ft_goS mi_k175 2 91 [.int 2, .int x3] (by rfl) ?_ | refine ft_go mi_k175 2 91 [(4, .int vg7), (0, .ref 116), (1, .int x1), (2, .int x2), (3, .int x3)] [.int 2, .int x3] ig18 ag18 qg18 rg18 (by rfl) ?_
                refine ft_ifS mi_k175 (x3 != 2) 104 94 [] (by rfl) (fun c => ?_) (fun c => ?_)
                ·
                  have c23 : x3.toInt ≠ (2 : Int32).toInt := kd_ne c; clear c
                  exact (tot94 c21 c22 c23 c5 z4.1 z4.2 ktot0 ktot1 ktot2 ktot3).elim
                ·
                  have c24 : x3.toInt = (2 : Int32).toInt := kd_neF c; clear c
                  first | refine ft_goS mi_k175 3 100 [.int 18, .ref 118] (by rfl) ?_ | refine ft_go mi_k175 3 100 [(4, .int vg7), (0, .ref 116), (1, .int x1), (2, .int x2), (3, .int x3)] [.int 18, .ref 118] ig18 ag18 qg18 rg18 (by rfl) ?_
                  refine ko_iald3 mi_k175.1 (n := 31) (c := 31) (ax := (0, 0, 0, 0, 0)) (mi_k175.2 _ _ (by rfl)) (by rfl) (ksG118 _ _ _ _) (hGg18.I.2.1 118) rfl (tot95 ktot18) (tot96 ktot18) ?_
                  have r25 : ((0 : Int) ≤ ((ag18 118).getD (18 : Int32).toNatClampNeg 0).toInt) ∧ (((ag18 118).getD (18 : Int32).toNatClampNeg 0).toInt ≤ 5) := kE_n18 (p := 118) hGg18.I (by decide)
                  first | refine fo_goL mi_k175 fz175_74_6_118 [(5, .int ((ag18 118).getD (18 : Int32).toNatClampNeg 0)), (4, .int vg7), (0, .ref 116), (1, .int x1), (2, .int x2), (3, .int x3)] [.int 0, .ref 139, .ref 116] (by rfl) ?_ | refine fo_goL mi_k175 fz175_86_6_118 [(5, .int ((ag18 118).getD (18 : Int32).toNatClampNeg 0)), (4, .int vg7), (0, .ref 116), (1, .int x1), (2, .int x2), (3, .int x3)] [.int 0, .ref 139, .ref 116] (by rfl) ?_ | refine fo_goL mi_k175 fz175_101_6_118 [(5, .int ((ag18 118).getD (18 : Int32).toNatClampNeg 0)), (4, .int vg7), (0, .ref 116), (1, .int x1), (2, .int x2), (3, .int x3)] [.int 0, .ref 139, .ref 116] (by rfl) ?_ | refine ft_goL mi_k175 6 118 [(5, .int ((ag18 118).getD (18 : Int32).toNatClampNeg 0)), (4, .int vg7), (0, .ref 116), (1, .int x1), (2, .int x2), (3, .int x3)] [.int 0, .ref 139, .ref 116] (by rfl) ?_ | refine ft_go mi_k175 6 118 [(5, .int ((ag18 118).getD (18 : Int32).toNatClampNeg 0)), (4, .int vg7), (0, .ref 116), (1, .int x1), (2, .int x2), (3, .int x3)] [.int 0, .ref 139, .ref 116] ig18 ag18 qg18 rg18 (by rfl) ?_
                  refine ko_callN mi_k175.1 (pc := 118) (ls := [(5, .int ((ag18 118).getD (18 : Int32).toNatClampNeg 0)), (4, .int vg7), (0, .ref 116), (1, .int x1), (2, .int x2), (3, .int x3)]) (st := [.int 0, .ref 139, .ref 116]) (h := ks ig18 ag18 qg18 rg18) (i := (.invokevirtual 273, 3, 169, 0, 9, 0, 423)) (mi_k175.2 _ _ (by rfl)) (ft_invS mi_pq169 (by rfl)) (cy := mi_c169) mi_pq169 rfl (ke169_116_139 hGg18.I hGg18.R 0 (tot78 ktot0)) (by decide) ?_
                  intro ig26 ag26 qg26 rg26 kg26 hg26
                  have hGg26 := kG_call hGg18 kg26 (by decide +kernel)
                  obtain ⟨hg26, og26⟩ := hg26
                  have q27 : ag26 118 = ag18 139 := og26
                  first | refine ft_goS mi_k175 1 123 [.int ((ag18 118).getD (18 : Int32).toNatClampNeg 0)] (by rfl) ?_ | refine ft_go mi_k175 1 123 [(5, .int ((ag18 118).getD (18 : Int32).toNatClampNeg 0)), (4, .int vg7), (0, .ref 116), (1, .int x1), (2, .int x2), (3, .int x3)] [.int ((ag18 118).getD (18 : Int32).toNatClampNeg 0)] ig26 ag26 qg26 rg26 (by rfl) ?_
                  exact ft_ret mi_k175 (by rfl) (hP ((ag18 118).getD (18 : Int32).toNatClampNeg 0) _ _ _ _ hGg26 ⟨trivial, ⟨(show ag26 118 = a 118 from (by first | rfl | (simp only [q27, kg18.fa 139 rfl, q14, kg10.fa 118 rfl, sMn, sMx]; done) | (simp only [q27, kg18.fa 139 rfl, q14, kg10.fa 118 rfl, sMn, sMx]; rfl))), (rTop_go (rok (tot99 c24 c6 z2.1 z2.2 z4.2 ktot2 ktot0 ktot3)) og7 (tot100 c9 ktot0) og10 ⟨fun h => absurd h (tot101 c24 ktot2), fun h => absurd h (tot102 c24 ktot2), fun _ => gT_18 tG20, fun h => absurd h (tot104 c24 ktot2)⟩)⟩⟩)
              ·
                have c28 : x3.toInt = (1 : Int32).toInt := kd_neF c; clear c
                first | refine fo_goL mi_k175 fz175_70_8_118 [(5, .int (ig18 7467)), (4, .int vg7), (0, .ref 116), (1, .int x1), (2, .int x2), (3, .int x3)] [.int 0, .ref 139, .ref 116] (by rfl) ?_ | refine fo_goL mi_k175 fz175_82_8_118 [(5, .int (ig18 7467)), (4, .int vg7), (0, .ref 116), (1, .int x1), (2, .int x2), (3, .int x3)] [.int 0, .ref 139, .ref 116] (by rfl) ?_ | refine ft_goL mi_k175 8 118 [(5, .int (ig18 7467)), (4, .int vg7), (0, .ref 116), (1, .int x1), (2, .int x2), (3, .int x3)] [.int 0, .ref 139, .ref 116] (by rfl) ?_ | refine ft_go mi_k175 8 118 [(5, .int (ig18 7467)), (4, .int vg7), (0, .ref 116), (1, .int x1), (2, .int x2), (3, .int x3)] [.int 0, .ref 139, .ref 116] ig18 ag18 qg18 rg18 (by rfl) ?_
                refine ko_callN mi_k175.1 (pc := 118) (ls := [(5, .int (ig18 7467)), (4, .int vg7), (0, .ref 116), (1, .int x1), (2, .int x2), (3, .int x3)]) (st := [.int 0, .ref 139, .ref 116]) (h := ks ig18 ag18 qg18 rg18) (i := (.invokevirtual 273, 3, 169, 0, 9, 0, 423)) (mi_k175.2 _ _ (by rfl)) (ft_invS mi_pq169 (by rfl)) (cy := mi_c169) mi_pq169 rfl (ke169_116_139 hGg18.I hGg18.R 0 (tot78 ktot0)) (by decide) ?_
                intro ig29 ag29 qg29 rg29 kg29 hg29
                have hGg29 := kG_call hGg18 kg29 (by decide +kernel)
                obtain ⟨hg29, og29⟩ := hg29
                have q30 : ag29 118 = ag18 139 := og29
                first | refine ft_goS mi_k175 1 123 [.int (ig18 7467)] (by rfl) ?_ | refine ft_go mi_k175 1 123 [(5, .int (ig18 7467)), (4, .int vg7), (0, .ref 116), (1, .int x1), (2, .int x2), (3, .int x3)] [.int (ig18 7467)] ig29 ag29 qg29 rg29 (by rfl) ?_
                exact ft_ret mi_k175 (by rfl) (hP (ig18 7467) _ _ _ _ hGg29 ⟨trivial, ⟨(show ag29 118 = a 118 from (by first | rfl | (simp only [q30, kg18.fa 139 rfl, q14, kg10.fa 118 rfl, sMn, sMx]; done) | (simp only [q30, kg18.fa 139 rfl, q14, kg10.fa 118 rfl, sMn, sMx]; rfl))), (rTop_go (rok (tot105 c28 c6 z2.1 z2.2 z4.2 ktot1 ktot0 ktot3)) og7 (tot100 c9 ktot0) og10 ⟨fun h => absurd h (tot106 c28 ktot1), fun _ => gT_la tG20, fun h => absurd h (tot108 c28 ktot1), fun h => absurd h (tot109 c28 ktot1)⟩)⟩⟩)
            ·
              have c31 : x3.toInt = (0 : Int32).toInt := kd_neF c; clear c
              have efig12_7469 : (ig12 7469).toInt = (ig10 7469).toInt := kg12.ti 7469 rfl
              have efig18_7469 : (ig18 7469).toInt = (ig12 7469).toInt := kg18.ti 7469 rfl
              first | refine fo_goL mi_k175 fz175_70_8_118 [(5, .int (ig18 7469)), (4, .int vg7), (0, .ref 116), (1, .int x1), (2, .int x2), (3, .int x3)] [.int 0, .ref 139, .ref 116] (by rfl) ?_ | refine fo_goL mi_k175 fz175_82_8_118 [(5, .int (ig18 7469)), (4, .int vg7), (0, .ref 116), (1, .int x1), (2, .int x2), (3, .int x3)] [.int 0, .ref 139, .ref 116] (by rfl) ?_ | refine ft_goL mi_k175 8 118 [(5, .int (ig18 7469)), (4, .int vg7), (0, .ref 116), (1, .int x1), (2, .int x2), (3, .int x3)] [.int 0, .ref 139, .ref 116] (by rfl) ?_ | refine ft_go mi_k175 8 118 [(5, .int (ig18 7469)), (4, .int vg7), (0, .ref 116), (1, .int x1), (2, .int x2), (3, .int x3)] [.int 0, .ref 139, .ref 116] ig18 ag18 qg18 rg18 (by rfl) ?_
              refine ko_callN mi_k175.1 (pc := 118) (ls := [(5, .int (ig18 7469)), (4, .int vg7), (0, .ref 116), (1, .int x1), (2, .int x2), (3, .int x3)]) (st := [.int 0, .ref 139, .ref 116]) (h := ks ig18 ag18 qg18 rg18) (i := (.invokevirtual 273, 3, 169, 0, 9, 0, 423)) (mi_k175.2 _ _ (by rfl)) (ft_invS mi_pq169 (by rfl)) (cy := mi_c169) mi_pq169 rfl (ke169_116_139 hGg18.I hGg18.R 0 (tot78 ktot0)) (by decide) ?_
              intro ig32 ag32 qg32 rg32 kg32 hg32
              have hGg32 := kG_call hGg18 kg32 (by decide +kernel)
              obtain ⟨hg32, og32⟩ := hg32
              have q33 : ag32 118 = ag18 139 := og32
              first | refine ft_goS mi_k175 1 123 [.int (ig18 7469)] (by rfl) ?_ | refine ft_go mi_k175 1 123 [(5, .int (ig18 7469)), (4, .int vg7), (0, .ref 116), (1, .int x1), (2, .int x2), (3, .int x3)] [.int (ig18 7469)] ig32 ag32 qg32 rg32 (by rfl) ?_
              exact ft_ret mi_k175 (by rfl) (hP (ig18 7469) _ _ _ _ hGg32 ⟨trivial, ⟨(show ag32 118 = a 118 from (by first | rfl | (simp only [q33, kg18.fa 139 rfl, q14, kg10.fa 118 rfl, sMn, sMx]; done) | (simp only [q33, kg18.fa 139 rfl, q14, kg10.fa 118 rfl, sMn, sMx]; rfl))), (rTop_go (rok (tot110 c31 c6 z2.1 z2.2 z4.1 z4.2 ktot0 ktot3)) og7 (tot100 c9 ktot0) og10 ⟨fun _ => (tot90 efig12_7469 efig18_7469), fun h => absurd h (tot112 c31 ktot0), fun h => absurd h (tot113 c31 ktot0), fun h => absurd h (tot114 c31 ktot0)⟩)⟩⟩)
          ·
            have c34 : vg7.toInt < (0 : Int32).toInt := kd_leF c; clear c
            first | refine ft_goS mi_k175 1 52 [.int vg7] (by rfl) ?_ | refine ft_go mi_k175 1 52 [(4, .int vg7), (0, .ref 116), (1, .int x1), (2, .int x2), (3, .int x3)] [.int vg7] i a q r (by rfl) ?_
            exact ft_ret mi_k175 (by rfl) (hP vg7 _ _ _ _ hG ⟨trivial, ⟨(show a 118 = a 118 from rfl), (rTop_bar (rok (tot115 c5 c6 z2.1 z2.2 z4.1 z4.2 ktot3 ktot0)) og7 (tot116 c34 ktot0))⟩⟩)
        ·
          have c35 : x2.toInt ≠ (0 : Int32).toInt := kd_eqF c; clear c
          first | refine ft_goS mi_k175 1 37 [.int (-1)] (by rfl) ?_ | refine ft_go mi_k175 1 37 [(0, .ref 116), (1, .int x1), (2, .int x2), (3, .int x3)] [.int (-1)] i a q r (by rfl) ?_
          exact ft_ret mi_k175 (by rfl) (hP (-1) _ _ _ _ hG ⟨trivial, ⟨(show a 118 = a 118 from rfl), (Or.inl ⟨(tot117 c35 c5 z4.2 ktot0 ktot3), rfl⟩)⟩⟩)
      ·
        have c36 : x3.toInt = (3 : Int32).toInt := kd_neF c; clear c
        first | refine ft_goS mi_k175 2 23 [.int x2, .ref 116] (by rfl) ?_ | refine ft_go mi_k175 2 23 [(0, .ref 116), (1, .int x1), (2, .int x2), (3, .int x3)] [.int x2, .ref 116] i a q r (by rfl) ?_
        refine ko_callPI mi_k175.1 (pc := 23) (ls := [(0, .ref 116), (1, .int x1), (2, .int x2), (3, .int x3)]) (st := [.int x2, .ref 116]) (h := ks i a q r) (i := (.invokevirtual 137, 3, 132, 0, 9, 0, 387)) (mi_k175.2 _ _ (by rfl)) (ft_invS mi_pq132 (by rfl)) (cy := mi_c132) mi_pq132 rfl (kc132_116 hG.I hG.R x2) (by decide) ?_
        intro vg37 hg37
        rcases hg37 with ⟨eg37, hg37⟩ | ⟨eg37, hg37⟩
        ·
          subst eg37
          have fi_7424 : ((0 : Int) ≤ (i 7424).toInt) ∧ ((i 7424).toInt ≤ 8) := hG.I.1 7424
          have z38 : ((0 : Int) ≤ x2.toInt) ∧ (x2.toInt < (i 7424).toInt) := hg37
          first | refine ft_goS mi_k175 4 40 [.int x1, .ref 116] (by rfl) ?_ | refine ft_go mi_k175 4 40 [(0, .ref 116), (1, .int x1), (2, .int x2), (3, .int x3)] [.int x1, .ref 116] i a q r (by rfl) ?_
          refine ko_callPI mi_k175.1 (pc := 40) (ls := [(0, .ref 116), (1, .int x1), (2, .int x2), (3, .int x3)]) (st := [.int x1, .ref 116]) (h := ks i a q r) (i := (.invokevirtual 276, 3, 173, 0, 9, 0, 410)) (mi_k175.2 _ _ (by rfl)) (ft_invS mi_pq173 (by rfl)) (cy := mi_c173) mi_pq173 rfl (kg173_116 hG.I hG.R x1 (tot14 z2.1 z2.2)) (by decide) ?_
          intro vg39 hg39
          obtain ⟨hg39, og39⟩ := hg39
          first | refine ft_goL mi_k175 2 47 [(4, .int vg39), (0, .ref 116), (1, .int x1), (2, .int x2), (3, .int x3)] [.int vg39] (by rfl) ?_ | refine ft_go mi_k175 2 47 [(4, .int vg39), (0, .ref 116), (1, .int x1), (2, .int x2), (3, .int x3)] [.int vg39] i a q r (by rfl) ?_
          refine ft_ifS mi_k175 (decide (0 ≤ vg39)) 53 50 [] (by rfl) (fun c => ?_) (fun c => ?_)
          ·
            have c41 : (0 : Int32).toInt ≤ vg39.toInt := kd_le c; clear c
            first | refine ft_goS mi_k175 2 55 [.int x1, .ref 116] (by rfl) ?_ | refine ft_go mi_k175 2 55 [(4, .int vg39), (0, .ref 116), (1, .int x1), (2, .int x2), (3, .int x3)] [.int x1, .ref 116] i a q r (by rfl) ?_
            refine ko_callN mi_k175.1 (pc := 55) (ls := [(4, .int vg39), (0, .ref 116), (1, .int x1), (2, .int x2), (3, .int x3)]) (st := [.int x1, .ref 116]) (h := ks i a q r) (i := (.invokevirtual 279, 3, 174, 0, 9, 0, 411)) (mi_k175.2 _ _ (by rfl)) (ft_invS mi_pq174 (by rfl)) (cy := mi_c174) mi_pq174 rfl (kg174_116 hG.I hG.R x1 (tot14 z2.1 z2.2)) (by decide) ?_
            intro ig42 ag42 qg42 rg42 kg42 hg42
            have hGg42 := kG_call hG kg42 (by decide +kernel)
            obtain ⟨hg42, og42⟩ := hg42
            first | refine ft_goS mi_k175 1 59 [.ref 116] (by rfl) ?_ | refine ft_go mi_k175 1 59 [(4, .int vg39), (0, .ref 116), (1, .int x1), (2, .int x2), (3, .int x3)] [.ref 116] ig42 ag42 qg42 rg42 (by rfl) ?_
            refine ko_callN mi_k175.1 (pc := 59) (ls := [(4, .int vg39), (0, .ref 116), (1, .int x1), (2, .int x2), (3, .int x3)]) (st := [.ref 116]) (h := ks ig42 ag42 qg42 rg42) (i := (.invokevirtual 267, 3, 171, 0, 9, 0, 412)) (mi_k175.2 _ _ (by rfl)) (ft_invS mi_pq171 (by rfl)) (cy := mi_c171) mi_pq171 rfl (kg171_116 hGg42.I hGg42.R ) (by decide) ?_
            intro ig44 ag44 qg44 rg44 kg44 hg44
            have hGg44 := kG_call hGg42 kg44 (by decide +kernel)
            obtain ⟨hg44, og44⟩ := hg44
            have tG45 : gT ig44 ag44 = gR i a := (gT_R (og44.2.1.trans (kg42.fa 118 rfl)) ((kg44.fi 7464 rfl).trans (kg42.fi 7464 rfl)) ((kg44.fi 7465 rfl).trans (kg42.fi 7465 rfl)) ((kg44.fi 7466 rfl).trans (kg42.fi 7466 rfl)) og44.2.2.1 og44.2.2.2)
            have q46 : ag44 139 = ag42 118 := og44.1
            have q47 : ag44 118 = ag42 118 := og44.2.1
            have q48 : ig44 7467 = 0 := og44.2.2.1
            have q49 : ag44 141 = List.replicate 64 0 := og44.2.2.2
            first | refine ft_goS mi_k175 1 63 [.ref 116] (by rfl) ?_ | refine ft_go mi_k175 1 63 [(4, .int vg39), (0, .ref 116), (1, .int x1), (2, .int x2), (3, .int x3)] [.ref 116] ig44 ag44 qg44 rg44 (by rfl) ?_
            refine ko_callN mi_k175.1 (pc := 63) (ls := [(4, .int vg39), (0, .ref 116), (1, .int x1), (2, .int x2), (3, .int x3)]) (st := [.ref 116]) (h := ks ig44 ag44 qg44 rg44) (i := (.invokevirtual 270, 3, 170, 0, 9, 0, 414)) (mi_k175.2 _ _ (by rfl)) (ft_invS mi_pq170 (by rfl)) (cy := mi_c170) mi_pq170 rfl (kg170_116 hGg44.I hGg44.R (kCode_of (i1 := ig44) hE_code (hGg44.fi 7432 rfl) (hGg44.fa 120 rfl) (hGg44.fa 121 rfl) (hGg44.fa 122 rfl) (hGg44.fa 123 rfl))) (by decide) ?_
            intro ig50 ag50 qg50 rg50 kg50 hg50
            have hGg50 := kG_call hGg44 kg50 (by decide +kernel)
            obtain ⟨hg50, og50⟩ := hg50
            have oG51 := og50
            rw [(gKn_fr hGg44 (by decide +kernel) : gKn ig44 ag44 = gKn i a), (tG45 : gT ig44 ag44 = gR i a)] at oG51
            rw [((kg44.fa 142 rfl) : ag44 142 = ag42 142), ((kg44.fi 7469 rfl) : ig44 7469 = ig42 7469)] at oG51
            have tG52 : gT ig50 ag50 = gAt (gKn i a) (ag42 142) (gR i a) (ig42 7469).toInt.toNat := oG51.1
            first | refine ft_goS mi_k175 1 67 [.int x3] (by rfl) ?_ | refine ft_go mi_k175 1 67 [(4, .int vg39), (0, .ref 116), (1, .int x1), (2, .int x2), (3, .int x3)] [.int x3] ig50 ag50 qg50 rg50 (by rfl) ?_
            refine ft_ifS mi_k175 (x3 != 0) 77 70 [] (by rfl) (fun c => ?_) (fun c => ?_)
            ·
              have c53 : x3.toInt ≠ (0 : Int32).toInt := kd_ne c; clear c
              first | refine ft_goS mi_k175 2 79 [.int 1, .int x3] (by rfl) ?_ | refine ft_go mi_k175 2 79 [(4, .int vg39), (0, .ref 116), (1, .int x1), (2, .int x2), (3, .int x3)] [.int 1, .int x3] ig50 ag50 qg50 rg50 (by rfl) ?_
              refine ft_ifS mi_k175 (x3 != 1) 89 82 [] (by rfl) (fun c => ?_) (fun c => ?_)
              ·
                have c54 : x3.toInt ≠ (1 : Int32).toInt := kd_ne c; clear c
                first | refine ft_goS mi_k175 2 91 [.int 2, .int x3] (by rfl) ?_ | refine ft_go mi_k175 2 91 [(4, .int vg39), (0, .ref 116), (1, .int x1), (2, .int x2), (3, .int x3)] [.int 2, .int x3] ig50 ag50 qg50 rg50 (by rfl) ?_
                refine ft_ifS mi_k175 (x3 != 2) 104 94 [] (by rfl) (fun c => ?_) (fun c => ?_)
                ·
                  have c55 : x3.toInt ≠ (2 : Int32).toInt := kd_ne c; clear c
                  first | refine ft_goS mi_k175 3 109 [.int x2, .ref 118] (by rfl) ?_ | refine ft_go mi_k175 3 109 [(4, .int vg39), (0, .ref 116), (1, .int x1), (2, .int x2), (3, .int x3)] [.int x2, .ref 118] ig50 ag50 qg50 rg50 (by rfl) ?_
                  refine ko_iald3 mi_k175.1 (n := 31) (c := 31) (ax := (0, 0, 0, 0, 0)) (mi_k175.2 _ _ (by rfl)) (by rfl) (ksG118 _ _ _ _) (hGg50.I.2.1 118) rfl (tot5 z38.1) (tot118 fi_7424.2 z38.2) ?_
                  have r56 : ((x2.toInt = 18 → (0 : Int) ≤ ((ag50 118).getD x2.toNatClampNeg 0).toInt ∧ ((ag50 118).getD x2.toNatClampNeg 0).toInt ≤ 5)) ∧ ((19 ≤ x2.toInt → x2.toInt ≤ 24 → (0 : Int) ≤ ((ag50 118).getD x2.toNatClampNeg 0).toInt ∧ ((ag50 118).getD x2.toNatClampNeg 0).toInt ≤ 7)) := kE_ncond (p := 118) hGg50.I (by decide) (j := x2) (tot5 z38.1)
                  first | refine fo_goL mi_k175 fz175_110_5_118 [(5, .int ((ag50 118).getD x2.toNatClampNeg 0)), (4, .int vg39), (0, .ref 116), (1, .int x1), (2, .int x2), (3, .int x3)] [.int 0, .ref 139, .ref 116] (by rfl) ?_ | refine ft_go mi_k175 5 118 [(5, .int ((ag50 118).getD x2.toNatClampNeg 0)), (4, .int vg39), (0, .ref 116), (1, .int x1), (2, .int x2), (3, .int x3)] [.int 0, .ref 139, .ref 116] ig50 ag50 qg50 rg50 (by rfl) ?_
                  refine ko_callN mi_k175.1 (pc := 118) (ls := [(5, .int ((ag50 118).getD x2.toNatClampNeg 0)), (4, .int vg39), (0, .ref 116), (1, .int x1), (2, .int x2), (3, .int x3)]) (st := [.int 0, .ref 139, .ref 116]) (h := ks ig50 ag50 qg50 rg50) (i := (.invokevirtual 273, 3, 169, 0, 9, 0, 423)) (mi_k175.2 _ _ (by rfl)) (ft_invS mi_pq169 (by rfl)) (cy := mi_c169) mi_pq169 rfl (ke169_116_139 hGg50.I hGg50.R 0 (tot78 ktot0)) (by decide) ?_
                  intro ig57 ag57 qg57 rg57 kg57 hg57
                  have hGg57 := kG_call hGg50 kg57 (by decide +kernel)
                  obtain ⟨hg57, og57⟩ := hg57
                  have q58 : ag57 118 = ag50 139 := og57
                  first | refine ft_goS mi_k175 1 123 [.int ((ag50 118).getD x2.toNatClampNeg 0)] (by rfl) ?_ | refine ft_go mi_k175 1 123 [(5, .int ((ag50 118).getD x2.toNatClampNeg 0)), (4, .int vg39), (0, .ref 116), (1, .int x1), (2, .int x2), (3, .int x3)] [.int ((ag50 118).getD x2.toNatClampNeg 0)] ig57 ag57 qg57 rg57 (by rfl) ?_
                  exact ft_ret mi_k175 (by rfl) (hP ((ag50 118).getD x2.toNatClampNeg 0) _ _ _ _ hGg57 ⟨trivial, ⟨(show ag57 118 = a 118 from (by first | rfl | (simp only [q58, kg50.fa 139 rfl, q46, kg42.fa 118 rfl, sMn, sMx]; done) | (simp only [q58, kg50.fa 139 rfl, q46, kg42.fa 118 rfl, sMn, sMx]; rfl))), (rTop_go (rok (tot119 c36 z2.1 z2.2 z38.1 z38.2 z4.2 ktot3)) og39 (tot100 c41 ktot0) og42 ⟨fun h => absurd h (tot120 c36 ktot3), fun h => absurd h (tot121 c36 ktot3), fun h => absurd h (tot122 c36 ktot3), fun _ => gT_pu tG52⟩)⟩⟩)
                ·
                  have c59 : x3.toInt = (2 : Int32).toInt := kd_neF c; clear c
                  exact (tot124 c36 c59 ktot3 ktot2).elim
              ·
                have c60 : x3.toInt = (1 : Int32).toInt := kd_neF c; clear c
                exact (tot125 c36 c60 ktot3 ktot1).elim
            ·
              have c61 : x3.toInt = (0 : Int32).toInt := kd_neF c; clear c
              exact (tot126 c36 c61 ktot3 ktot0).elim
          ·
            have c62 : vg39.toInt < (0 : Int32).toInt := kd_leF c; clear c
            first | refine ft_goS mi_k175 1 52 [.int vg39] (by rfl) ?_ | refine ft_go mi_k175 1 52 [(4, .int vg39), (0, .ref 116), (1, .int x1), (2, .int x2), (3, .int x3)] [.int vg39] i a q r (by rfl) ?_
            exact ft_ret mi_k175 (by rfl) (hP vg39 _ _ _ _ hG ⟨trivial, ⟨(show a 118 = a 118 from rfl), (rTop_bar (rok (tot119 c36 z2.1 z2.2 z38.1 z38.2 z4.2 ktot3)) og39 (tot116 c62 ktot0))⟩⟩)
        ·
          subst eg37
          have z63 : ¬ (((0 : Int) ≤ x2.toInt) ∧ (x2.toInt < (i 7424).toInt)) := hg37
          first | refine fo_goS mi_k175 fz175_4_2_37 [.int (-1)] (by rfl) ?_ | refine fo_goS mi_k175 fz175_13_2_37 [.int (-1)] (by rfl) ?_ | refine fo_goS mi_k175 fz175_26_2_37 [.int (-1)] (by rfl) ?_ | refine fo_goS mi_k175 fz175_33_2_37 [.int (-1)] (by rfl) ?_ | refine ft_go mi_k175 2 37 [(0, .ref 116), (1, .int x1), (2, .int x2), (3, .int x3)] [.int (-1)] i a q r (by rfl) ?_
          exact ft_ret mi_k175 (by rfl) (hP (-1) _ _ _ _ hG ⟨trivial, ⟨(show a 118 = a 118 from rfl), (Or.inl ⟨(tot127 c36 z4.2 z63 ktot3), rfl⟩)⟩⟩)
    ·
      subst eg3
      have z64 : ¬ (((0 : Int32).toInt ≤ x3.toInt) ∧ (x3.toInt ≤ (3 : Int32).toInt)) := hg3
      first | refine fo_goS mi_k175 fz175_4_2_37 [.int (-1)] (by rfl) ?_ | refine fo_goS mi_k175 fz175_13_2_37 [.int (-1)] (by rfl) ?_ | refine fo_goS mi_k175 fz175_26_2_37 [.int (-1)] (by rfl) ?_ | refine fo_goS mi_k175 fz175_33_2_37 [.int (-1)] (by rfl) ?_ | refine ft_go mi_k175 2 37 [(0, .ref 116), (1, .int x1), (2, .int x2), (3, .int x3)] [.int (-1)] i a q r (by rfl) ?_
      exact ft_ret mi_k175 (by rfl) (hP (-1) _ _ _ _ hG ⟨trivial, ⟨(show a 118 = a 118 from rfl), (Or.inl ⟨(tot128 z64 ktot0 ktot3), rfl⟩)⟩⟩)
  ·
    subst eg1
    have z65 : ¬ (((0 : Int) ≤ x1.toInt) ∧ (x1.toInt ≤ 5)) := hg1
    first | refine fo_goS mi_k175 fz175_4_2_37 [.int (-1)] (by rfl) ?_ | refine fo_goS mi_k175 fz175_13_2_37 [.int (-1)] (by rfl) ?_ | refine fo_goS mi_k175 fz175_26_2_37 [.int (-1)] (by rfl) ?_ | refine fo_goS mi_k175 fz175_33_2_37 [.int (-1)] (by rfl) ?_ | refine ft_go mi_k175 2 37 [(0, .ref 116), (1, .int x1), (2, .int x2), (3, .int x3)] [.int (-1)] i a q r (by rfl) ?_
    exact ft_ret mi_k175 (by rfl) (hP (-1) _ _ _ _ hG ⟨trivial, ⟨(show a 118 = a 118 from rfl), (Or.inl ⟨(tot129 z65), rfl⟩)⟩⟩)
def yzw176_116 : kW := ([7464, 7465, 7466, 7467, 7469], [118, 128, 129, 139, 141, 142, 143, 144, 145], [], [])
set_option maxRecDepth 100000 in
theorem kz176_116 {i : Nat → Int32} {a : Nat → List Int32} {q : Nat → List Int64} {r : Nat → Nat} (hI : kI i a q) (hr : kr r) (x1 : Int32) (x2 : Int32) (x3 : Int32) (hE_code : kCode i a) : km 13 176 [.ref 116, .int x1, .int x2, .int x3] (ks i a q r) (kVI yzw176_116 i a q r (fun v i1 a1 q1 r1 => (True) ∧ (a1 118 = a 118 ∧ rTop (((0 : Int) ≤ x2.toInt) ∧ ((0 : Int) ≤ x3.toInt) ∧ (x3.toInt ≤ 2)) i a q x1 v (fun n L => fCo (gKn i a) (gR i a) x2 x3 v n L)))) := by
  have hG := kG_self yzw176_116 hI hr
  refine km_ofI (q := (mi_h176, mi_c176)) rfl (by decide) (Nat.le_of_ble_eq_true rfl) ?_
  intro P hP
  first | refine ft_goL mi_k176 1 1 [(0, .ref 116), (1, .int x1), (2, .int x2), (3, .int x3)] [.int x1] (by rfl) ?_ | refine ft_go mi_k176 1 1 [(0, .ref 116), (1, .int x1), (2, .int x2), (3, .int x3)] [.int x1] i a q r (by rfl) ?_
  refine ko_callPI mi_k176.1 (pc := 1) (ls := [(0, .ref 116), (1, .int x1), (2, .int x2), (3, .int x3)]) (st := [.int x1]) (h := ks i a q r) (i := (.invokestatic 127, 3, 133, 0, 9, 0, 382)) (mi_k176.2 _ _ (by rfl)) (ft_invS mi_pq133 (by rfl)) (cy := mi_c133) mi_pq133 rfl (kc133 hG.I hG.R x1) (by decide) ?_
  intro vg1 hg1
  rcases hg1 with ⟨eg1, hg1⟩ | ⟨eg1, hg1⟩
  ·
    subst eg1
    have z2 : ((0 : Int) ≤ x1.toInt) ∧ (x1.toInt ≤ 5) := hg1
    first | refine ft_goS mi_k176 2 8 [.int x2] (by rfl) ?_ | refine ft_go mi_k176 2 8 [(0, .ref 116), (1, .int x1), (2, .int x2), (3, .int x3)] [.int x2] i a q r (by rfl) ?_
    refine ft_ifS mi_k176 (decide (x2 < 0)) 20 11 [] (by rfl) (fun c => ?_) (fun c => ?_)
    ·
      have c3 : x2.toInt < (0 : Int32).toInt := kd_lt c; clear c
      first | refine ft_goS mi_k176 1 21 [.int (-1)] (by rfl) ?_ | refine ft_go mi_k176 1 21 [(0, .ref 116), (1, .int x1), (2, .int x2), (3, .int x3)] [.int (-1)] i a q r (by rfl) ?_
      exact ft_ret mi_k176 (by rfl) (hP (-1) _ _ _ _ hG ⟨trivial, ⟨(show a 118 = a 118 from rfl), (Or.inl ⟨(tot130 c3 ktot0), rfl⟩)⟩⟩)
    ·
      have c4 : (0 : Int32).toInt ≤ x2.toInt := kd_ltF c; clear c
      first | refine ft_goS mi_k176 3 14 [.int 2, .int 0, .int x3] (by rfl) ?_ | refine ft_go mi_k176 3 14 [(0, .ref 116), (1, .int x1), (2, .int x2), (3, .int x3)] [.int 2, .int 0, .int x3] i a q r (by rfl) ?_
      refine ko_callPI mi_k176.1 (pc := 14) (ls := [(0, .ref 116), (1, .int x1), (2, .int x2), (3, .int x3)]) (st := [.int 2, .int 0, .int x3]) (h := ks i a q r) (i := (.invokestatic 119, 3, 131, 0, 9, 0, 379)) (mi_k176.2 _ _ (by rfl)) (ft_invS mi_pq131 (by rfl)) (cy := mi_c131) mi_pq131 rfl (kc131 hG.I hG.R x3 0 2) (by decide) ?_
      intro vg5 hg5
      rcases hg5 with ⟨eg5, hg5⟩ | ⟨eg5, hg5⟩
      ·
        subst eg5
        have z6 : ((0 : Int32).toInt ≤ x3.toInt) ∧ (x3.toInt ≤ (2 : Int32).toInt) := hg5
        first | refine ft_goS mi_k176 3 24 [.int x1, .ref 116] (by rfl) ?_ | refine ft_go mi_k176 3 24 [(0, .ref 116), (1, .int x1), (2, .int x2), (3, .int x3)] [.int x1, .ref 116] i a q r (by rfl) ?_
        refine ko_callPI mi_k176.1 (pc := 24) (ls := [(0, .ref 116), (1, .int x1), (2, .int x2), (3, .int x3)]) (st := [.int x1, .ref 116]) (h := ks i a q r) (i := (.invokevirtual 276, 3, 173, 0, 9, 0, 410)) (mi_k176.2 _ _ (by rfl)) (ft_invS mi_pq173 (by rfl)) (cy := mi_c173) mi_pq173 rfl (kg173_116 hG.I hG.R x1 (tot14 z2.1 z2.2)) (by decide) ?_
        intro vg7 hg7
        obtain ⟨hg7, og7⟩ := hg7
        first | refine ft_goL mi_k176 2 31 [(4, .int vg7), (0, .ref 116), (1, .int x1), (2, .int x2), (3, .int x3)] [.int vg7] (by rfl) ?_ | refine ft_go mi_k176 2 31 [(4, .int vg7), (0, .ref 116), (1, .int x1), (2, .int x2), (3, .int x3)] [.int vg7] i a q r (by rfl) ?_
        refine ft_ifS mi_k176 (decide (0 ≤ vg7)) 37 34 [] (by rfl) (fun c => ?_) (fun c => ?_)
        ·
          have c9 : (0 : Int32).toInt ≤ vg7.toInt := kd_le c; clear c
          first | refine ft_goS mi_k176 2 39 [.int x1, .ref 116] (by rfl) ?_ | refine ft_go mi_k176 2 39 [(4, .int vg7), (0, .ref 116), (1, .int x1), (2, .int x2), (3, .int x3)] [.int x1, .ref 116] i a q r (by rfl) ?_
          refine ko_callN mi_k176.1 (pc := 39) (ls := [(4, .int vg7), (0, .ref 116), (1, .int x1), (2, .int x2), (3, .int x3)]) (st := [.int x1, .ref 116]) (h := ks i a q r) (i := (.invokevirtual 279, 3, 174, 0, 9, 0, 411)) (mi_k176.2 _ _ (by rfl)) (ft_invS mi_pq174 (by rfl)) (cy := mi_c174) mi_pq174 rfl (kg174_116 hG.I hG.R x1 (tot14 z2.1 z2.2)) (by decide) ?_
          intro ig10 ag10 qg10 rg10 kg10 hg10
          have hGg10 := kG_call hG kg10 (by decide +kernel)
          obtain ⟨hg10, og10⟩ := hg10
          have fig10_7469 : ((0 : Int) ≤ (ig10 7469).toInt) ∧ ((ig10 7469).toInt ≤ 21) := hGg10.I.1 7469
          first | refine ft_goS mi_k176 3 47 [.int (ig10 7469), .int x2] (by rfl) ?_ | refine ft_go mi_k176 3 47 [(4, .int vg7), (0, .ref 116), (1, .int x1), (2, .int x2), (3, .int x3)] [.int (ig10 7469), .int x2] ig10 ag10 qg10 rg10 (by rfl) ?_
          refine ft_ifS mi_k176 (decide (x2 < (ig10 7469))) 53 50 [] (by rfl) (fun c => ?_) (fun c => ?_)
          ·
            have c12 : x2.toInt < (ig10 7469).toInt := kd_lt c; clear c
            first | refine ft_goS mi_k176 1 54 [.ref 116] (by rfl) ?_ | refine ft_go mi_k176 1 54 [(4, .int vg7), (0, .ref 116), (1, .int x1), (2, .int x2), (3, .int x3)] [.ref 116] ig10 ag10 qg10 rg10 (by rfl) ?_
            refine ko_callN mi_k176.1 (pc := 54) (ls := [(4, .int vg7), (0, .ref 116), (1, .int x1), (2, .int x2), (3, .int x3)]) (st := [.ref 116]) (h := ks ig10 ag10 qg10 rg10) (i := (.invokevirtual 267, 3, 171, 0, 9, 0, 412)) (mi_k176.2 _ _ (by rfl)) (ft_invS mi_pq171 (by rfl)) (cy := mi_c171) mi_pq171 rfl (kg171_116 hGg10.I hGg10.R ) (by decide) ?_
            intro ig13 ag13 qg13 rg13 kg13 hg13
            have hGg13 := kG_call hGg10 kg13 (by decide +kernel)
            obtain ⟨hg13, og13⟩ := hg13
            have tG14 : gT ig13 ag13 = gR i a := (gT_R (og13.2.1.trans (kg10.fa 118 rfl)) ((kg13.fi 7464 rfl).trans (kg10.fi 7464 rfl)) ((kg13.fi 7465 rfl).trans (kg10.fi 7465 rfl)) ((kg13.fi 7466 rfl).trans (kg10.fi 7466 rfl)) og13.2.2.1 og13.2.2.2)
            have q15 : ag13 139 = ag10 118 := og13.1
            have q16 : ag13 118 = ag10 118 := og13.2.1
            have q17 : ig13 7467 = 0 := og13.2.2.1
            have q18 : ag13 141 = List.replicate 64 0 := og13.2.2.2
            first | refine ft_goS mi_k176 1 58 [.ref 116] (by rfl) ?_ | refine ft_go mi_k176 1 58 [(4, .int vg7), (0, .ref 116), (1, .int x1), (2, .int x2), (3, .int x3)] [.ref 116] ig13 ag13 qg13 rg13 (by rfl) ?_
            refine ko_callN mi_k176.1 (pc := 58) (ls := [(4, .int vg7), (0, .ref 116), (1, .int x1), (2, .int x2), (3, .int x3)]) (st := [.ref 116]) (h := ks ig13 ag13 qg13 rg13) (i := (.invokevirtual 270, 3, 170, 0, 9, 0, 414)) (mi_k176.2 _ _ (by rfl)) (ft_invS mi_pq170 (by rfl)) (cy := mi_c170) mi_pq170 rfl (kg170_116 hGg13.I hGg13.R (kCode_of (i1 := ig13) hE_code (hGg13.fi 7432 rfl) (hGg13.fa 120 rfl) (hGg13.fa 121 rfl) (hGg13.fa 122 rfl) (hGg13.fa 123 rfl))) (by decide) ?_
            intro ig19 ag19 qg19 rg19 kg19 hg19
            have hGg19 := kG_call hGg13 kg19 (by decide +kernel)
            obtain ⟨hg19, og19⟩ := hg19
            have oG20 := og19
            rw [(gKn_fr hGg13 (by decide +kernel) : gKn ig13 ag13 = gKn i a), (tG14 : gT ig13 ag13 = gR i a)] at oG20
            rw [((kg13.fa 142 rfl) : ag13 142 = ag10 142), ((kg13.fi 7469 rfl) : ig13 7469 = ig10 7469)] at oG20
            have tG21 : gT ig19 ag19 = gAt (gKn i a) (ag10 142) (gR i a) (ig10 7469).toInt.toNat := oG20.1
            first | refine ft_goS mi_k176 4 67 [.int 0, .ref 139, .ref 116] (by rfl) ?_ | refine ft_go mi_k176 4 67 [(4, .int vg7), (0, .ref 116), (1, .int x1), (2, .int x2), (3, .int x3)] [.int 0, .ref 139, .ref 116] ig19 ag19 qg19 rg19 (by rfl) ?_
            refine ko_callN mi_k176.1 (pc := 67) (ls := [(4, .int vg7), (0, .ref 116), (1, .int x1), (2, .int x2), (3, .int x3)]) (st := [.int 0, .ref 139, .ref 116]) (h := ks ig19 ag19 qg19 rg19) (i := (.invokevirtual 273, 3, 169, 0, 9, 0, 423)) (mi_k176.2 _ _ (by rfl)) (ft_invS mi_pq169 (by rfl)) (cy := mi_c169) mi_pq169 rfl (ke169_116_139 hGg19.I hGg19.R 0 (tot78 ktot0)) (by decide) ?_
            intro ig22 ag22 qg22 rg22 kg22 hg22
            have hGg22 := kG_call hGg19 kg22 (by decide +kernel)
            obtain ⟨hg22, og22⟩ := hg22
            have q23 : ag22 118 = ag19 139 := og22
            first | refine ft_goS mi_k176 1 71 [.int x3] (by rfl) ?_ | refine ft_go mi_k176 1 71 [(4, .int vg7), (0, .ref 116), (1, .int x1), (2, .int x2), (3, .int x3)] [.int x3] ig22 ag22 qg22 rg22 (by rfl) ?_
            refine ft_ifS mi_k176 (x3 != 0) 83 74 [] (by rfl) (fun c => ?_) (fun c => ?_)
            ·
              have c24 : x3.toInt ≠ (0 : Int32).toInt := kd_ne c; clear c
              first | refine ft_goS mi_k176 2 85 [.int 1, .int x3] (by rfl) ?_ | refine ft_go mi_k176 2 85 [(4, .int vg7), (0, .ref 116), (1, .int x1), (2, .int x2), (3, .int x3)] [.int 1, .int x3] ig22 ag22 qg22 rg22 (by rfl) ?_
              refine ft_ifS mi_k176 (x3 != 1) 97 88 [] (by rfl) (fun c => ?_) (fun c => ?_)
              ·
                have c25 : x3.toInt ≠ (1 : Int32).toInt := kd_ne c; clear c
                first | refine ft_goS mi_k176 3 102 [.int x2, .ref 145] (by rfl) ?_ | refine ft_go mi_k176 3 102 [(4, .int vg7), (0, .ref 116), (1, .int x1), (2, .int x2), (3, .int x3)] [.int x2, .ref 145] ig22 ag22 qg22 rg22 (by rfl) ?_
                refine ko_iald3 mi_k176.1 (n := 21) (c := 21) (ax := (0, 0, 0, 0, 0)) (mi_k176.2 _ _ (by rfl)) (by rfl) (ksG145 _ _ _ _) (hGg22.I.2.1 145) rfl (tot131 c4 ktot0) (tot132 c12 fig10_7469.2) ?_
                exact ft_ret mi_k176 (by rfl) (hP ((ag22 145).getD x2.toNatClampNeg 0) _ _ _ _ hGg22 ⟨trivial, ⟨(show ag22 118 = a 118 from (by first | rfl | (simp only [q23, kg19.fa 139 rfl, q15, kg10.fa 118 rfl, sMn, sMx]; done) | (simp only [q23, kg19.fa 139 rfl, q15, kg10.fa 118 rfl, sMn, sMx]; rfl))), (rTop_go (rok (tot133 c4 z2.1 z2.2 z6.1 z6.2 ktot0 ktot2)) og7 (tot100 c9 ktot0) og10 ⟨fun h => absurd h (tot135 c12), fun _ => ⟨fun h => absurd h (tot136 c24 z6.1 ktot0), fun h => absurd h (tot137 c24 c25 z6.1 ktot0 ktot1), fun _ => ((congrArg (fun z : List Int32 => z.getD x2.toNatClampNeg 0) ((kg22.fa 145 rfl) : ag22 145 = ag19 145)).trans (gOp_at oG20.2 (tot131 c4 ktot0) (tot134 c12)).2.2)⟩⟩)⟩⟩)
              ·
                have c26 : x3.toInt = (1 : Int32).toInt := kd_neF c; clear c
                first | refine ft_goS mi_k176 3 93 [.int x2, .ref 144] (by rfl) ?_ | refine ft_go mi_k176 3 93 [(4, .int vg7), (0, .ref 116), (1, .int x1), (2, .int x2), (3, .int x3)] [.int x2, .ref 144] ig22 ag22 qg22 rg22 (by rfl) ?_
                refine ko_iald3 mi_k176.1 (n := 21) (c := 21) (ax := (0, 0, 0, 0, 0)) (mi_k176.2 _ _ (by rfl)) (by rfl) (ksG144 _ _ _ _) (hGg22.I.2.1 144) rfl (tot131 c4 ktot0) (tot132 c12 fig10_7469.2) ?_
                first | refine ft_goS mi_k176 1 103 [.int ((ag22 144).getD x2.toNatClampNeg 0)] (by rfl) ?_ | refine ft_go mi_k176 1 103 [(4, .int vg7), (0, .ref 116), (1, .int x1), (2, .int x2), (3, .int x3)] [.int ((ag22 144).getD x2.toNatClampNeg 0)] ig22 ag22 qg22 rg22 (by rfl) ?_
                exact ft_ret mi_k176 (by rfl) (hP ((ag22 144).getD x2.toNatClampNeg 0) _ _ _ _ hGg22 ⟨trivial, ⟨(show ag22 118 = a 118 from (by first | rfl | (simp only [q23, kg19.fa 139 rfl, q15, kg10.fa 118 rfl, sMn, sMx]; done) | (simp only [q23, kg19.fa 139 rfl, q15, kg10.fa 118 rfl, sMn, sMx]; rfl))), (rTop_go (rok (tot139 c26 c4 z2.1 z2.2 z6.2 ktot1 ktot0 ktot2)) og7 (tot100 c9 ktot0) og10 ⟨fun h => absurd h (tot135 c12), fun _ => ⟨fun h => absurd h (tot106 c26 ktot1), fun _ => ((congrArg (fun z : List Int32 => z.getD x2.toNatClampNeg 0) ((kg22.fa 144 rfl) : ag22 144 = ag19 144)).trans (gOp_at oG20.2 (tot131 c4 ktot0) (tot134 c12)).2.1), fun h => absurd h (tot108 c26 ktot1)⟩⟩)⟩⟩)
            ·
              have c27 : x3.toInt = (0 : Int32).toInt := kd_neF c; clear c
              first | refine ft_goS mi_k176 3 79 [.int x2, .ref 143] (by rfl) ?_ | refine ft_go mi_k176 3 79 [(4, .int vg7), (0, .ref 116), (1, .int x1), (2, .int x2), (3, .int x3)] [.int x2, .ref 143] ig22 ag22 qg22 rg22 (by rfl) ?_
              refine ko_iald3 mi_k176.1 (n := 21) (c := 21) (ax := (0, 0, 0, 0, 0)) (mi_k176.2 _ _ (by rfl)) (by rfl) (ksG143 _ _ _ _) (hGg22.I.2.1 143) rfl (tot131 c4 ktot0) (tot132 c12 fig10_7469.2) ?_
              first | refine ft_goS mi_k176 1 103 [.int ((ag22 143).getD x2.toNatClampNeg 0)] (by rfl) ?_ | refine ft_go mi_k176 1 103 [(4, .int vg7), (0, .ref 116), (1, .int x1), (2, .int x2), (3, .int x3)] [.int ((ag22 143).getD x2.toNatClampNeg 0)] ig22 ag22 qg22 rg22 (by rfl) ?_
              exact ft_ret mi_k176 (by rfl) (hP ((ag22 143).getD x2.toNatClampNeg 0) _ _ _ _ hGg22 ⟨trivial, ⟨(show ag22 118 = a 118 from (by first | rfl | (simp only [q23, kg19.fa 139 rfl, q15, kg10.fa 118 rfl, sMn, sMx]; done) | (simp only [q23, kg19.fa 139 rfl, q15, kg10.fa 118 rfl, sMn, sMx]; rfl))), (rTop_go (rok (tot133 c4 z2.1 z2.2 z6.1 z6.2 ktot0 ktot2)) og7 (tot100 c9 ktot0) og10 ⟨fun h => absurd h (tot135 c12), fun _ => ⟨fun _ => ((congrArg (fun z : List Int32 => z.getD x2.toNatClampNeg 0) ((kg22.fa 143 rfl) : ag22 143 = ag19 143)).trans (gOp_at oG20.2 (tot131 c4 ktot0) (tot134 c12)).1), fun h => absurd h (tot112 c27 ktot0), fun h => absurd h (tot113 c27 ktot0)⟩⟩)⟩⟩)
          ·
            have c28 : (ig10 7469).toInt ≤ x2.toInt := kd_ltF c; clear c
            first | refine ft_goS mi_k176 1 52 [.int (-2)] (by rfl) ?_ | refine ft_go mi_k176 1 52 [(4, .int vg7), (0, .ref 116), (1, .int x1), (2, .int x2), (3, .int x3)] [.int (-2)] ig10 ag10 qg10 rg10 (by rfl) ?_
            exact ft_ret mi_k176 (by rfl) (hP (-2) _ _ _ _ hGg10 ⟨trivial, ⟨(show ag10 118 = a 118 from (by first | rfl | (simp only [kg10.fa 118 rfl, sMn, sMx]; done) | (simp only [kg10.fa 118 rfl, sMn, sMx]; rfl))), (rTop_go (rok (tot133 c4 z2.1 z2.2 z6.1 z6.2 ktot0 ktot2)) og7 (tot100 c9 ktot0) og10 ⟨fun _ => rfl, fun h => absurd h (tot140 c28)⟩)⟩⟩)
        ·
          have c29 : vg7.toInt < (0 : Int32).toInt := kd_leF c; clear c
          first | refine ft_goS mi_k176 1 36 [.int vg7] (by rfl) ?_ | refine ft_go mi_k176 1 36 [(4, .int vg7), (0, .ref 116), (1, .int x1), (2, .int x2), (3, .int x3)] [.int vg7] i a q r (by rfl) ?_
          exact ft_ret mi_k176 (by rfl) (hP vg7 _ _ _ _ hG ⟨trivial, ⟨(show a 118 = a 118 from rfl), (rTop_bar (rok (tot133 c4 z2.1 z2.2 z6.1 z6.2 ktot0 ktot2)) og7 (tot116 c29 ktot0))⟩⟩)
      ·
        subst eg5
        have z30 : ¬ (((0 : Int32).toInt ≤ x3.toInt) ∧ (x3.toInt ≤ (2 : Int32).toInt)) := hg5
        first | refine ft_goS mi_k176 2 21 [.int (-1)] (by rfl) ?_ | refine ft_go mi_k176 2 21 [(0, .ref 116), (1, .int x1), (2, .int x2), (3, .int x3)] [.int (-1)] i a q r (by rfl) ?_
        exact ft_ret mi_k176 (by rfl) (hP (-1) _ _ _ _ hG ⟨trivial, ⟨(show a 118 = a 118 from rfl), (Or.inl ⟨(tot141 z30 ktot0 ktot2), rfl⟩)⟩⟩)
  ·
    subst eg1
    have z31 : ¬ (((0 : Int) ≤ x1.toInt) ∧ (x1.toInt ≤ 5)) := hg1
    first | refine ft_goS mi_k176 2 21 [.int (-1)] (by rfl) ?_ | refine ft_go mi_k176 2 21 [(0, .ref 116), (1, .int x1), (2, .int x2), (3, .int x3)] [.int (-1)] i a q r (by rfl) ?_
    exact ft_ret mi_k176 (by rfl) (hP (-1) _ _ _ _ hG ⟨trivial, ⟨(show a 118 = a 118 from rfl), (Or.inl ⟨(tot142 z31), rfl⟩)⟩⟩)
end
section
theorem ktou2 : (2 : Int32).toInt = 2 := by decide
theorem tou6 {a0 a1 : Int} (h0 : a0 ≤ a1) (h1 : (0 : Int) ≤ a0) (h2 : a1 = 0) : a0 = 0 := by omega
theorem tou18 {a0 : Int} (h0 : (0 : Int) ≤ a0) : (0 : Int) ≤ a0 := oz3 h0
theorem tou19 {a0 a1 : Int} (h0 : a0 ≤ 8) (h1 : a1 < a0) : a1 < 8 := oz974 h0 h1
theorem tou20 {a0 a1 : Int} (h0 : (0 : Int) ≤ a0) (h1 : a0 < a1) : ((0 : Int) ≤ a0) ∧ (a0 < a1) := oz967 h0 h1
theorem tou21 {a0 : Int} (h0 : a0 = 2) : (0 : Int) ≤ a0 := oz256 h0
theorem tou22 {a0 : Int} (h0 : a0 = 2) : a0 < 5 := oz549 h0
theorem tou23 {a0 a1 : Int} (h0 : ¬ (((0 : Int) ≤ a0) ∧ (a0 < a1))) : ¬ (((0 : Int) ≤ a0) ∧ (a0 < a1)) := oz968 h0
theorem tou24 {a0 a1 a2 : Int} (h0 : a0 = a1) (h1 : a1 = (-1)) : ¬ (((0 : Int) ≤ a0) ∧ (a0 < a2)) := by omega
theorem tou27 {a0 a1 : Int} (h0 : a0 = a1) (h1 : a1 = (-1)) : ¬ (a0 ≠ (-1)) := by omega
theorem tou29 {a0 a1 a2 : Int} (h0 : a0 = a1) (h1 : (0 : Int) ≤ a2) (h2 : a2 < a1) : ((0 : Int) ≤ a2) ∧ (a2 < a0) := by omega
theorem tou31 {a0 : Int} (h0 : (0 : Int) ≤ a0) : ¬ (a0 = (-1)) := by omega
theorem tou33 {a0 a1 a2 : Int} (h0 : a0 ≤ 8) (h1 : a0 = a1) (h2 : a2 < a1) : a2 < 8 := by omega
set_option maxRecDepth 100000 in
theorem ke62_49 {i : Nat → Int32} {a : Nat → List Int32} {q : Nat → List Int64} {r : Nat → Nat} (hI : kI i a q) (hr : kr r) (x1 : Int32) : km 3 62 [.ref 49, .int x1] (ks i a q r) (kPI (ks i a q r) (fun v => (True) ∧ ((((0 : Int) ≤ x1.toInt) ∧ (x1.toInt < (i 3200).toInt) → v = (a 51).getD x1.toNatClampNeg 0) ∧ (¬ (((0 : Int) ≤ x1.toInt) ∧ (x1.toInt < (i 3200).toInt)) → v = (a 63).getD (2 : Int32).toNatClampNeg 0)))) := by
  have hG := kG_self kW0 hI hr
  refine km_ofPI (q := (mi_h62, mi_c62)) rfl (by decide) (Nat.le_of_ble_eq_true rfl) ?_
  intro P hP
  first | refine fo_goL mi_k62 fz62_0_3_5 [(0, .ref 49), (1, .int x1)] [.int x1, .ref 50] (by rfl) ?_ | refine ft_go mi_k62 3 5 [(0, .ref 49), (1, .int x1)] [.int x1, .ref 50] i a q r (by rfl) ?_
  refine ko_callPI mi_k62.1 (pc := 5) (ls := [(0, .ref 49), (1, .int x1)]) (st := [.int x1, .ref 50]) (h := ks i a q r) (i := (.invokevirtual 75, 3, 24, 0, 9, 0, 234)) (mi_k62.2 _ _ (by rfl)) (ft_invS mi_pq24 (by rfl)) (cy := mi_c24) mi_pq24 rfl (kc24_50 hG.I hG.R x1) (by decide) ?_
  intro vg1 hg1
  rcases hg1 with ⟨eg1, hg1⟩ | ⟨eg1, hg1⟩
  ·
    subst eg1
    have fi_3200 : ((0 : Int) ≤ (i 3200).toInt) ∧ ((i 3200).toInt ≤ 8) := hG.I.1 3200
    have z2 : ((0 : Int) ≤ x1.toInt) ∧ (x1.toInt < (i 3200).toInt) := hg1
    first | refine fo_goS mi_k62 fz62_8_5_19 [.int x1, .ref 51] (by rfl) ?_ | refine ft_go mi_k62 5 19 [(0, .ref 49), (1, .int x1)] [.int x1, .ref 51] i a q r (by rfl) ?_
    refine ko_iald3 mi_k62.1 (n := 8) (c := 8) (ax := (0, 0, 0, 0, 0)) (mi_k62.2 _ _ (by rfl)) (by rfl) (ksG51 _ _ _ _) (hG.I.2.1 51) rfl (tou18 z2.1) (tou19 fi_3200.2 z2.2) ?_
    first | refine ft_goS mi_k62 1 32 [.int ((a 51).getD x1.toNatClampNeg 0)] (by rfl) ?_ | refine ft_go mi_k62 1 32 [(0, .ref 49), (1, .int x1)] [.int ((a 51).getD x1.toNatClampNeg 0)] i a q r (by rfl) ?_
    exact ft_ret mi_k62 (by rfl) (hP ((a 51).getD x1.toNatClampNeg 0) ⟨trivial, ⟨(fun _ => (show ((a 51).getD x1.toNatClampNeg 0) = (a 51).getD x1.toNatClampNeg 0 from (by first | rfl | (simp only [sMn, sMx]; done) | (simp only [sMn, sMx]; rfl)))), (fun h => absurd (tou20 z2.1 z2.2) h)⟩⟩)
  ·
    subst eg1
    have z3 : ¬ (((0 : Int) ≤ x1.toInt) ∧ (x1.toInt < (i 3200).toInt)) := hg1
    first | refine fo_goS mi_k62 fz62_8_5_31 [.int 2, .ref 63] (by rfl) ?_ | refine ft_go mi_k62 5 31 [(0, .ref 49), (1, .int x1)] [.int 2, .ref 63] i a q r (by rfl) ?_
    refine ko_iald3 mi_k62.1 (n := 5) (c := 5) (ax := (0, 0, 0, 0, 0)) (mi_k62.2 _ _ (by rfl)) (by rfl) (ksG63 _ _ _ _) (hG.I.2.1 63) rfl (tou21 ktou2) (tou22 ktou2) ?_
    exact ft_ret mi_k62 (by rfl) (hP ((a 63).getD (2 : Int32).toNatClampNeg 0) ⟨trivial, ⟨(fun h => absurd h (tou23 z3)), (fun _ => (show ((a 63).getD (2 : Int32).toNatClampNeg 0) = (a 63).getD (2 : Int32).toNatClampNeg 0 from (by first | rfl | (simp only [sMn, sMx]; done) | (simp only [sMn, sMx]; rfl))))⟩⟩)
end
section
theorem ktop8 : (8 : Int32).toInt = 8 := by decide
theorem ktop0 : (0 : Int32).toInt = 0 := by decide
theorem ktop1 : (1 : Int32).toInt = 1 := by decide
theorem ktop10 : (10 : Int32).toInt = 10 := by decide
theorem ktopm1 : ((-1) : Int32).toInt = (-1) := by decide
theorem ktop20 : (20 : Int32).toInt = 20 := by decide
theorem top0 {a0 : Int} (h0 : (0 : Int) ≤ a0) (h1 : a0 ≤ 5) : ((0 : Int) ≤ a0) ∧ (a0 ≤ 5) := oz35 h0 h1
theorem top1 {a0 a1 : Int} (h0 : a0 ≤ a1) (h1 : a1 ≤ a0) : a1 = a0 := oy46 h0 h1
theorem top2 {a0 a1 : Int} (h0 : a0 ≠ a1) (h1 : a0 = a1) (h2 : a1 = (-1)) : False := oz390 h0 h1 h2
theorem top3 {a0 : Int} (h0 : a0 = 0) : a0 = 0 := oz236 h0
theorem top4 {a0 a1 a2 a3 a4 a5 a6 : Int} (h0 : a0 = a1) (h1 : (0 : Int) ≤ a2) (h2 : a2 ≤ 5) (h3 : a3 ≤ a4) (h4 : a4 ≤ a5) (h5 : a1 = (-1)) (h6 : a3 = 0) (h7 : a5 = 20) : (((0 : Int) ≤ a4) ∧ (a4 ≤ 20) ∧ ((a0 = (-1)) ∨ (((0 : Int) ≤ a0) ∧ (a0 < a6)))) ∧ ((0 : Int) ≤ a2) ∧ (a2 ≤ 5) := by omega
theorem top5 {a0 a1 : Int} (h0 : a0 ≤ a1) (h1 : a0 = 0) : ¬ (a1 < 0) := oy47 h0 h1
theorem top7 {a0 a1 : Int} (h0 : a0 = a1) (h1 : a1 = (-1)) : ¬ (a0 ≠ (-1)) := tou27 h0 h1
theorem top8 {a0 a1 : Int} (h0 : (0 : Int) ≤ a0) (h1 : a1 = 1) : (-2147483648 : Int) ≤ a0 + a1 := oz12 h0 h1
theorem top9 {a0 a1 a2 : Int} (h0 : a0 ≤ a1) (h1 : a1 = 0) (h2 : a2 = 1) : a0 + a2 ≤ 2147483647 := oz391 h0 h1 h2
theorem top10 {a0 a1 a2 : Int} (h0 : (0 : Int) ≤ a0) (h1 : a1 = a0 + a2) (h2 : a2 = 1) : (0 : Int) ≤ a1 := oz14 h0 h1 h2
theorem top11 {a0 a1 a2 a3 : Int} (h0 : a0 < a1) (h1 : a2 = a0 + a3) (h2 : a3 = 1) : a2 ≤ a1 := og20 h0 h1 h2
theorem top12 {a0 a1 a2 : Int} (h0 : a0 = a1 + a2) (h1 : a2 = 1) : a0 = a1 + 1 := oz169 h0 h1
theorem top13 {a0 a1 : Int} (h0 : a0 ≤ a1) (h1 : (0 : Int) ≤ a0) (h2 : a1 = 0) : a0 = 0 := tou6 h0 h1 h2
theorem top14 {a0 a1 a2 a3 : Int} (h0 : a0 = a1 + a2) (h1 : a2 = 1) : (a3 - a0) < (a3 - a1) := oz44 h0 h1
theorem top15 {a0 a1 : Int} (h0 : a0 < a1) : (1 : Int) ≤ (a1 - a0) := oz45 h0
theorem top32 {a0 a1 a2 : Int} (h0 : a0 < a1) (h1 : a0 = 0) (h2 : a2 = 1) : (-2147483648 : Int) ≤ a1 + a2 := oz402 h0 h1 h2
theorem top33 {a0 a1 a2 a3 : Int} (h0 : a0 < a1) (h1 : a1 ≤ a2) (h2 : a2 = 20) (h3 : a3 = 1) : a0 + a3 ≤ 2147483647 := oz403 h0 h1 h2 h3
theorem top34 {a0 a1 a2 a3 : Int} (h0 : a0 < a1) (h1 : a2 = a1 + a3) (h2 : a0 = 0) (h3 : a3 = 1) : (0 : Int) ≤ a2 := oz404 h0 h1 h2 h3
theorem top35 {a0 a1 : Int} (h0 : a0 < a1) (h1 : a0 = 0) : (1 : Int) ≤ a1 := oz659 h0 h1
theorem top36 {a0 : Int} (h0 : a0 = 0) : (0 : Int) ≤ a0 := oz46 h0
theorem top37 {a0 a1 : Int} (h0 : a0 ≤ a1) (h1 : a0 = 0) : a0 ≤ a1 := by omega
theorem top38 {a0 a1 : Int} (h0 : a0 < a1) (h1 : a1 = 0) : a0 < 0 := oz1670 h0 h1
theorem top39 {a0 : Int} (h0 : (0 : Int) ≤ a0) : (0 : Int) ≤ a0 := oz3 h0
theorem top40 {a0 a1 : Int} (h0 : a0 ≤ 8) (h1 : a1 < a0) : a1 < 31 := oz385 h0 h1
theorem top41 {a0 a1 a2 a3 a4 a5 : Int} (h0 : (0 : Int) ≤ a0) (h1 : a0 ≤ 5) (h2 : a1 ≤ a2) (h3 : a2 ≤ a3) (h4 : (0 : Int) ≤ a4) (h5 : a4 < a5) (h6 : a1 = 0) (h7 : a3 = 20) : (((0 : Int) ≤ a2) ∧ (a2 ≤ 20) ∧ ((a4 = (-1)) ∨ (((0 : Int) ≤ a4) ∧ (a4 < a5)))) ∧ ((0 : Int) ≤ a0) ∧ (a0 ≤ 5) := by omega
theorem top42 {a0 : Int} (h0 : (0 : Int) ≤ a0) : ¬ (a0 = (-1)) := tou31 h0
theorem top44 {a0 a1 : Int} (h0 : a0 = a1) (h1 : (0 : Int) ≤ a0) (h2 : a1 = (-1)) : False := oz405 h0 h1 h2
theorem top45 {a0 a1 a2 a3 a4 : Int} (h0 : a0 ≠ a1) (h1 : ¬ (((0 : Int) ≤ a0) ∧ (a0 < a2))) (h2 : a1 = (-1)) : ¬ ((((0 : Int) ≤ a3) ∧ (a3 ≤ 20) ∧ ((a0 = (-1)) ∨ (((0 : Int) ≤ a0) ∧ (a0 < a2)))) ∧ ((0 : Int) ≤ a4) ∧ (a4 ≤ 5)) := by omega
theorem top46 {a0 a1 a2 a3 a4 a5 : Int} (h0 : ¬ ((a0 ≤ a1) ∧ (a1 ≤ a2))) (h1 : a0 = 0) (h2 : a2 = 20) : ¬ ((((0 : Int) ≤ a1) ∧ (a1 ≤ 20) ∧ ((a3 = (-1)) ∨ (((0 : Int) ≤ a3) ∧ (a3 < a4)))) ∧ ((0 : Int) ≤ a5) ∧ (a5 ≤ 5)) := by omega
theorem top47 {a0 a1 a2 a3 : Int} (h0 : ¬ (((0 : Int) ≤ a0) ∧ (a0 ≤ 5))) : ¬ ((((0 : Int) ≤ a1) ∧ (a1 ≤ 20) ∧ ((a2 = (-1)) ∨ (((0 : Int) ≤ a2) ∧ (a2 < a3)))) ∧ ((0 : Int) ≤ a0) ∧ (a0 ≤ 5)) := by omega
theorem top54 {a0 : Int} (h0 : a0 ≤ 7) : a0 < 31 := oz65 h0
theorem top55 {a0 : Int} (h0 : a0 = 0) : ((0 : Int) ≤ a0) ∧ (a0 ≤ 7) := oz463 h0
theorem top56 {a0 a1 : Int} (h0 : a0 = (a1 / 10)) (h1 : (0 : Int) ≤ a1) : (-2147483648 : Int) ≤ 8 * a0 := oz464 h0 h1
theorem top57 {a0 a1 a2 : Int} (h0 : a0 ≤ 8) (h1 : a1 = (a2 / 10)) (h2 : (a2 / 10) < a0) (h3 : (a2 % 10) < a0) (h4 : (a2 / 10) ≠ (a2 % 10)) : 8 * a1 ≤ 2147483647 := oz465 h0 h1 h2 h3 h4
theorem top58 {a0 a1 a2 a3 : Int} (h0 : a0 = (a1 / 10)) (h1 : a2 = 8 * a0) (h2 : a3 = (a1 % 10)) (h3 : (0 : Int) ≤ a1) : (-2147483648 : Int) ≤ a2 + a3 := oz466 h0 h1 h2 h3
theorem top59 {a0 a1 a2 a3 a4 : Int} (h0 : a0 ≤ 8) (h1 : a1 = (a2 / 10)) (h2 : a3 = 8 * a1) (h3 : a4 = (a2 % 10)) (h4 : (a2 / 10) < a0) (h5 : (a2 % 10) < a0) (h6 : (a2 / 10) ≠ (a2 % 10)) : a3 + a4 ≤ 2147483647 := oz467 h0 h1 h2 h3 h4 h5 h6
theorem top60 {a0 a1 a2 a3 a4 : Int} (h0 : a0 = (a1 / 10)) (h1 : a2 = 8 * a0) (h2 : a3 = (a1 % 10)) (h3 : a4 = a2 + a3) (h4 : (0 : Int) ≤ a1) : (0 : Int) ≤ a4 := oz468 h0 h1 h2 h3 h4
theorem top61 {a0 a1 a2 a3 a4 a5 : Int} (h0 : a0 ≤ 8) (h1 : a1 = (a2 / 10)) (h2 : a3 = 8 * a1) (h3 : a4 = (a2 % 10)) (h4 : a5 = a3 + a4) (h5 : (a2 / 10) < a0) (h6 : (a2 % 10) < a0) (h7 : (a2 / 10) ≠ (a2 % 10)) : a5 < 64 := oz469 h0 h1 h2 h3 h4 h5 h6 h7
theorem top62 {a0 a1 a2 : Int} (h0 : (0 : Int) ≤ a0) (h1 : a0 ≤ 5) (h2 : (0 : Int) ≤ a1) (h3 : (a1 / 10) < a2) (h4 : (a1 % 10) < a2) (h5 : (a1 / 10) ≠ (a1 % 10)) : (((0 : Int) ≤ a1) ∧ ((a1 / 10) < a2) ∧ ((a1 % 10) < a2) ∧ ((a1 / 10) ≠ (a1 % 10))) ∧ ((0 : Int) ≤ a0) ∧ (a0 ≤ 5) := by omega
theorem top63 {a0 a1 a2 : Int} (h0 : ¬ (((0 : Int) ≤ a0) ∧ (((a0 / 10) < a1) ∧ ((a0 % 10) < a1)) ∧ ((a0 / 10) ≠ (a0 % 10)))) : ¬ ((((0 : Int) ≤ a0) ∧ ((a0 / 10) < a1) ∧ ((a0 % 10) < a1) ∧ ((a0 / 10) ≠ (a0 % 10))) ∧ ((0 : Int) ≤ a2) ∧ (a2 ≤ 5)) := by omega
theorem top64 {a0 a1 a2 : Int} (h0 : ¬ (((0 : Int) ≤ a0) ∧ (a0 ≤ 5))) : ¬ ((((0 : Int) ≤ a1) ∧ ((a1 / 10) < a2) ∧ ((a1 % 10) < a2) ∧ ((a1 / 10) ≠ (a1 % 10))) ∧ ((0 : Int) ≤ a0) ∧ (a0 ≤ 5)) := by omega
def yzw177_116 : kW := ([7464, 7465, 7466, 7467, 7469], [118, 128, 129, 139, 141, 142, 143, 144, 145], [], [])
def yzw177_116_L59 : kW := ([7464, 7465, 7466, 7467], [118, 128, 129, 141, 143, 144, 145], [], [])
set_option maxRecDepth 100000 in
theorem kz177_116 {i : Nat → Int32} {a : Nat → List Int32} {q : Nat → List Int64} {r : Nat → Nat} (hI : kI i a q) (hr : kr r) (x1 : Int32) (x2 : Int32) (x3 : Int32) (hE_code : kCode i a) : km 13 177 [.ref 116, .int x1, .int x2, .int x3] (ks i a q r) (kVI yzw177_116 i a q r (fun v i1 a1 q1 r1 => (True) ∧ (a1 118 = a 118 ∧ rTop (((0 : Int) ≤ x2.toInt) ∧ (x2.toInt ≤ 20) ∧ ((x3.toInt = (-1)) ∨ (((0 : Int) ≤ x3.toInt) ∧ (x3.toInt < (i 7424).toInt)))) i a q x1 v (fun n L => fLa (gKn i a) (gR i a) x2 x3 v n L)))) := by
  have hG := kG_self yzw177_116 hI hr
  refine km_ofI (q := (mi_h177, mi_c177)) rfl (by decide) (Nat.le_of_ble_eq_true rfl) ?_
  intro P hP
  first | refine ft_goL mi_k177 1 1 [(0, .ref 116), (1, .int x1), (2, .int x2), (3, .int x3)] [.int x1] (by rfl) ?_ | refine ft_go mi_k177 1 1 [(0, .ref 116), (1, .int x1), (2, .int x2), (3, .int x3)] [.int x1] i a q r (by rfl) ?_
  refine ko_callPI mi_k177.1 (pc := 1) (ls := [(0, .ref 116), (1, .int x1), (2, .int x2), (3, .int x3)]) (st := [.int x1]) (h := ks i a q r) (i := (.invokestatic 127, 3, 133, 0, 9, 0, 382)) (mi_k177.2 _ _ (by rfl)) (ft_invS mi_pq133 (by rfl)) (cy := mi_c133) mi_pq133 rfl (kc133 hG.I hG.R x1) (by decide) ?_
  intro vg1 hg1
  rcases hg1 with ⟨eg1, hg1⟩ | ⟨eg1, hg1⟩
  ·
    subst eg1
    have z2 : ((0 : Int) ≤ x1.toInt) ∧ (x1.toInt ≤ 5) := hg1
    first | refine ft_goS mi_k177 4 11 [.int 20, .int 0, .int x2] (by rfl) ?_ | refine ft_go mi_k177 4 11 [(0, .ref 116), (1, .int x1), (2, .int x2), (3, .int x3)] [.int 20, .int 0, .int x2] i a q r (by rfl) ?_
    refine ko_callPI mi_k177.1 (pc := 11) (ls := [(0, .ref 116), (1, .int x1), (2, .int x2), (3, .int x3)]) (st := [.int 20, .int 0, .int x2]) (h := ks i a q r) (i := (.invokestatic 119, 3, 131, 0, 9, 0, 379)) (mi_k177.2 _ _ (by rfl)) (ft_invS mi_pq131 (by rfl)) (cy := mi_c131) mi_pq131 rfl (kc131 hG.I hG.R x2 0 20) (by decide) ?_
    intro vg3 hg3
    rcases hg3 with ⟨eg3, hg3⟩ | ⟨eg3, hg3⟩
    ·
      subst eg3
      have z4 : ((0 : Int32).toInt ≤ x2.toInt) ∧ (x2.toInt ≤ (20 : Int32).toInt) := hg3
      first | refine ft_goS mi_k177 3 19 [.int (-1), .int x3] (by rfl) ?_ | refine ft_go mi_k177 3 19 [(0, .ref 116), (1, .int x1), (2, .int x2), (3, .int x3)] [.int (-1), .int x3] i a q r (by rfl) ?_
      refine ft_ifS mi_k177 (x3 == (-1)) 32 22 [] (by rfl) (fun c => ?_) (fun c => ?_)
      ·
        have c5 : x3.toInt = ((-1) : Int32).toInt := kd_eq c; clear c
        first | refine ft_goS mi_k177 2 34 [.int x1, .ref 116] (by rfl) ?_ | refine ft_go mi_k177 2 34 [(0, .ref 116), (1, .int x1), (2, .int x2), (3, .int x3)] [.int x1, .ref 116] i a q r (by rfl) ?_
        refine ko_callPI mi_k177.1 (pc := 34) (ls := [(0, .ref 116), (1, .int x1), (2, .int x2), (3, .int x3)]) (st := [.int x1, .ref 116]) (h := ks i a q r) (i := (.invokevirtual 276, 3, 173, 0, 9, 0, 410)) (mi_k177.2 _ _ (by rfl)) (ft_invS mi_pq173 (by rfl)) (cy := mi_c173) mi_pq173 rfl (kg173_116 hG.I hG.R x1 (top0 z2.1 z2.2)) (by decide) ?_
        intro vg6 hg6
        obtain ⟨hg6, og6⟩ := hg6
        first | refine ft_goL mi_k177 2 41 [(4, .int vg6), (0, .ref 116), (1, .int x1), (2, .int x2), (3, .int x3)] [.int vg6] (by rfl) ?_ | refine ft_go mi_k177 2 41 [(4, .int vg6), (0, .ref 116), (1, .int x1), (2, .int x2), (3, .int x3)] [.int vg6] i a q r (by rfl) ?_
        refine ft_ifS mi_k177 (decide (0 ≤ vg6)) 47 44 [] (by rfl) (fun c => ?_) (fun c => ?_)
        ·
          have c8 : (0 : Int32).toInt ≤ vg6.toInt := kd_le c; clear c
          first | refine ft_goS mi_k177 2 49 [.int x1, .ref 116] (by rfl) ?_ | refine ft_go mi_k177 2 49 [(4, .int vg6), (0, .ref 116), (1, .int x1), (2, .int x2), (3, .int x3)] [.int x1, .ref 116] i a q r (by rfl) ?_
          refine ko_callN mi_k177.1 (pc := 49) (ls := [(4, .int vg6), (0, .ref 116), (1, .int x1), (2, .int x2), (3, .int x3)]) (st := [.int x1, .ref 116]) (h := ks i a q r) (i := (.invokevirtual 279, 3, 174, 0, 9, 0, 411)) (mi_k177.2 _ _ (by rfl)) (ft_invS mi_pq174 (by rfl)) (cy := mi_c174) mi_pq174 rfl (kg174_116 hG.I hG.R x1 (top0 z2.1 z2.2)) (by decide) ?_
          intro ig9 ag9 qg9 rg9 kg9 hg9
          have hGg9 := kG_call hG kg9 (by decide +kernel)
          obtain ⟨hg9, og9⟩ := hg9
          first | refine ft_goS mi_k177 1 53 [.ref 116] (by rfl) ?_ | refine ft_go mi_k177 1 53 [(4, .int vg6), (0, .ref 116), (1, .int x1), (2, .int x2), (3, .int x3)] [.ref 116] ig9 ag9 qg9 rg9 (by rfl) ?_
          refine ko_callN mi_k177.1 (pc := 53) (ls := [(4, .int vg6), (0, .ref 116), (1, .int x1), (2, .int x2), (3, .int x3)]) (st := [.ref 116]) (h := ks ig9 ag9 qg9 rg9) (i := (.invokevirtual 267, 3, 171, 0, 9, 0, 412)) (mi_k177.2 _ _ (by rfl)) (ft_invS mi_pq171 (by rfl)) (cy := mi_c171) mi_pq171 rfl (kg171_116 hGg9.I hGg9.R ) (by decide) ?_
          intro ig11 ag11 qg11 rg11 kg11 hg11
          have hGg11 := kG_call hGg9 kg11 (by decide +kernel)
          obtain ⟨hg11, og11⟩ := hg11
          have tG12 : gT ig11 ag11 = gR i a := (gT_R (og11.2.1.trans (kg9.fa 118 rfl)) ((kg11.fi 7464 rfl).trans (kg9.fi 7464 rfl)) ((kg11.fi 7465 rfl).trans (kg9.fi 7465 rfl)) ((kg11.fi 7466 rfl).trans (kg9.fi 7466 rfl)) og11.2.2.1 og11.2.2.2)
          have q13 : ag11 139 = ag9 118 := og11.1
          have q14 : ag11 118 = ag9 118 := og11.2.1
          have q15 : ig11 7467 = 0 := og11.2.2.1
          have q16 : ag11 141 = List.replicate 64 0 := og11.2.2.2
          first | refine fo_goL mi_k177 fz177_56_2_59 [(5, .int 0), (4, .int vg6), (0, .ref 116), (1, .int x1), (2, .int x2), (3, .int x3)] [] (by rfl) ?_ | refine fo_goL mi_k177 fz177_78_2_59 [(5, .int 0), (4, .int vg6), (0, .ref 116), (1, .int x1), (2, .int x2), (3, .int x3)] [] (by rfl) ?_ | refine ft_go mi_k177 2 59 [(5, .int 0), (4, .int vg6), (0, .ref 116), (1, .int x1), (2, .int x2), (3, .int x3)] [] ig11 ag11 qg11 rg11 (by rfl) ?_
          have lp17 : ∀ (nz : Nat) (i17 : Nat → Int32) (a17 : Nat → List Int32) (q17 : Nat → List Int64) (r17 : Nat → Nat) (l5_17 : Int32), kG yzw177_116_L59 ig11 ag11 qg11 rg11 i17 a17 q17 r17 → (0 : Int) ≤ l5_17.toInt → l5_17.toInt ≤ x2.toInt → gT i17 a17 = gDay (gKn i a) (ag9 142) (ig9 7469).toInt.toNat (gR i a) l5_17.toInt.toNat → ((x2.toInt - l5_17.toInt)).toNat < nz → ko 13 (mi_h177, mi_c177) P (59, [(5, .int l5_17), (4, .int vg6), (0, .ref 116), (1, .int x1), (2, .int x2), (3, .int x3)], [], (0, 0), ks i17 a17 q17 r17) := by
            intro nz
            induction nz with
            | zero =>
              intro _ _ _ _ _ _ _ _ _ hm
              exact absurd hm (Nat.not_lt_zero _)
            | succ nz ih17 =>
              intro i17 a17 q17 r17 l5_17 hL17 p17_0 p17_1 O17_0 hm17
              first | refine ft_goL mi_k177 2 62 [(5, .int l5_17), (4, .int vg6), (0, .ref 116), (1, .int x1), (2, .int x2), (3, .int x3)] [.int x2, .int l5_17] (by rfl) ?_ | refine ft_go mi_k177 2 62 [(5, .int l5_17), (4, .int vg6), (0, .ref 116), (1, .int x1), (2, .int x2), (3, .int x3)] [.int x2, .int l5_17] i17 a17 q17 r17 (by rfl) ?_
              refine ft_ifS mi_k177 (decide (x2 ≤ l5_17)) 84 65 [] (by rfl) (fun c => ?_) (fun c => ?_)
              ·
                have c18 : x2.toInt ≤ l5_17.toInt := kd_le c; clear c
                have hG19 := kG_call hGg11 hL17 (by decide +kernel)
                have tG20 : gT i17 a17 = gDay (gKn i a) (ag9 142) (ig9 7469).toInt.toNat (gR i a) x2.toInt.toNat := (gT_c O17_0 (gDay_len (top1 c18 p17_1)))
                first | refine ft_goS mi_k177 2 86 [.int (-1), .int x3] (by rfl) ?_ | refine ft_go mi_k177 2 86 [(5, .int l5_17), (4, .int vg6), (0, .ref 116), (1, .int x1), (2, .int x2), (3, .int x3)] [.int (-1), .int x3] i17 a17 q17 r17 (by rfl) ?_
                refine ft_ifS mi_k177 (x3 != (-1)) 96 89 [] (by rfl) (fun c => ?_) (fun c => ?_)
                ·
                  have c21 : x3.toInt ≠ ((-1) : Int32).toInt := kd_ne c; clear c
                  exact (top2 c21 c5 ktopm1).elim
                ·
                  have c22 : x3.toInt = ((-1) : Int32).toInt := kd_neF c; clear c
                  first | refine fo_goL mi_k177 fz177_89_8_110 [(5, .int (i17 7467)), (4, .int vg6), (0, .ref 116), (1, .int x1), (2, .int x2), (3, .int x3)] [.int 0, .ref 139, .ref 116] (by rfl) ?_ | refine ft_goL mi_k177 8 110 [(5, .int (i17 7467)), (4, .int vg6), (0, .ref 116), (1, .int x1), (2, .int x2), (3, .int x3)] [.int 0, .ref 139, .ref 116] (by rfl) ?_ | refine ft_go mi_k177 8 110 [(5, .int (i17 7467)), (4, .int vg6), (0, .ref 116), (1, .int x1), (2, .int x2), (3, .int x3)] [.int 0, .ref 139, .ref 116] i17 a17 q17 r17 (by rfl) ?_
                  refine ko_callN mi_k177.1 (pc := 110) (ls := [(5, .int (i17 7467)), (4, .int vg6), (0, .ref 116), (1, .int x1), (2, .int x2), (3, .int x3)]) (st := [.int 0, .ref 139, .ref 116]) (h := ks i17 a17 q17 r17) (i := (.invokevirtual 273, 3, 169, 0, 9, 0, 423)) (mi_k177.2 _ _ (by rfl)) (ft_invS mi_pq169 (by rfl)) (cy := mi_c169) mi_pq169 rfl (ke169_116_139 hG19.I hG19.R 0 (top3 ktop0)) (by decide) ?_
                  intro ig23 ag23 qg23 rg23 kg23 hg23
                  have hGg23 := kG_call hG19 kg23 (by decide +kernel)
                  obtain ⟨hg23, og23⟩ := hg23
                  have q24 : ag23 118 = a17 139 := og23
                  first | refine ft_goS mi_k177 1 115 [.int (i17 7467)] (by rfl) ?_ | refine ft_go mi_k177 1 115 [(5, .int (i17 7467)), (4, .int vg6), (0, .ref 116), (1, .int x1), (2, .int x2), (3, .int x3)] [.int (i17 7467)] ig23 ag23 qg23 rg23 (by rfl) ?_
                  exact ft_ret mi_k177 (by rfl) (hP (i17 7467) _ _ _ _ hGg23 ⟨trivial, ⟨(show ag23 118 = a 118 from (by first | rfl | (simp only [q24, hL17.fa 139 rfl, q13, kg9.fa 118 rfl, sMn, sMx]; done) | (simp only [q24, hL17.fa 139 rfl, q13, kg9.fa 118 rfl, sMn, sMx]; rfl))), (rTop_go (rok (top4 c5 z2.1 z2.2 z4.1 z4.2 ktopm1 ktop0 ktop20)) og6 (top5 c8 ktop0) og9 ⟨fun _ => gT_la tG20, fun h => absurd h (top7 c5 ktopm1)⟩)⟩⟩)
              ·
                have c25 : l5_17.toInt < x2.toInt := kd_leF c; clear c
                first | refine ft_goS mi_k177 1 67 [.int l5_17] (by rfl) ?_ | refine ft_go mi_k177 1 67 [(5, .int l5_17), (4, .int vg6), (0, .ref 116), (1, .int x1), (2, .int x2), (3, .int x3)] [.int l5_17] i17 a17 q17 r17 (by rfl) ?_
                refine ft_ifS mi_k177 (decide (l5_17 ≤ 0)) 74 70 [] (by rfl) (fun c => ?_) (fun c => ?_)
                ·
                  have c26 : l5_17.toInt ≤ (0 : Int32).toInt := kd_le c; clear c
                  first | refine ft_goS mi_k177 1 75 [.ref 116] (by rfl) ?_ | refine ft_go mi_k177 1 75 [(5, .int l5_17), (4, .int vg6), (0, .ref 116), (1, .int x1), (2, .int x2), (3, .int x3)] [.ref 116] i17 a17 q17 r17 (by rfl) ?_
                  have hG27 := kG_call hGg11 hL17 (by decide +kernel)
                  refine ko_callN mi_k177.1 (pc := 75) (ls := [(5, .int l5_17), (4, .int vg6), (0, .ref 116), (1, .int x1), (2, .int x2), (3, .int x3)]) (st := [.ref 116]) (h := ks i17 a17 q17 r17) (i := (.invokevirtual 270, 3, 170, 0, 9, 0, 414)) (mi_k177.2 _ _ (by rfl)) (ft_invS mi_pq170 (by rfl)) (cy := mi_c170) mi_pq170 rfl (kg170_116 hL17.I hL17.R (kCode_of (i1 := i17) hE_code (hG27.fi 7432 rfl) (hG27.fa 120 rfl) (hG27.fa 121 rfl) (hG27.fa 122 rfl) (hG27.fa 123 rfl))) (by decide) ?_
                  intro ig28 ag28 qg28 rg28 kg28 hg28
                  have hGg28 := kG_call hL17 kg28 (by decide +kernel)
                  obtain ⟨hg28, og28⟩ := hg28
                  have oG29 := og28
                  have hG30 := kG_call hGg11 hL17 (by decide +kernel)
                  rw [(gKn_fr hG30 (by decide +kernel) : gKn i17 a17 = gKn i a), (O17_0 : gT i17 a17 = gDay (gKn i a) (ag9 142) (ig9 7469).toInt.toNat (gR i a) l5_17.toInt.toNat)] at oG29
                  rw [(((hL17.fa 142 rfl).trans (kg11.fa 142 rfl)) : a17 142 = ag9 142), (((hL17.fi 7469 rfl).trans (kg11.fi 7469 rfl)) : i17 7469 = ig9 7469)] at oG29
                  have tG31 : gT ig28 ag28 = gAt (gKn i a) (ag9 142) (gDay (gKn i a) (ag9 142) (ig9 7469).toInt.toNat (gR i a) l5_17.toInt.toNat) (ig9 7469).toInt.toNat := oG29.1
                  have s32 : (l5_17 + 1).toInt = l5_17.toInt + (1 : Int32).toInt := kd_add (top8 p17_0 ktop1) (top9 c26 ktop0 ktop1)
                  first | refine fo_goL mi_k177 fz177_56_2_59 [(5, .int (l5_17 + 1)), (4, .int vg6), (0, .ref 116), (1, .int x1), (2, .int x2), (3, .int x3)] [] (by rfl) ?_ | refine fo_goL mi_k177 fz177_78_2_59 [(5, .int (l5_17 + 1)), (4, .int vg6), (0, .ref 116), (1, .int x1), (2, .int x2), (3, .int x3)] [] (by rfl) ?_ | refine ft_go mi_k177 2 59 [(5, .int (l5_17 + 1)), (4, .int vg6), (0, .ref 116), (1, .int x1), (2, .int x2), (3, .int x3)] [] ig28 ag28 qg28 rg28 (by rfl) ?_
                  exact ih17 _ _ _ _ _ hGg28 (top10 p17_0 s32 ktop1) (top11 c25 s32 ktop1) (gT_c tG31 (gDay_one rfl (top13 c26 p17_0 ktop0) (top12 s32 ktop1)).symm) (kj_meas (top14 s32 ktop1) (top15 c25) hm17)
                ·
                  have c33 : (0 : Int32).toInt < l5_17.toInt := kd_leF c; clear c
                  first | refine ft_goS mi_k177 1 71 [.ref 116] (by rfl) ?_ | refine ft_go mi_k177 1 71 [(5, .int l5_17), (4, .int vg6), (0, .ref 116), (1, .int x1), (2, .int x2), (3, .int x3)] [.ref 116] i17 a17 q17 r17 (by rfl) ?_
                  refine ko_callN mi_k177.1 (pc := 71) (ls := [(5, .int l5_17), (4, .int vg6), (0, .ref 116), (1, .int x1), (2, .int x2), (3, .int x3)]) (st := [.ref 116]) (h := ks i17 a17 q17 r17) (i := (.invokevirtual 282, 3, 167, 0, 9, 0, 426)) (mi_k177.2 _ _ (by rfl)) (ft_invS mi_pq167 (by rfl)) (cy := mi_c167) mi_pq167 rfl (ke167_116 hL17.I hL17.R ) (by decide) ?_
                  intro ig34 ag34 qg34 rg34 kg34 hg34
                  have hGg34 := kG_call hL17 kg34 (by decide +kernel)
                  obtain ⟨hg34, og34⟩ := hg34
                  have tG35 : gT ig34 ag34 = gEve (gDay (gKn i a) (ag9 142) (ig9 7469).toInt.toNat (gR i a) l5_17.toInt.toNat) := (gT_eve O17_0 og34 (kg34.fi 7464 rfl) (kg34.fi 7465 rfl) (kg34.fi 7466 rfl) (kg34.fi 7467 rfl) (kg34.fa 141 rfl))
                  have q36 : ag34 118 = sEnds (a17 118) := og34
                  first | refine ft_goS mi_k177 1 75 [.ref 116] (by rfl) ?_ | refine ft_go mi_k177 1 75 [(5, .int l5_17), (4, .int vg6), (0, .ref 116), (1, .int x1), (2, .int x2), (3, .int x3)] [.ref 116] ig34 ag34 qg34 rg34 (by rfl) ?_
                  have hG37 := kG_call hGg11 hGg34 (by decide +kernel)
                  refine ko_callN mi_k177.1 (pc := 75) (ls := [(5, .int l5_17), (4, .int vg6), (0, .ref 116), (1, .int x1), (2, .int x2), (3, .int x3)]) (st := [.ref 116]) (h := ks ig34 ag34 qg34 rg34) (i := (.invokevirtual 270, 3, 170, 0, 9, 0, 414)) (mi_k177.2 _ _ (by rfl)) (ft_invS mi_pq170 (by rfl)) (cy := mi_c170) mi_pq170 rfl (kg170_116 hGg34.I hGg34.R (kCode_of (i1 := ig34) hE_code (hG37.fi 7432 rfl) (hG37.fa 120 rfl) (hG37.fa 121 rfl) (hG37.fa 122 rfl) (hG37.fa 123 rfl))) (by decide) ?_
                  intro ig38 ag38 qg38 rg38 kg38 hg38
                  have hGg38 := kG_call hGg34 kg38 (by decide +kernel)
                  obtain ⟨hg38, og38⟩ := hg38
                  have oG39 := og38
                  have hG40 := kG_call hGg11 hGg34 (by decide +kernel)
                  rw [(gKn_fr hG40 (by decide +kernel) : gKn ig34 ag34 = gKn i a), (tG35 : gT ig34 ag34 = gEve (gDay (gKn i a) (ag9 142) (ig9 7469).toInt.toNat (gR i a) l5_17.toInt.toNat))] at oG39
                  rw [((((kg34.fa 142 rfl).trans (hL17.fa 142 rfl)).trans (kg11.fa 142 rfl)) : ag34 142 = ag9 142), ((((kg34.fi 7469 rfl).trans (hL17.fi 7469 rfl)).trans (kg11.fi 7469 rfl)) : ig34 7469 = ig9 7469)] at oG39
                  have tG41 : gT ig38 ag38 = gAt (gKn i a) (ag9 142) (gEve (gDay (gKn i a) (ag9 142) (ig9 7469).toInt.toNat (gR i a) l5_17.toInt.toNat)) (ig9 7469).toInt.toNat := oG39.1
                  have s42 : (l5_17 + 1).toInt = l5_17.toInt + (1 : Int32).toInt := kd_add (top32 c33 ktop0 ktop1) (top33 c25 z4.2 ktop20 ktop1)
                  first | refine fo_goL mi_k177 fz177_56_2_59 [(5, .int (l5_17 + 1)), (4, .int vg6), (0, .ref 116), (1, .int x1), (2, .int x2), (3, .int x3)] [] (by rfl) ?_ | refine fo_goL mi_k177 fz177_78_2_59 [(5, .int (l5_17 + 1)), (4, .int vg6), (0, .ref 116), (1, .int x1), (2, .int x2), (3, .int x3)] [] (by rfl) ?_ | refine ft_go mi_k177 2 59 [(5, .int (l5_17 + 1)), (4, .int vg6), (0, .ref 116), (1, .int x1), (2, .int x2), (3, .int x3)] [] ig38 ag38 qg38 rg38 (by rfl) ?_
                  exact ih17 _ _ _ _ _ hGg38 (top34 c33 s42 ktop0 ktop1) (top11 c25 s42 ktop1) (gT_c tG41 (gDay_more rfl (top35 c33 ktop0) (top12 s42 ktop1)).symm) (kj_meas (top14 s42 ktop1) (top15 c25) hm17)
          exact lp17 _ _ _ _ _ _ (kG_self _ hGg11.I hGg11.R) (top36 ktop0) (top37 z4.1 ktop0) (gT_c tG12 (gDay_0 ktop0)) (Nat.lt_succ_self _)
        ·
          have c43 : vg6.toInt < (0 : Int32).toInt := kd_leF c; clear c
          first | refine ft_goS mi_k177 1 46 [.int vg6] (by rfl) ?_ | refine ft_go mi_k177 1 46 [(4, .int vg6), (0, .ref 116), (1, .int x1), (2, .int x2), (3, .int x3)] [.int vg6] i a q r (by rfl) ?_
          exact ft_ret mi_k177 (by rfl) (hP vg6 _ _ _ _ hG ⟨trivial, ⟨(show a 118 = a 118 from rfl), (rTop_bar (rok (top4 c5 z2.1 z2.2 z4.1 z4.2 ktopm1 ktop0 ktop20)) og6 (top38 c43 ktop0))⟩⟩)
      ·
        have c44 : x3.toInt ≠ ((-1) : Int32).toInt := kd_eqF c; clear c
        first | refine ft_goS mi_k177 2 24 [.int x3, .ref 116] (by rfl) ?_ | refine ft_go mi_k177 2 24 [(0, .ref 116), (1, .int x1), (2, .int x2), (3, .int x3)] [.int x3, .ref 116] i a q r (by rfl) ?_
        refine ko_callPI mi_k177.1 (pc := 24) (ls := [(0, .ref 116), (1, .int x1), (2, .int x2), (3, .int x3)]) (st := [.int x3, .ref 116]) (h := ks i a q r) (i := (.invokevirtual 137, 3, 132, 0, 9, 0, 387)) (mi_k177.2 _ _ (by rfl)) (ft_invS mi_pq132 (by rfl)) (cy := mi_c132) mi_pq132 rfl (kc132_116 hG.I hG.R x3) (by decide) ?_
        intro vg45 hg45
        rcases hg45 with ⟨eg45, hg45⟩ | ⟨eg45, hg45⟩
        ·
          subst eg45
          have fi_7424 : ((0 : Int) ≤ (i 7424).toInt) ∧ ((i 7424).toInt ≤ 8) := hG.I.1 7424
          have z46 : ((0 : Int) ≤ x3.toInt) ∧ (x3.toInt < (i 7424).toInt) := hg45
          first | refine ft_goS mi_k177 3 34 [.int x1, .ref 116] (by rfl) ?_ | refine ft_go mi_k177 3 34 [(0, .ref 116), (1, .int x1), (2, .int x2), (3, .int x3)] [.int x1, .ref 116] i a q r (by rfl) ?_
          refine ko_callPI mi_k177.1 (pc := 34) (ls := [(0, .ref 116), (1, .int x1), (2, .int x2), (3, .int x3)]) (st := [.int x1, .ref 116]) (h := ks i a q r) (i := (.invokevirtual 276, 3, 173, 0, 9, 0, 410)) (mi_k177.2 _ _ (by rfl)) (ft_invS mi_pq173 (by rfl)) (cy := mi_c173) mi_pq173 rfl (kg173_116 hG.I hG.R x1 (top0 z2.1 z2.2)) (by decide) ?_
          intro vg47 hg47
          obtain ⟨hg47, og47⟩ := hg47
          first | refine ft_goL mi_k177 2 41 [(4, .int vg47), (0, .ref 116), (1, .int x1), (2, .int x2), (3, .int x3)] [.int vg47] (by rfl) ?_ | refine ft_go mi_k177 2 41 [(4, .int vg47), (0, .ref 116), (1, .int x1), (2, .int x2), (3, .int x3)] [.int vg47] i a q r (by rfl) ?_
          refine ft_ifS mi_k177 (decide (0 ≤ vg47)) 47 44 [] (by rfl) (fun c => ?_) (fun c => ?_)
          ·
            have c49 : (0 : Int32).toInt ≤ vg47.toInt := kd_le c; clear c
            first | refine ft_goS mi_k177 2 49 [.int x1, .ref 116] (by rfl) ?_ | refine ft_go mi_k177 2 49 [(4, .int vg47), (0, .ref 116), (1, .int x1), (2, .int x2), (3, .int x3)] [.int x1, .ref 116] i a q r (by rfl) ?_
            refine ko_callN mi_k177.1 (pc := 49) (ls := [(4, .int vg47), (0, .ref 116), (1, .int x1), (2, .int x2), (3, .int x3)]) (st := [.int x1, .ref 116]) (h := ks i a q r) (i := (.invokevirtual 279, 3, 174, 0, 9, 0, 411)) (mi_k177.2 _ _ (by rfl)) (ft_invS mi_pq174 (by rfl)) (cy := mi_c174) mi_pq174 rfl (kg174_116 hG.I hG.R x1 (top0 z2.1 z2.2)) (by decide) ?_
            intro ig50 ag50 qg50 rg50 kg50 hg50
            have hGg50 := kG_call hG kg50 (by decide +kernel)
            obtain ⟨hg50, og50⟩ := hg50
            first | refine ft_goS mi_k177 1 53 [.ref 116] (by rfl) ?_ | refine ft_go mi_k177 1 53 [(4, .int vg47), (0, .ref 116), (1, .int x1), (2, .int x2), (3, .int x3)] [.ref 116] ig50 ag50 qg50 rg50 (by rfl) ?_
            refine ko_callN mi_k177.1 (pc := 53) (ls := [(4, .int vg47), (0, .ref 116), (1, .int x1), (2, .int x2), (3, .int x3)]) (st := [.ref 116]) (h := ks ig50 ag50 qg50 rg50) (i := (.invokevirtual 267, 3, 171, 0, 9, 0, 412)) (mi_k177.2 _ _ (by rfl)) (ft_invS mi_pq171 (by rfl)) (cy := mi_c171) mi_pq171 rfl (kg171_116 hGg50.I hGg50.R ) (by decide) ?_
            intro ig52 ag52 qg52 rg52 kg52 hg52
            have hGg52 := kG_call hGg50 kg52 (by decide +kernel)
            obtain ⟨hg52, og52⟩ := hg52
            have tG53 : gT ig52 ag52 = gR i a := (gT_R (og52.2.1.trans (kg50.fa 118 rfl)) ((kg52.fi 7464 rfl).trans (kg50.fi 7464 rfl)) ((kg52.fi 7465 rfl).trans (kg50.fi 7465 rfl)) ((kg52.fi 7466 rfl).trans (kg50.fi 7466 rfl)) og52.2.2.1 og52.2.2.2)
            have q54 : ag52 139 = ag50 118 := og52.1
            have q55 : ag52 118 = ag50 118 := og52.2.1
            have q56 : ig52 7467 = 0 := og52.2.2.1
            have q57 : ag52 141 = List.replicate 64 0 := og52.2.2.2
            first | refine fo_goL mi_k177 fz177_56_2_59 [(5, .int 0), (4, .int vg47), (0, .ref 116), (1, .int x1), (2, .int x2), (3, .int x3)] [] (by rfl) ?_ | refine fo_goL mi_k177 fz177_78_2_59 [(5, .int 0), (4, .int vg47), (0, .ref 116), (1, .int x1), (2, .int x2), (3, .int x3)] [] (by rfl) ?_ | refine ft_go mi_k177 2 59 [(5, .int 0), (4, .int vg47), (0, .ref 116), (1, .int x1), (2, .int x2), (3, .int x3)] [] ig52 ag52 qg52 rg52 (by rfl) ?_
            have lp58 : ∀ (nz : Nat) (i58 : Nat → Int32) (a58 : Nat → List Int32) (q58 : Nat → List Int64) (r58 : Nat → Nat) (l5_58 : Int32), kG yzw177_116_L59 ig52 ag52 qg52 rg52 i58 a58 q58 r58 → (0 : Int) ≤ l5_58.toInt → l5_58.toInt ≤ x2.toInt → gT i58 a58 = gDay (gKn i a) (ag50 142) (ig50 7469).toInt.toNat (gR i a) l5_58.toInt.toNat → ((x2.toInt - l5_58.toInt)).toNat < nz → ko 13 (mi_h177, mi_c177) P (59, [(5, .int l5_58), (4, .int vg47), (0, .ref 116), (1, .int x1), (2, .int x2), (3, .int x3)], [], (0, 0), ks i58 a58 q58 r58) := by
              intro nz
              induction nz with
              | zero =>
                intro _ _ _ _ _ _ _ _ _ hm
                exact absurd hm (Nat.not_lt_zero _)
              | succ nz ih58 =>
                intro i58 a58 q58 r58 l5_58 hL58 p58_0 p58_1 O58_0 hm58
                first | refine ft_goL mi_k177 2 62 [(5, .int l5_58), (4, .int vg47), (0, .ref 116), (1, .int x1), (2, .int x2), (3, .int x3)] [.int x2, .int l5_58] (by rfl) ?_ | refine ft_go mi_k177 2 62 [(5, .int l5_58), (4, .int vg47), (0, .ref 116), (1, .int x1), (2, .int x2), (3, .int x3)] [.int x2, .int l5_58] i58 a58 q58 r58 (by rfl) ?_
                refine ft_ifS mi_k177 (decide (x2 ≤ l5_58)) 84 65 [] (by rfl) (fun c => ?_) (fun c => ?_)
                ·
                  have c59 : x2.toInt ≤ l5_58.toInt := kd_le c; clear c
                  have hG60 := kG_call hGg52 hL58 (by decide +kernel)
                  have tG61 : gT i58 a58 = gDay (gKn i a) (ag50 142) (ig50 7469).toInt.toNat (gR i a) x2.toInt.toNat := (gT_c O58_0 (gDay_len (top1 c59 p58_1)))
                  first | refine ft_goS mi_k177 2 86 [.int (-1), .int x3] (by rfl) ?_ | refine ft_go mi_k177 2 86 [(5, .int l5_58), (4, .int vg47), (0, .ref 116), (1, .int x1), (2, .int x2), (3, .int x3)] [.int (-1), .int x3] i58 a58 q58 r58 (by rfl) ?_
                  refine ft_ifS mi_k177 (x3 != (-1)) 96 89 [] (by rfl) (fun c => ?_) (fun c => ?_)
                  ·
                    have c62 : x3.toInt ≠ ((-1) : Int32).toInt := kd_ne c; clear c
                    first | refine ft_goS mi_k177 3 101 [.int x3, .ref 118] (by rfl) ?_ | refine ft_go mi_k177 3 101 [(5, .int l5_58), (4, .int vg47), (0, .ref 116), (1, .int x1), (2, .int x2), (3, .int x3)] [.int x3, .ref 118] i58 a58 q58 r58 (by rfl) ?_
                    refine ko_iald3 mi_k177.1 (n := 31) (c := 31) (ax := (0, 0, 0, 0, 0)) (mi_k177.2 _ _ (by rfl)) (by rfl) (ksG118 _ _ _ _) (hG60.I.2.1 118) rfl (top39 z46.1) (top40 fi_7424.2 z46.2) ?_
                    have r63 : ((x3.toInt = 18 → (0 : Int) ≤ ((a58 118).getD x3.toNatClampNeg 0).toInt ∧ ((a58 118).getD x3.toNatClampNeg 0).toInt ≤ 5)) ∧ ((19 ≤ x3.toInt → x3.toInt ≤ 24 → (0 : Int) ≤ ((a58 118).getD x3.toNatClampNeg 0).toInt ∧ ((a58 118).getD x3.toNatClampNeg 0).toInt ≤ 7)) := kE_ncond (p := 118) hG60.I (by decide) (j := x3) (top39 z46.1)
                    first | refine fo_goL mi_k177 fz177_102_5_110 [(5, .int ((a58 118).getD x3.toNatClampNeg 0)), (4, .int vg47), (0, .ref 116), (1, .int x1), (2, .int x2), (3, .int x3)] [.int 0, .ref 139, .ref 116] (by rfl) ?_ | refine ft_go mi_k177 5 110 [(5, .int ((a58 118).getD x3.toNatClampNeg 0)), (4, .int vg47), (0, .ref 116), (1, .int x1), (2, .int x2), (3, .int x3)] [.int 0, .ref 139, .ref 116] i58 a58 q58 r58 (by rfl) ?_
                    refine ko_callN mi_k177.1 (pc := 110) (ls := [(5, .int ((a58 118).getD x3.toNatClampNeg 0)), (4, .int vg47), (0, .ref 116), (1, .int x1), (2, .int x2), (3, .int x3)]) (st := [.int 0, .ref 139, .ref 116]) (h := ks i58 a58 q58 r58) (i := (.invokevirtual 273, 3, 169, 0, 9, 0, 423)) (mi_k177.2 _ _ (by rfl)) (ft_invS mi_pq169 (by rfl)) (cy := mi_c169) mi_pq169 rfl (ke169_116_139 hG60.I hG60.R 0 (top3 ktop0)) (by decide) ?_
                    intro ig64 ag64 qg64 rg64 kg64 hg64
                    have hGg64 := kG_call hG60 kg64 (by decide +kernel)
                    obtain ⟨hg64, og64⟩ := hg64
                    have q65 : ag64 118 = a58 139 := og64
                    first | refine ft_goS mi_k177 1 115 [.int ((a58 118).getD x3.toNatClampNeg 0)] (by rfl) ?_ | refine ft_go mi_k177 1 115 [(5, .int ((a58 118).getD x3.toNatClampNeg 0)), (4, .int vg47), (0, .ref 116), (1, .int x1), (2, .int x2), (3, .int x3)] [.int ((a58 118).getD x3.toNatClampNeg 0)] ig64 ag64 qg64 rg64 (by rfl) ?_
                    exact ft_ret mi_k177 (by rfl) (hP ((a58 118).getD x3.toNatClampNeg 0) _ _ _ _ hGg64 ⟨trivial, ⟨(show ag64 118 = a 118 from (by first | rfl | (simp only [q65, hL58.fa 139 rfl, q54, kg50.fa 118 rfl, sMn, sMx]; done) | (simp only [q65, hL58.fa 139 rfl, q54, kg50.fa 118 rfl, sMn, sMx]; rfl))), (rTop_go (rok (top41 z2.1 z2.2 z4.1 z4.2 z46.1 z46.2 ktop0 ktop20)) og47 (top5 c49 ktop0) og50 ⟨fun h => absurd h (top42 z46.1), fun _ => gT_pu tG61⟩)⟩⟩)
                  ·
                    have c66 : x3.toInt = ((-1) : Int32).toInt := kd_neF c; clear c
                    exact (top44 c66 z46.1 ktopm1).elim
                ·
                  have c67 : l5_58.toInt < x2.toInt := kd_leF c; clear c
                  first | refine ft_goS mi_k177 1 67 [.int l5_58] (by rfl) ?_ | refine ft_go mi_k177 1 67 [(5, .int l5_58), (4, .int vg47), (0, .ref 116), (1, .int x1), (2, .int x2), (3, .int x3)] [.int l5_58] i58 a58 q58 r58 (by rfl) ?_
                  refine ft_ifS mi_k177 (decide (l5_58 ≤ 0)) 74 70 [] (by rfl) (fun c => ?_) (fun c => ?_)
                  ·
                    have c68 : l5_58.toInt ≤ (0 : Int32).toInt := kd_le c; clear c
                    first | refine ft_goS mi_k177 1 75 [.ref 116] (by rfl) ?_ | refine ft_go mi_k177 1 75 [(5, .int l5_58), (4, .int vg47), (0, .ref 116), (1, .int x1), (2, .int x2), (3, .int x3)] [.ref 116] i58 a58 q58 r58 (by rfl) ?_
                    have hG69 := kG_call hGg52 hL58 (by decide +kernel)
                    refine ko_callN mi_k177.1 (pc := 75) (ls := [(5, .int l5_58), (4, .int vg47), (0, .ref 116), (1, .int x1), (2, .int x2), (3, .int x3)]) (st := [.ref 116]) (h := ks i58 a58 q58 r58) (i := (.invokevirtual 270, 3, 170, 0, 9, 0, 414)) (mi_k177.2 _ _ (by rfl)) (ft_invS mi_pq170 (by rfl)) (cy := mi_c170) mi_pq170 rfl (kg170_116 hL58.I hL58.R (kCode_of (i1 := i58) hE_code (hG69.fi 7432 rfl) (hG69.fa 120 rfl) (hG69.fa 121 rfl) (hG69.fa 122 rfl) (hG69.fa 123 rfl))) (by decide) ?_
                    intro ig70 ag70 qg70 rg70 kg70 hg70
                    have hGg70 := kG_call hL58 kg70 (by decide +kernel)
                    obtain ⟨hg70, og70⟩ := hg70
                    have oG71 := og70
                    have hG72 := kG_call hGg52 hL58 (by decide +kernel)
                    rw [(gKn_fr hG72 (by decide +kernel) : gKn i58 a58 = gKn i a), (O58_0 : gT i58 a58 = gDay (gKn i a) (ag50 142) (ig50 7469).toInt.toNat (gR i a) l5_58.toInt.toNat)] at oG71
                    rw [(((hL58.fa 142 rfl).trans (kg52.fa 142 rfl)) : a58 142 = ag50 142), (((hL58.fi 7469 rfl).trans (kg52.fi 7469 rfl)) : i58 7469 = ig50 7469)] at oG71
                    have tG73 : gT ig70 ag70 = gAt (gKn i a) (ag50 142) (gDay (gKn i a) (ag50 142) (ig50 7469).toInt.toNat (gR i a) l5_58.toInt.toNat) (ig50 7469).toInt.toNat := oG71.1
                    have s74 : (l5_58 + 1).toInt = l5_58.toInt + (1 : Int32).toInt := kd_add (top8 p58_0 ktop1) (top9 c68 ktop0 ktop1)
                    first | refine fo_goL mi_k177 fz177_56_2_59 [(5, .int (l5_58 + 1)), (4, .int vg47), (0, .ref 116), (1, .int x1), (2, .int x2), (3, .int x3)] [] (by rfl) ?_ | refine fo_goL mi_k177 fz177_78_2_59 [(5, .int (l5_58 + 1)), (4, .int vg47), (0, .ref 116), (1, .int x1), (2, .int x2), (3, .int x3)] [] (by rfl) ?_ | refine ft_go mi_k177 2 59 [(5, .int (l5_58 + 1)), (4, .int vg47), (0, .ref 116), (1, .int x1), (2, .int x2), (3, .int x3)] [] ig70 ag70 qg70 rg70 (by rfl) ?_
                    exact ih58 _ _ _ _ _ hGg70 (top10 p58_0 s74 ktop1) (top11 c67 s74 ktop1) (gT_c tG73 (gDay_one rfl (top13 c68 p58_0 ktop0) (top12 s74 ktop1)).symm) (kj_meas (top14 s74 ktop1) (top15 c67) hm58)
                  ·
                    have c75 : (0 : Int32).toInt < l5_58.toInt := kd_leF c; clear c
                    first | refine ft_goS mi_k177 1 71 [.ref 116] (by rfl) ?_ | refine ft_go mi_k177 1 71 [(5, .int l5_58), (4, .int vg47), (0, .ref 116), (1, .int x1), (2, .int x2), (3, .int x3)] [.ref 116] i58 a58 q58 r58 (by rfl) ?_
                    refine ko_callN mi_k177.1 (pc := 71) (ls := [(5, .int l5_58), (4, .int vg47), (0, .ref 116), (1, .int x1), (2, .int x2), (3, .int x3)]) (st := [.ref 116]) (h := ks i58 a58 q58 r58) (i := (.invokevirtual 282, 3, 167, 0, 9, 0, 426)) (mi_k177.2 _ _ (by rfl)) (ft_invS mi_pq167 (by rfl)) (cy := mi_c167) mi_pq167 rfl (ke167_116 hL58.I hL58.R ) (by decide) ?_
                    intro ig76 ag76 qg76 rg76 kg76 hg76
                    have hGg76 := kG_call hL58 kg76 (by decide +kernel)
                    obtain ⟨hg76, og76⟩ := hg76
                    have tG77 : gT ig76 ag76 = gEve (gDay (gKn i a) (ag50 142) (ig50 7469).toInt.toNat (gR i a) l5_58.toInt.toNat) := (gT_eve O58_0 og76 (kg76.fi 7464 rfl) (kg76.fi 7465 rfl) (kg76.fi 7466 rfl) (kg76.fi 7467 rfl) (kg76.fa 141 rfl))
                    have q78 : ag76 118 = sEnds (a58 118) := og76
                    first | refine ft_goS mi_k177 1 75 [.ref 116] (by rfl) ?_ | refine ft_go mi_k177 1 75 [(5, .int l5_58), (4, .int vg47), (0, .ref 116), (1, .int x1), (2, .int x2), (3, .int x3)] [.ref 116] ig76 ag76 qg76 rg76 (by rfl) ?_
                    have hG79 := kG_call hGg52 hGg76 (by decide +kernel)
                    refine ko_callN mi_k177.1 (pc := 75) (ls := [(5, .int l5_58), (4, .int vg47), (0, .ref 116), (1, .int x1), (2, .int x2), (3, .int x3)]) (st := [.ref 116]) (h := ks ig76 ag76 qg76 rg76) (i := (.invokevirtual 270, 3, 170, 0, 9, 0, 414)) (mi_k177.2 _ _ (by rfl)) (ft_invS mi_pq170 (by rfl)) (cy := mi_c170) mi_pq170 rfl (kg170_116 hGg76.I hGg76.R (kCode_of (i1 := ig76) hE_code (hG79.fi 7432 rfl) (hG79.fa 120 rfl) (hG79.fa 121 rfl) (hG79.fa 122 rfl) (hG79.fa 123 rfl))) (by decide) ?_
                    intro ig80 ag80 qg80 rg80 kg80 hg80
                    have hGg80 := kG_call hGg76 kg80 (by decide +kernel)
                    obtain ⟨hg80, og80⟩ := hg80
                    have oG81 := og80
                    have hG82 := kG_call hGg52 hGg76 (by decide +kernel)
                    rw [(gKn_fr hG82 (by decide +kernel) : gKn ig76 ag76 = gKn i a), (tG77 : gT ig76 ag76 = gEve (gDay (gKn i a) (ag50 142) (ig50 7469).toInt.toNat (gR i a) l5_58.toInt.toNat))] at oG81
                    rw [((((kg76.fa 142 rfl).trans (hL58.fa 142 rfl)).trans (kg52.fa 142 rfl)) : ag76 142 = ag50 142), ((((kg76.fi 7469 rfl).trans (hL58.fi 7469 rfl)).trans (kg52.fi 7469 rfl)) : ig76 7469 = ig50 7469)] at oG81
                    have tG83 : gT ig80 ag80 = gAt (gKn i a) (ag50 142) (gEve (gDay (gKn i a) (ag50 142) (ig50 7469).toInt.toNat (gR i a) l5_58.toInt.toNat)) (ig50 7469).toInt.toNat := oG81.1
                    have s84 : (l5_58 + 1).toInt = l5_58.toInt + (1 : Int32).toInt := kd_add (top32 c75 ktop0 ktop1) (top33 c67 z4.2 ktop20 ktop1)
                    first | refine fo_goL mi_k177 fz177_56_2_59 [(5, .int (l5_58 + 1)), (4, .int vg47), (0, .ref 116), (1, .int x1), (2, .int x2), (3, .int x3)] [] (by rfl) ?_ | refine fo_goL mi_k177 fz177_78_2_59 [(5, .int (l5_58 + 1)), (4, .int vg47), (0, .ref 116), (1, .int x1), (2, .int x2), (3, .int x3)] [] (by rfl) ?_ | refine ft_go mi_k177 2 59 [(5, .int (l5_58 + 1)), (4, .int vg47), (0, .ref 116), (1, .int x1), (2, .int x2), (3, .int x3)] [] ig80 ag80 qg80 rg80 (by rfl) ?_
                    exact ih58 _ _ _ _ _ hGg80 (top34 c75 s84 ktop0 ktop1) (top11 c67 s84 ktop1) (gT_c tG83 (gDay_more rfl (top35 c75 ktop0) (top12 s84 ktop1)).symm) (kj_meas (top14 s84 ktop1) (top15 c67) hm58)
            exact lp58 _ _ _ _ _ _ (kG_self _ hGg52.I hGg52.R) (top36 ktop0) (top37 z4.1 ktop0) (gT_c tG53 (gDay_0 ktop0)) (Nat.lt_succ_self _)
          ·
            have c85 : vg47.toInt < (0 : Int32).toInt := kd_leF c; clear c
            first | refine ft_goS mi_k177 1 46 [.int vg47] (by rfl) ?_ | refine ft_go mi_k177 1 46 [(4, .int vg47), (0, .ref 116), (1, .int x1), (2, .int x2), (3, .int x3)] [.int vg47] i a q r (by rfl) ?_
            exact ft_ret mi_k177 (by rfl) (hP vg47 _ _ _ _ hG ⟨trivial, ⟨(show a 118 = a 118 from rfl), (rTop_bar (rok (top41 z2.1 z2.2 z4.1 z4.2 z46.1 z46.2 ktop0 ktop20)) og47 (top38 c85 ktop0))⟩⟩)
        ·
          subst eg45
          have z86 : ¬ (((0 : Int) ≤ x3.toInt) ∧ (x3.toInt < (i 7424).toInt)) := hg45
          first | refine fo_goS mi_k177 fz177_4_2_31 [.int (-1)] (by rfl) ?_ | refine fo_goS mi_k177 fz177_14_2_31 [.int (-1)] (by rfl) ?_ | refine fo_goS mi_k177 fz177_27_2_31 [.int (-1)] (by rfl) ?_ | refine ft_go mi_k177 2 31 [(0, .ref 116), (1, .int x1), (2, .int x2), (3, .int x3)] [.int (-1)] i a q r (by rfl) ?_
          exact ft_ret mi_k177 (by rfl) (hP (-1) _ _ _ _ hG ⟨trivial, ⟨(show a 118 = a 118 from rfl), (Or.inl ⟨(top45 c44 z86 ktopm1), rfl⟩)⟩⟩)
    ·
      subst eg3
      have z87 : ¬ (((0 : Int32).toInt ≤ x2.toInt) ∧ (x2.toInt ≤ (20 : Int32).toInt)) := hg3
      first | refine fo_goS mi_k177 fz177_4_2_31 [.int (-1)] (by rfl) ?_ | refine fo_goS mi_k177 fz177_14_2_31 [.int (-1)] (by rfl) ?_ | refine fo_goS mi_k177 fz177_27_2_31 [.int (-1)] (by rfl) ?_ | refine ft_go mi_k177 2 31 [(0, .ref 116), (1, .int x1), (2, .int x2), (3, .int x3)] [.int (-1)] i a q r (by rfl) ?_
      exact ft_ret mi_k177 (by rfl) (hP (-1) _ _ _ _ hG ⟨trivial, ⟨(show a 118 = a 118 from rfl), (Or.inl ⟨(top46 z87 ktop0 ktop20), rfl⟩)⟩⟩)
  ·
    subst eg1
    have z88 : ¬ (((0 : Int) ≤ x1.toInt) ∧ (x1.toInt ≤ 5)) := hg1
    first | refine fo_goS mi_k177 fz177_4_2_31 [.int (-1)] (by rfl) ?_ | refine fo_goS mi_k177 fz177_14_2_31 [.int (-1)] (by rfl) ?_ | refine fo_goS mi_k177 fz177_27_2_31 [.int (-1)] (by rfl) ?_ | refine ft_go mi_k177 2 31 [(0, .ref 116), (1, .int x1), (2, .int x2), (3, .int x3)] [.int (-1)] i a q r (by rfl) ?_
    exact ft_ret mi_k177 (by rfl) (hP (-1) _ _ _ _ hG ⟨trivial, ⟨(show a 118 = a 118 from rfl), (Or.inl ⟨(top47 z88), rfl⟩)⟩⟩)
def ygw172_116 : kW := ([7464, 7465, 7466, 7467], [118, 128, 129, 139, 141, 143, 144, 145], [], [])
set_option maxRecDepth 100000 in
theorem kg172_116 {i : Nat → Int32} {a : Nat → List Int32} {q : Nat → List Int64} {r : Nat → Nat} (hI : kI i a q) (hr : kr r) (x1 : Int32) (hp0 : ((0 : Int) ≤ x1.toInt) ∧ (x1.toInt ≤ 7)) (hE_code : kCode i a) : km 13 172 [.ref 116, .int x1] (ks i a q r) (kVI ygw172_116 i a q r (fun v i1 a1 q1 r1 => (True) ∧ (a1 118 = a 118 ∧ (v = (gAt (gKn i a) (a 142) (gR i a) (i 7469).toInt.toNat).1.getD x1.toNatClampNeg 0 ∧ a1 141 = (gAt (gKn i a) (a 142) (gR i a) (i 7469).toInt.toNat).2.2.2.2.2)))) := by
  have hG := kG_self ygw172_116 hI hr
  refine km_ofI (q := (mi_h172, mi_c172)) rfl (by decide) (Nat.le_of_ble_eq_true rfl) ?_
  intro P hP
  first | refine ft_goL mi_k172 1 1 [(0, .ref 116), (1, .int x1)] [.ref 116] (by rfl) ?_ | refine ft_go mi_k172 1 1 [(0, .ref 116), (1, .int x1)] [.ref 116] i a q r (by rfl) ?_
  refine ko_callN mi_k172.1 (pc := 1) (ls := [(0, .ref 116), (1, .int x1)]) (st := [.ref 116]) (h := ks i a q r) (i := (.invokevirtual 267, 3, 171, 0, 9, 0, 412)) (mi_k172.2 _ _ (by rfl)) (ft_invS mi_pq171 (by rfl)) (cy := mi_c171) mi_pq171 rfl (kg171_116 hG.I hG.R ) (by decide) ?_
  intro ig1 ag1 qg1 rg1 kg1 hg1
  have hGg1 := kG_call hG kg1 (by decide +kernel)
  obtain ⟨hg1, og1⟩ := hg1
  have tG2 : gT ig1 ag1 = gR i a := (gT_R (og1.2.1.trans rfl) (kg1.fi 7464 rfl) (kg1.fi 7465 rfl) (kg1.fi 7466 rfl) og1.2.2.1 og1.2.2.2)
  have q3 : ag1 139 = a 118 := og1.1
  have q4 : ag1 118 = a 118 := og1.2.1
  have q5 : ig1 7467 = 0 := og1.2.2.1
  have q6 : ag1 141 = List.replicate 64 0 := og1.2.2.2
  first | refine ft_goS mi_k172 1 5 [.ref 116] (by rfl) ?_ | refine ft_go mi_k172 1 5 [(0, .ref 116), (1, .int x1)] [.ref 116] ig1 ag1 qg1 rg1 (by rfl) ?_
  refine ko_callN mi_k172.1 (pc := 5) (ls := [(0, .ref 116), (1, .int x1)]) (st := [.ref 116]) (h := ks ig1 ag1 qg1 rg1) (i := (.invokevirtual 270, 3, 170, 0, 9, 0, 414)) (mi_k172.2 _ _ (by rfl)) (ft_invS mi_pq170 (by rfl)) (cy := mi_c170) mi_pq170 rfl (kg170_116 hGg1.I hGg1.R (kCode_of (i1 := ig1) hE_code (hGg1.fi 7432 rfl) (hGg1.fa 120 rfl) (hGg1.fa 121 rfl) (hGg1.fa 122 rfl) (hGg1.fa 123 rfl))) (by decide) ?_
  intro ig7 ag7 qg7 rg7 kg7 hg7
  have hGg7 := kG_call hGg1 kg7 (by decide +kernel)
  obtain ⟨hg7, og7⟩ := hg7
  have oG8 := og7
  rw [(gKn_fr hGg1 (by decide +kernel) : gKn ig1 ag1 = gKn i a), (tG2 : gT ig1 ag1 = gR i a)] at oG8
  rw [((kg1.fa 142 rfl) : ag1 142 = a 142), ((kg1.fi 7469 rfl) : ig1 7469 = i 7469)] at oG8
  have tG9 : gT ig7 ag7 = gAt (gKn i a) (a 142) (gR i a) (i 7469).toInt.toNat := oG8.1
  first | refine fo_goS mi_k172 fz172_8_3_13 [.int x1, .ref 118] (by rfl) ?_ | refine ft_go mi_k172 3 13 [(0, .ref 116), (1, .int x1)] [.int x1, .ref 118] ig7 ag7 qg7 rg7 (by rfl) ?_
  refine ko_iald3 mi_k172.1 (n := 31) (c := 31) (ax := (0, 0, 0, 0, 0)) (mi_k172.2 _ _ (by rfl)) (by rfl) (ksG118 _ _ _ _) (hGg7.I.2.1 118) rfl (top39 hp0.1) (top54 hp0.2) ?_
  have r10 : ((x1.toInt = 18 → (0 : Int) ≤ ((ag7 118).getD x1.toNatClampNeg 0).toInt ∧ ((ag7 118).getD x1.toNatClampNeg 0).toInt ≤ 5)) ∧ ((19 ≤ x1.toInt → x1.toInt ≤ 24 → (0 : Int) ≤ ((ag7 118).getD x1.toNatClampNeg 0).toInt ∧ ((ag7 118).getD x1.toNatClampNeg 0).toInt ≤ 7)) := kE_ncond (p := 118) hGg7.I (by decide) (j := x1) (top39 hp0.1)
  first | refine fo_goL mi_k172 fz172_14_5_21 [(2, .int ((ag7 118).getD x1.toNatClampNeg 0)), (0, .ref 116), (1, .int x1)] [.int 0, .ref 139, .ref 116] (by rfl) ?_ | refine ft_go mi_k172 5 21 [(2, .int ((ag7 118).getD x1.toNatClampNeg 0)), (0, .ref 116), (1, .int x1)] [.int 0, .ref 139, .ref 116] ig7 ag7 qg7 rg7 (by rfl) ?_
  refine ko_callN mi_k172.1 (pc := 21) (ls := [(2, .int ((ag7 118).getD x1.toNatClampNeg 0)), (0, .ref 116), (1, .int x1)]) (st := [.int 0, .ref 139, .ref 116]) (h := ks ig7 ag7 qg7 rg7) (i := (.invokevirtual 273, 3, 169, 0, 9, 0, 423)) (mi_k172.2 _ _ (by rfl)) (ft_invS mi_pq169 (by rfl)) (cy := mi_c169) mi_pq169 rfl (ke169_116_139 hGg7.I hGg7.R 0 (top3 ktop0)) (by decide) ?_
  intro ig11 ag11 qg11 rg11 kg11 hg11
  have hGg11 := kG_call hGg7 kg11 (by decide +kernel)
  obtain ⟨hg11, og11⟩ := hg11
  have q12 : ag11 118 = ag7 139 := og11
  first | refine ft_goS mi_k172 1 25 [.int ((ag7 118).getD x1.toNatClampNeg 0)] (by rfl) ?_ | refine ft_go mi_k172 1 25 [(2, .int ((ag7 118).getD x1.toNatClampNeg 0)), (0, .ref 116), (1, .int x1)] [.int ((ag7 118).getD x1.toNatClampNeg 0)] ig11 ag11 qg11 rg11 (by rfl) ?_
  exact ft_ret mi_k172 (by rfl) (hP ((ag7 118).getD x1.toNatClampNeg 0) _ _ _ _ hGg11 ⟨trivial, ⟨(show ag11 118 = a 118 from (by first | rfl | (simp only [q12, kg7.fa 139 rfl, q3, sMn, sMx]; done) | (simp only [q12, kg7.fa 139 rfl, q3, sMn, sMx]; rfl))), ⟨gT_pu tG9, (show ag11 141 = ag7 141 from (kg11.fa 141 rfl)).trans (congrArg (fun z : gS => z.2.2.2.2.2) tG9)⟩⟩⟩)
def yzw187_116 : kW := ([7464, 7465, 7466, 7467, 7469], [118, 128, 129, 139, 141, 142, 143, 144, 145], [], [])
set_option maxRecDepth 100000 in
theorem kz187_116 {i : Nat → Int32} {a : Nat → List Int32} {q : Nat → List Int64} {r : Nat → Nat} (hI : kI i a q) (hr : kr r) (x1 : Int32) (x2 : Int32) (hE_code : kCode i a) : km 15 187 [.ref 116, .int x1, .int x2] (ks i a q r) (kVI yzw187_116 i a q r (fun v i1 a1 q1 r1 => (True) ∧ (a1 118 = a 118 ∧ rTop (((0 : Int) ≤ x2.toInt) ∧ ((x2.toInt / 10) < (i 7424).toInt) ∧ ((x2.toInt % 10) < (i 7424).toInt) ∧ ((x2.toInt / 10) ≠ (x2.toInt % 10))) i a q x1 v (fun n L => fFl (gKn i a) (gR i a) x2 v n L)))) := by
  have hG := kG_self yzw187_116 hI hr
  refine km_ofI (q := (mi_h187, mi_c187)) rfl (by decide) (Nat.le_of_ble_eq_true rfl) ?_
  intro P hP
  first | refine ft_goL mi_k187 1 1 [(0, .ref 116), (1, .int x1), (2, .int x2)] [.int x1] (by rfl) ?_ | refine ft_go mi_k187 1 1 [(0, .ref 116), (1, .int x1), (2, .int x2)] [.int x1] i a q r (by rfl) ?_
  refine ko_callPI mi_k187.1 (pc := 1) (ls := [(0, .ref 116), (1, .int x1), (2, .int x2)]) (st := [.int x1]) (h := ks i a q r) (i := (.invokestatic 127, 3, 133, 0, 9, 0, 382)) (mi_k187.2 _ _ (by rfl)) (ft_invS mi_pq133 (by rfl)) (cy := mi_c133) mi_pq133 rfl (kc133 hG.I hG.R x1) (by decide) ?_
  intro vg1 hg1
  rcases hg1 with ⟨eg1, hg1⟩ | ⟨eg1, hg1⟩
  ·
    subst eg1
    have z2 : ((0 : Int) ≤ x1.toInt) ∧ (x1.toInt ≤ 5) := hg1
    first | refine ft_goS mi_k187 3 9 [.int x2, .ref 116] (by rfl) ?_ | refine ft_go mi_k187 3 9 [(0, .ref 116), (1, .int x1), (2, .int x2)] [.int x2, .ref 116] i a q r (by rfl) ?_
    refine ko_callPI mi_k187.1 (pc := 9) (ls := [(0, .ref 116), (1, .int x1), (2, .int x2)]) (st := [.int x2, .ref 116]) (h := ks i a q r) (i := (.invokevirtual 308, 3, 186, 0, 9, 0, 438)) (mi_k187.2 _ _ (by rfl)) (ft_invS mi_pq186 (by rfl)) (cy := mi_c186) mi_pq186 rfl (kc186_116 hG.I hG.R x2) (by decide) ?_
    intro vg3 hg3
    rcases hg3 with ⟨eg3, hg3⟩ | ⟨eg3, hg3⟩
    ·
      subst eg3
      have fi_7424 : ((0 : Int) ≤ (i 7424).toInt) ∧ ((i 7424).toInt ≤ 8) := hG.I.1 7424
      have z4 : ((0 : Int) ≤ x2.toInt) ∧ (((x2.toInt / 10) < (i 7424).toInt) ∧ ((x2.toInt % 10) < (i 7424).toInt)) ∧ ((x2.toInt / 10) ≠ (x2.toInt % 10)) := hg3
      first | refine ft_goS mi_k187 3 19 [.int x1, .ref 116] (by rfl) ?_ | refine ft_go mi_k187 3 19 [(0, .ref 116), (1, .int x1), (2, .int x2)] [.int x1, .ref 116] i a q r (by rfl) ?_
      refine ko_callPI mi_k187.1 (pc := 19) (ls := [(0, .ref 116), (1, .int x1), (2, .int x2)]) (st := [.int x1, .ref 116]) (h := ks i a q r) (i := (.invokevirtual 276, 3, 173, 0, 9, 0, 410)) (mi_k187.2 _ _ (by rfl)) (ft_invS mi_pq173 (by rfl)) (cy := mi_c173) mi_pq173 rfl (kg173_116 hG.I hG.R x1 (top0 z2.1 z2.2)) (by decide) ?_
      intro vg5 hg5
      obtain ⟨hg5, og5⟩ := hg5
      first | refine ft_goL mi_k187 2 24 [(3, .int vg5), (0, .ref 116), (1, .int x1), (2, .int x2)] [.int vg5] (by rfl) ?_ | refine ft_go mi_k187 2 24 [(3, .int vg5), (0, .ref 116), (1, .int x1), (2, .int x2)] [.int vg5] i a q r (by rfl) ?_
      refine ft_ifS mi_k187 (decide (0 ≤ vg5)) 29 27 [] (by rfl) (fun c => ?_) (fun c => ?_)
      ·
        have c7 : (0 : Int32).toInt ≤ vg5.toInt := kd_le c; clear c
        first | refine ft_goS mi_k187 2 31 [.int x1, .ref 116] (by rfl) ?_ | refine ft_go mi_k187 2 31 [(3, .int vg5), (0, .ref 116), (1, .int x1), (2, .int x2)] [.int x1, .ref 116] i a q r (by rfl) ?_
        refine ko_callN mi_k187.1 (pc := 31) (ls := [(3, .int vg5), (0, .ref 116), (1, .int x1), (2, .int x2)]) (st := [.int x1, .ref 116]) (h := ks i a q r) (i := (.invokevirtual 279, 3, 174, 0, 9, 0, 411)) (mi_k187.2 _ _ (by rfl)) (ft_invS mi_pq174 (by rfl)) (cy := mi_c174) mi_pq174 rfl (kg174_116 hG.I hG.R x1 (top0 z2.1 z2.2)) (by decide) ?_
        intro ig8 ag8 qg8 rg8 kg8 hg8
        have hGg8 := kG_call hG kg8 (by decide +kernel)
        obtain ⟨hg8, og8⟩ := hg8
        first | refine ft_goS mi_k187 2 36 [.int 0, .ref 116] (by rfl) ?_ | refine ft_go mi_k187 2 36 [(3, .int vg5), (0, .ref 116), (1, .int x1), (2, .int x2)] [.int 0, .ref 116] ig8 ag8 qg8 rg8 (by rfl) ?_
        refine ko_callI mi_k187.1 (pc := 36) (ls := [(3, .int vg5), (0, .ref 116), (1, .int x1), (2, .int x2)]) (st := [.int 0, .ref 116]) (h := ks ig8 ag8 qg8 rg8) (i := (.invokevirtual 288, 3, 172, 0, 9, 0, 429)) (mi_k187.2 _ _ (by rfl)) (ft_invS mi_pq172 (by rfl)) (cy := mi_c172) mi_pq172 rfl (kg172_116 hGg8.I hGg8.R 0 (top55 ktop0) (kCode_of (i1 := ig8) hE_code (hGg8.fi 7432 rfl) (hGg8.fa 120 rfl) (hGg8.fa 121 rfl) (hGg8.fa 122 rfl) (hGg8.fa 123 rfl))) (by decide) ?_
        intro vg10 ig10 ag10 qg10 rg10 kg10 hg10
        have hGg10 := kG_call hGg8 kg10 (by decide +kernel)
        obtain ⟨hg10, og10⟩ := hg10
        have oP11 := og10.2
        rw [(gKn_fr hGg8 (by decide +kernel) : gKn ig8 ag8 = gKn i a), (gR_eq (kg8.fa 118 rfl) (kg8.fi 7464 rfl) (kg8.fi 7465 rfl) (kg8.fi 7466 rfl) : gR ig8 ag8 = gR i a)] at oP11
        have q12 : ag10 118 = ag8 118 := og10.1
        have s13 : (x2 / 10).toInt = (x2.toInt / 10) := kd_div 10 ktop10 (by decide) (top39 z4.1)
        have s14 : (8 * (x2 / 10)).toInt = 8 * (x2 / 10).toInt := kd_cmul 8 ktop8 (top56 s13 z4.1) (top57 fi_7424.2 s13 z4.2.1.1 z4.2.1.2 z4.2.2)
        have s15 : (x2 - x2 / 10 * 10).toInt = (x2.toInt % 10) := kd_rem 10 ktop10 (by decide) (top39 z4.1)
        have s16 : ((8 * (x2 / 10)) + (x2 - x2 / 10 * 10)).toInt = (8 * (x2 / 10)).toInt + (x2 - x2 / 10 * 10).toInt := kd_add (top58 s13 s14 s15 z4.1) (top59 fi_7424.2 s13 s14 s15 z4.2.1.1 z4.2.1.2 z4.2.2)
        first | refine fo_goS mi_k187 fz187_39_12_56 [.int ((8 * (x2 / 10)) + (x2 - x2 / 10 * 10)), .ref 141] (by rfl) ?_ | refine ft_go mi_k187 12 56 [(3, .int vg5), (0, .ref 116), (1, .int x1), (2, .int x2)] [.int ((8 * (x2 / 10)) + (x2 - x2 / 10 * 10)), .ref 141] ig10 ag10 qg10 rg10 (by rfl) ?_
        refine ko_iald3 mi_k187.1 (n := 64) (c := 64) (ax := (0, 0, 0, 0, 0)) (mi_k187.2 _ _ (by rfl)) (by rfl) (ksG141 _ _ _ _) (hGg10.I.2.1 141) rfl (top60 s13 s14 s15 s16 z4.1) (top61 fi_7424.2 s13 s14 s15 s16 z4.2.1.1 z4.2.1.2 z4.2.2) ?_
        exact ft_ret mi_k187 (by rfl) (hP ((ag10 141).getD ((8 * (x2 / 10)) + (x2 - x2 / 10 * 10)).toNatClampNeg 0) _ _ _ _ hGg10 ⟨trivial, ⟨(show ag10 118 = a 118 from (by first | rfl | (simp only [q12, kg8.fa 118 rfl, sMn, sMx]; done) | (simp only [q12, kg8.fa 118 rfl, sMn, sMx]; rfl))), (rTop_go (rok (top62 z2.1 z2.2 z4.1 z4.2.1.1 z4.2.1.2 z4.2.2)) og5 (top5 c7 ktop0) og8 ((congrArg (fun z : List Int32 => z.getD ((8 * (x2 / 10)) + (x2 - x2 / 10 * 10)).toNatClampNeg 0) oP11.2).trans rfl))⟩⟩)
      ·
        have c17 : vg5.toInt < (0 : Int32).toInt := kd_leF c; clear c
        first | refine ft_goS mi_k187 1 28 [.int vg5] (by rfl) ?_ | refine ft_go mi_k187 1 28 [(3, .int vg5), (0, .ref 116), (1, .int x1), (2, .int x2)] [.int vg5] i a q r (by rfl) ?_
        exact ft_ret mi_k187 (by rfl) (hP vg5 _ _ _ _ hG ⟨trivial, ⟨(show a 118 = a 118 from rfl), (rTop_bar (rok (top62 z2.1 z2.2 z4.1 z4.2.1.1 z4.2.1.2 z4.2.2)) og5 (top38 c17 ktop0))⟩⟩)
    ·
      subst eg3
      have z18 : ¬ (((0 : Int) ≤ x2.toInt) ∧ (((x2.toInt / 10) < (i 7424).toInt) ∧ ((x2.toInt % 10) < (i 7424).toInt)) ∧ ((x2.toInt / 10) ≠ (x2.toInt % 10))) := hg3
      first | refine ft_goS mi_k187 2 16 [.int (-1)] (by rfl) ?_ | refine ft_go mi_k187 2 16 [(0, .ref 116), (1, .int x1), (2, .int x2)] [.int (-1)] i a q r (by rfl) ?_
      exact ft_ret mi_k187 (by rfl) (hP (-1) _ _ _ _ hG ⟨trivial, ⟨(show a 118 = a 118 from rfl), (Or.inl ⟨(top63 z18), rfl⟩)⟩⟩)
  ·
    subst eg1
    have z19 : ¬ (((0 : Int) ≤ x1.toInt) ∧ (x1.toInt ≤ 5)) := hg1
    first | refine ft_goS mi_k187 2 16 [.int (-1)] (by rfl) ?_ | refine ft_go mi_k187 2 16 [(0, .ref 116), (1, .int x1), (2, .int x2)] [.int (-1)] i a q r (by rfl) ?_
    exact ft_ret mi_k187 (by rfl) (hP (-1) _ _ _ _ hG ⟨trivial, ⟨(show a 118 = a 118 from rfl), (Or.inl ⟨(top64 z19), rfl⟩)⟩⟩)
end
section
/-! DRAWN, PURELY: the draws, a market drawn, all of them; as the class sums, as the reference does -/
def dNx (z : Int32) : Int32 := z * 1103515245 + 12345
def dU (z s : Int32) : Int32 := (z.toUInt32 >>> (s.toUInt32 &&& Int32.toUInt32 31)).toInt32
def dRm (a b : Int32) : Int32 := a - a / b * b
def gD1 (K : gK) (n dk : Int32) (P : Int32 × gS) : Int32 × gS := (dNx P.1, gIn K (dRm (dU (dNx P.1) 8) n) (if (dRm (dU (dNx P.1) 16) 12).toInt < dk.toInt then gEve P.2 else P.2))
def gDm (K : gK) (n dk : Int32) (P : Int32 × gS) : Nat → Int32 × gS
  | 0 => P
  | k + 1 => gD1 K n dk (gDm K n dk P k)
def gM (n m : Int32) : Nat := if 0 < n.toInt then m.toInt.toNat else 0
def dF (one : Int32) (S : gS) : Int32 := if one.toInt = -1 then S.2.2.2.2.1 else S.1.getD one.toNatClampNeg 0
def gDc (K : gK) (n dk : Int32) (m : Nat) (one : Int32) (B : gS) (z : Int32) : Nat → Int32 × Int32
  | 0 => (0, z)
  | k + 1 => ((gDc K n dk m one B z k).1 + dF one (gDm K n dk ((gDc K n dk m one B z k).2, B) m).2, (gDm K n dk ((gDc K n dk m one B z k).2, B) m).1)
def gDr (K : gK) (n dk : Int32) (m : Nat) (one : Int32) (N : List Int32) (z : Int32) (R : gS) : Nat → Int32 × (Int32 × gS)
  | 0 => (0, (z, R))
  | k + 1 => ((if one.toInt = -1 then (gDr K n dk m one N z R k).1 else (gDr K n dk m one N z R k).1 + (gDm K n dk (gDr K n dk m one N z R k).2 m).2.1.getD one.toNatClampNeg 0), ((gDm K n dk (gDr K n dk m one N z R k).2 m).1, (N, (gDm K n dk (gDr K n dk m one N z R k).2 m).2.2)))
def cDw (ok : Prop) (v : Int32) (f : Prop) : Prop := (¬ ok ∧ v = -1) ∨ (ok ∧ f)
def dV (n x3 v : Int32) (G : Nat → Int32 × (Int32 × gS)) (y : Nat) : Prop := (0 < n.toInt → v = if x3.toInt = -1 then (G y).2.2.2.2.2.2.1 else (G y).1) ∧ (n.toInt ≤ 0 → v = 0)
section DW
variable {K : gK} {n n1 dk one x1 x3 z z1 s v w L T k k1 u1 u2 cm : Int32} {m : Nat} {P P1 : Int32 × gS} {B R S S1 : gS} {N : List Int32} {A : Int32}
theorem gDm_0 {k : Int32} (h : k.toInt = 0) : gDm K n dk P k.toInt.toNat = P := by
  rw [h]
  rfl
theorem gDc_0 {k : Int32} (h : k.toInt = 0) : gDc K n dk m one B z k.toInt.toNat = (0, z) := by
  rw [h]
  rfl
theorem gDr_0 {k : Int32} (h : k.toInt = 0) : gDr K n dk m one N z R k.toInt.toNat = (0, (z, R)) := by
  rw [h]
  rfl
theorem gD_yes (hn : n1 = n) (hz : z = (gDm K n dk P k.toInt.toNat).1) (h0 : 0 ≤ k.toInt) (h1 : k1.toInt = k.toInt + 1) (h : (dRm (dU (dNx z) 16) 12).toInt < dk.toInt) : gDm K n dk P k1.toInt.toNat = (dNx z, gIn K (dRm (dU (dNx z) 8) n1) (gEve (gDm K n dk P k.toInt.toNat).2)) := by
  subst hn
  subst hz
  rw [show k1.toInt.toNat = k.toInt.toNat + 1 by omega]
  show gD1 K n1 dk (gDm K n1 dk P k.toInt.toNat) = _
  unfold gD1
  rw [if_pos h]
theorem gD_no (hn : n1 = n) (hz : z = (gDm K n dk P k.toInt.toNat).1) (h0 : 0 ≤ k.toInt) (h1 : k1.toInt = k.toInt + 1) (h : ¬ ((dRm (dU (dNx z) 16) 12).toInt < dk.toInt)) : gDm K n dk P k1.toInt.toNat = (dNx z, gIn K (dRm (dU (dNx z) 8) n1) (gDm K n dk P k.toInt.toNat).2) := by
  subst hn
  subst hz
  rw [show k1.toInt.toNat = k.toInt.toNat + 1 by omega]
  show gD1 K n1 dk (gDm K n1 dk P k.toInt.toNat) = _
  unfold gD1
  rw [if_neg h]
theorem gM_to {i : Nat → Int32} {a : Nat → List Int32} {r : Nat → Nat} (h : (0 < n.toInt → k.toInt = cm.toInt) ∧ (n.toInt ≤ 0 → k.toInt = 0)) (hz : v = (gDm K n dk P k.toInt.toNat).1) (hT : kThm i a r (gDm K n dk P k.toInt.toNat).2) : v = (gDm K n dk P (gM n cm)).1 ∧ kThm i a r (gDm K n dk P (gM n cm)).2 := by
  have e : gM n cm = k.toInt.toNat := by
    unfold gM
    by_cases c : 0 < n.toInt
    · rw [if_pos c, h.1 c]
    · rw [if_neg c, h.2 (by omega)]
      rfl
  rw [e]
  exact ⟨hz, hT⟩
theorem dF_la (h : one.toInt = -1) (e : v = S.2.2.2.2.1) : v = dF one S := by
  unfold dF
  rw [if_pos h]
  exact e
theorem dF_pu (h : ¬ (one.toInt = -1)) (e : v = S.1.getD one.toNatClampNeg 0) : v = dF one S := by
  unfold dF
  rw [if_neg h]
  exact e
theorem gDc_step (hs : s = (gDc K n dk m one B x1 k.toInt.toNat).1) (hz : z = (gDc K n dk m one B x1 k.toInt.toNat).2) (h0 : 0 ≤ k.toInt) (h1 : k1.toInt = k.toInt + 1) (hw : w = dF one (gDm K n dk (z, B) m).2) (hz1 : z1 = (gDm K n dk (z, B) m).1) : s + w = (gDc K n dk m one B x1 k1.toInt.toNat).1 ∧ z1 = (gDc K n dk m one B x1 k1.toInt.toNat).2 := by
  subst hw
  subst hz1
  subst hs
  subst hz
  rw [show k1.toInt.toNat = k.toInt.toNat + 1 by omega]
  exact ⟨rfl, rfl⟩
theorem gDr_la (hs : s = (gDr K n dk m one N x1 R k.toInt.toNat).1) (hz : z = (gDm K n dk (gDr K n dk m one N x1 R k.toInt.toNat).2 m).1) (h0 : 0 ≤ k.toInt) (h1 : k1.toInt = k.toInt + 1) (h : one.toInt = -1) : s = (gDr K n dk m one N x1 R k1.toInt.toNat).1 ∧ z = (gDr K n dk m one N x1 R k1.toInt.toNat).2.1 ∧ (gDr K n dk m one N x1 R k1.toInt.toNat).2.2 = (N, (gDm K n dk (gDr K n dk m one N x1 R k.toInt.toNat).2 m).2.2) := by
  subst hs
  subst hz
  rw [show k1.toInt.toNat = k.toInt.toNat + 1 by omega]
  refine ⟨?_, rfl, rfl⟩
  show _ = if one.toInt = -1 then _ else _
  rw [if_pos h]
theorem gDr_pu (hs : s = (gDr K n dk m one N x1 R k.toInt.toNat).1) (hz : z = (gDm K n dk (gDr K n dk m one N x1 R k.toInt.toNat).2 m).1) (h0 : 0 ≤ k.toInt) (h1 : k1.toInt = k.toInt + 1) (h : ¬ (one.toInt = -1)) (hw : w = (gDm K n dk (gDr K n dk m one N x1 R k.toInt.toNat).2 m).2.1.getD one.toNatClampNeg 0) : s + w = (gDr K n dk m one N x1 R k1.toInt.toNat).1 ∧ z = (gDr K n dk m one N x1 R k1.toInt.toNat).2.1 ∧ (gDr K n dk m one N x1 R k1.toInt.toNat).2.2 = (N, (gDm K n dk (gDr K n dk m one N x1 R k.toInt.toNat).2 m).2.2) := by
  subst hs
  subst hz
  subst hw
  rw [show k1.toInt.toNat = k.toInt.toNat + 1 by omega]
  refine ⟨?_, rfl, rfl⟩
  show _ = if one.toInt = -1 then _ else _
  rw [if_neg h]
theorem gT_lay {i i1 : Nat → Int32} {a a1 : Nat → List Int32} (h : gT i a = S) (h1 : a1 118 = N) (h2 : i1 7464 = i 7464) (h3 : i1 7465 = i 7465) (h4 : i1 7466 = i 7466) (h5 : i1 7467 = i 7467) (h6 : a1 141 = a 141) : gT i1 a1 = (N, S.2) := by
  subst h
  exact gT_6 h1 h2 h3 h4 h5 h6
theorem dV_la (h : x3.toInt = -1) (e : v = L) : v = if x3.toInt = -1 then L else T := by
  rw [if_pos h]
  exact e
theorem dV_pu (h : ¬ (x3.toInt = -1)) (e : v = T) : v = if x3.toInt = -1 then L else T := by
  rw [if_neg h]
  exact e
theorem dV_end {i : Nat → Int32} {a : Nat → List Int32} {y : Int32} (h : (0 < n.toInt → k.toInt = y.toInt) ∧ (n.toInt ≤ 0 → k.toInt = 0)) (e : v = if x3.toInt = -1 then (gDr K n1 dk m one N x1 (gR i a) k.toInt.toNat).2.2.2.2.2.2.1 else (gDr K n1 dk m one N x1 (gR i a) k.toInt.toNat).1) : dV n x3 v (gDr K n1 dk m one N x1 (gR i a)) y.toInt.toNat := by
  refine ⟨fun c => ?_, fun c => ?_⟩
  · rw [← h.1 c]
    exact e
  · rw [h.2 c] at e
    rw [e]
    by_cases g : x3.toInt = -1
    · rw [if_pos g]
      rfl
    · rw [if_neg g]
      rfl
/-! both alike: what lacks is one sum, or each one's -/
def dRl (A : Int32) (S S1 : kSt) : Prop := S.1 = S1.1 ∧ S.2.2.2.1 = S1.2.2.2.1 + A
def dRg (A : Int32) (S S1 : gS) : Prop := S.1 = S1.1 ∧ S.2.2.2.2.1 = S1.2.2.2.2.1 + A
def dRp (A : Int32) (P P1 : Int32 × gS) : Prop := P.1 = P1.1 ∧ dRg A P.2 P1.2
theorem dR_ac (a b c : Int32) : a + b + c = a + c + b := by rw [Int32.add_assoc, Int32.add_comm b c, ← Int32.add_assoc]
theorem sPay_rl {c : Int32} {S S1 : kSt} (h : dRl A S S1) : dRl A (sPay c S) (sPay c S1) := by
  obtain ⟨M, p, d, la, F⟩ := S
  obtain ⟨M1, p1, d1, la1, F1⟩ := S1
  obtain ⟨h1, h2⟩ := h
  dsimp only at h1 h2
  subst h1
  subst h2
  unfold sPay dRl
  dsimp only
  by_cases e : (M.getD 19 0).toInt = c.toInt
  · rw [if_pos e, if_pos e]
    exact ⟨rfl, rfl⟩
  · rw [if_neg e, if_neg e]
    exact ⟨rfl, dR_ac _ _ _⟩
theorem sPaid_rl {t3 c : Int32} : ∀ (n : Nat) {S S1 : kSt}, dRl A S S1 → dRl A (sPaid t3 c n S) (sPaid t3 c n S1)
  | 0, _, _, h => h
  | n + 1, S, S1, h => by
    unfold sPaid
    rw [show S.1 = S1.1 from h.1]
    by_cases e : t3.toInt ≤ (S1.1.getD 18 0).toInt
    · rw [if_pos e, if_pos e]
      exact sPaid_rl n (sPay_rl h)
    · rw [if_neg e, if_neg e]
      exact h
theorem gCo_rl {c : Int32} {Q Q1 : kSt} (h : dRl A Q Q1) : dRg A (gCo K c N Q) (gCo K c N Q1) := by
  refine ⟨?_, h.2⟩
  show sCome c (gBy K N Q.1 c) Q.1 = sCome c (gBy K N Q1.1 c) Q1.1
  rw [h.1]
theorem gIn_rl {c : Int32} (h : dRg A S S1) : dRg A (gIn K c S) (gIn K c S1) := by
  obtain ⟨M, p, d, b, la, F⟩ := S
  obtain ⟨M1, p1, d1, b1, la1, F1⟩ := S1
  obtain ⟨h1, h2⟩ := h
  dsimp only at h1 h2
  subst h1
  have e : dRl A (gPaid K.1 c M la F) (gPaid K.1 c M la1 F1) := sPaid_rl (t3 := K.1) (c := c) (M.getD 18 0).toInt.toNat (S := (M, 8, 0, la, F)) (S1 := (M, 8, 0, la1, F1)) ⟨rfl, h2⟩
  unfold gIn
  dsimp only
  by_cases g : (K.2.2.2.2.getD (16 + c).toNatClampNeg 0).toInt = 1 ∧ K.2.1.toInt = 0
  · rw [if_pos g, if_pos g]
    exact ⟨rfl, h2⟩
  · rw [if_neg g, if_neg g]
    exact gCo_rl e
theorem gEve_rl (h : dRg A S S1) : dRg A (gEve S) (gEve S1) := ⟨congrArg sEnds h.1, h.2⟩
theorem gD1_rl (h : dRp A P P1) : dRp A (gD1 K n dk P) (gD1 K n dk P1) := by
  obtain ⟨z, S⟩ := P
  obtain ⟨z1, S1⟩ := P1
  obtain ⟨h1, h2⟩ := h
  dsimp only at h1 h2
  subst h1
  refine ⟨rfl, ?_⟩
  unfold gD1
  dsimp only
  by_cases g : (dRm (dU (dNx z) 16) 12).toInt < dk.toInt
  · rw [if_pos g, if_pos g]
    exact gIn_rl (gEve_rl h2)
  · rw [if_neg g, if_neg g]
    exact gIn_rl h2
theorem gDm_rl (h : dRp A P P1) : ∀ k : Nat, dRp A (gDm K n dk P k) (gDm K n dk P1 k)
  | 0 => h
  | k + 1 => gD1_rl (gDm_rl h k)
theorem gB_rp {i i1 : Nat → Int32} {a a1 : Nat → List Int32} (h : a1 118 = a 118) : dRp 0 (z, gB i1 a1) (z, gB i a) := ⟨rfl, h, (by decide : (0 : Int32) = 0 + 0)⟩
theorem gB_dm1 {i i1 : Nat → Int32} {a a1 : Nat → List Int32} (h : a1 118 = a 118) : (gDm K n dk (z, gB i1 a1) m).1 = (gDm K n dk (z, gB i a) m).1 := (gDm_rl (gB_rp h) m).1
theorem gB_dmF {i i1 : Nat → Int32} {a a1 : Nat → List Int32} (h : a1 118 = a 118) : dF one (gDm K n dk (z, gB i1 a1) m).2 = dF one (gDm K n dk (z, gB i a) m).2 := by
  obtain ⟨_, e1, e2⟩ := gDm_rl (K := K) (n := n) (dk := dk) (gB_rp (z := z) h) m
  unfold dF
  rw [e1, e2, Int32.add_zero]
theorem gDr_gDc (hB : B.1 = N) (hR : R.1 = N) (lB : B.2.2.2.2.1 = 0) (lR : R.2.2.2.2.1 = 0) : ∀ y : Nat, (gDr K n dk m one N z R y).2.1 = (gDc K n dk m one B z y).2 ∧ (gDr K n dk m one N z R y).2.2.1 = N ∧ (one.toInt = -1 → (gDr K n dk m one N z R y).2.2.2.2.2.2.1 = (gDc K n dk m one B z y).1) ∧ (¬ (one.toInt = -1) → (gDr K n dk m one N z R y).1 = (gDc K n dk m one B z y).1)
  | 0 => ⟨rfl, hR, fun _ => lR, fun _ => rfl⟩
  | y + 1 => by
    obtain ⟨i1, i2, i3, i4⟩ := gDr_gDc hB hR lB lR y
    have e : dRp (gDr K n dk m one N z R y).2.2.2.2.2.2.1 (gDr K n dk m one N z R y).2 ((gDc K n dk m one B z y).2, B) := ⟨i1, i2.trans hB.symm, by
      show (gDr K n dk m one N z R y).2.2.2.2.2.2.1 = B.2.2.2.2.1 + (gDr K n dk m one N z R y).2.2.2.2.2.2.1
      rw [lB, Int32.zero_add]⟩
    obtain ⟨d1, d2, d3⟩ := gDm_rl (K := K) (n := n) (dk := dk) e m
    refine ⟨d1, rfl, fun h => ?_, fun h => ?_⟩
    · show (gDm K n dk (gDr K n dk m one N z R y).2 m).2.2.2.2.2.1 = (gDc K n dk m one B z y).1 + dF one (gDm K n dk ((gDc K n dk m one B z y).2, B) m).2
      rw [d3, i3 h, Int32.add_comm]
      unfold dF
      rw [if_pos h]
    · show (if one.toInt = -1 then _ else (gDr K n dk m one N z R y).1 + (gDm K n dk (gDr K n dk m one N z R y).2 m).2.1.getD one.toNatClampNeg 0) = (gDc K n dk m one B z y).1 + dF one (gDm K n dk ((gDc K n dk m one B z y).2, B) m).2
      unfold dF
      rw [if_neg h, if_neg h, i4 h, d2]
theorem gDc_none (h : one.toInt = -1) (lB : B.2.2.2.2.1 = 0) : ∀ y : Nat, (gDc K n dk 0 one B z y).1 = 0
  | 0 => rfl
  | y + 1 => by
    show (gDc K n dk 0 one B z y).1 + dF one B = 0
    unfold dF
    rw [if_pos h, gDc_none h lB y, lB]
    rfl
theorem fD_same {y : Nat} (hB : B.1 = N) (hR : R.1 = N) (lB : B.2.2.2.2.1 = 0) (lR : R.2.2.2.2.1 = 0) (ok : n.toInt ≤ 0 → x3.toInt = -1) (f : u1 = (gDc K n dk (gM n cm) x3 B x1 y).1) (f1 : dV n x3 u2 (gDr K n dk cm.toInt.toNat x3 N x1 R) y) : u1 = u2 := by
  by_cases c : 0 < n.toInt
  · have e := f1.1 c
    rw [f, e, show gM n cm = cm.toInt.toNat from if_pos c]
    obtain ⟨_, _, i3, i4⟩ := gDr_gDc hB hR lB lR y (K := K) (n := n) (dk := dk) (m := cm.toInt.toNat) (one := x3) (z := x1)
    by_cases h : x3.toInt = -1
    · rw [if_pos h]
      exact (i3 h).symm
    · rw [if_neg h]
      exact (i4 h).symm
  · rw [f, f1.2 (by omega), show gM n cm = 0 from if_neg c]
    exact gDc_none (ok (by omega)) lB y
end DW
end
section
theorem ktoj0 : (0 : Int32).toInt = 0 := by decide
theorem ktoj1 : (1 : Int32).toInt = 1 := by decide
theorem ktoj60 : (60 : Int32).toInt = 60 := by decide
theorem ktojm1 : ((-1) : Int32).toInt = (-1) := by decide
theorem ktoj12 : (12 : Int32).toInt = 12 := by decide
theorem ktoj10000 : (10000 : Int32).toInt = 10000 := by decide
theorem ktoj100 : (100 : Int32).toInt = 100 := by decide
theorem ktoj30 : (30 : Int32).toInt = 30 := by decide
theorem toj0 {a0 a1 a2 a3 a4 : Int} (h0 : a0 ≤ a1) (h1 : a2 = a3) (h2 : a3 = a4) (h3 : (0 : Int) ≤ a1) (h4 : a1 ≤ a0) (h5 : (a1 = 0) ∨ ((1 : Int) ≤ a2)) : (0 < a4 → a1 = a0) ∧ (a4 ≤ 0 → a1 = 0) := by omega
theorem toj1 {a0 a1 a2 a3 a4 a5 : Int} (h0 : a0 ≤ a1) (h1 : a0 = a2) (h2 : a2 = a3) (h3 : (0 : Int) ≤ a4) (h4 : (a4 = 0) ∨ ((1 : Int) ≤ a0)) (h5 : a1 = 0) : (0 < a3 → a4 = a5) ∧ (a3 ≤ 0 → a4 = 0) := by omega
theorem toj2 {a0 : Int} (h0 : (0 : Int) ≤ a0) : (0 : Int) ≤ a0 := oz3 h0
theorem toj3 {a0 a1 : Int} (h0 : a0 < a1) (h1 : a0 = 0) : a1 ≠ 0 := oz1230 h0 h1
theorem toj4 {a0 a1 : Int} (h0 : a0 < a1) (h1 : a0 = 0) : (1 : Int) ≤ a1 := oz659 h0 h1
theorem toj5 {a0 a1 a2 a3 a4 : Int} (h0 : a0 = a1) (h1 : a1 = a2) (h2 : a3 = a2) (h3 : (0 : Int) ≤ a4) (h4 : a4 < a0) : ((0 : Int) ≤ a4) ∧ (a4 < a3) := by omega
theorem toj6 {a0 a1 : Int} (h0 : (0 : Int) ≤ a0) (h1 : a1 = 1) : (-2147483648 : Int) ≤ a0 + a1 := oz12 h0 h1
theorem toj7 {a0 a1 a2 : Int} (h0 : a0 < a1) (h1 : a1 ≤ 99) (h2 : a2 = 1) : a0 + a2 ≤ 2147483647 := oz1231 h0 h1 h2
theorem toj8 {a0 a1 a2 : Int} (h0 : (0 : Int) ≤ a0) (h1 : a1 = a0 + a2) (h2 : a2 = 1) : (0 : Int) ≤ a1 := oz14 h0 h1 h2
theorem toj9 {a0 a1 a2 a3 : Int} (h0 : a0 < a1) (h1 : a2 = a0 + a3) (h2 : a3 = 1) : a2 ≤ a1 := og20 h0 h1 h2
theorem toj10 {a0 a1 a2 a3 : Int} (h0 : a0 < a1) (h1 : a2 = a1) (h2 : a0 = 0) : (a3 = 0) ∨ ((1 : Int) ≤ a2) := by omega
theorem toj11 {a0 a1 a2 a3 : Int} (h0 : a0 = a1) (h1 : a2 = a0) (h2 : a1 = a3) : a2 = a3 := ox22 h0 h1 h2
theorem toj12 {a0 a1 a2 : Int} (h0 : a0 = a1 + a2) (h1 : a2 = 1) : a0 = a1 + 1 := oz169 h0 h1
theorem toj13 {a0 a1 : Int} (h0 : a0 ≤ a1) : ¬ (a1 < a0) := toy131 h0
theorem toj14 {a0 a1 a2 a3 : Int} (h0 : a0 = a1 + a2) (h1 : a2 = 1) : (a3 - a0) < (a3 - a1) := oz44 h0 h1
theorem toj15 {a0 a1 : Int} (h0 : a0 < a1) : (1 : Int) ≤ (a1 - a0) := oz45 h0
theorem toj16 {a0 a1 a2 : Int} (h0 : a0 < a1) (h1 : a2 = a1) (h2 : a0 = 0) : a2 ≠ 0 := oz539 h0 h1 h2
theorem toj17 {a0 a1 a2 : Int} (h0 : a0 < a1) (h1 : a2 = a1) (h2 : a0 = 0) : (1 : Int) ≤ a2 := oz540 h0 h1 h2
theorem toj18 {a0 a1 a2 a3 a4 a5 : Int} (h0 : a0 = a1) (h1 : a1 = a2) (h2 : a3 = a0) (h3 : a4 = a2) (h4 : (0 : Int) ≤ a5) (h5 : a5 < a3) : ((0 : Int) ≤ a5) ∧ (a5 < a4) := by omega
theorem toj19 {a0 a1 a2 a3 a4 : Int} (h0 : a0 < a1) (h1 : a2 = a1) (h2 : a3 = a2) (h3 : a0 = 0) : (a4 = 0) ∨ ((1 : Int) ≤ a3) := by omega
theorem toj20 {a0 a1 a2 a3 a4 : Int} (h0 : a0 = a1) (h1 : a1 = a2) (h2 : a3 = a0) (h3 : a4 = a3) : a4 = a2 := by omega
theorem toj21 {a0 a1 : Int} (h0 : a0 < a1) : a0 < a1 := oz270 h0
theorem toj22 {a0 : Int} (h0 : a0 = 0) : (0 : Int) ≤ a0 := oz46 h0
theorem toj23 {a0 a1 : Int} (h0 : (0 : Int) ≤ a0) (h1 : a1 = 0) : a1 ≤ a0 := ob67 h0 h1
theorem toj24 {a0 a1 : Int} (h0 : a0 = 0) : (a0 = 0) ∨ ((1 : Int) ≤ a1) := by omega
theorem toj25 {a0 a1 : Int} (h0 : a0 = a1) : a0 = a1 := oz719 h0
theorem toj26 {a0 a1 a2 a3 a4 a5 a6 : Int} (h0 : a0 < a1) (h1 : a1 = 0) : ¬ ((0 : Int) ≤ a0 ∧ ((1 : Int) ≤ a2 ∧ a2 ≤ 30) ∧ ((1 : Int) ≤ a3 ∧ a3 ≤ 60) ∧ a4 ≤ 12 ∧ (a5 = -1 ∨ ((0 : Int) ≤ a5 ∧ a5 < a6))) := by omega
theorem toj30 {a0 a1 a2 a3 a4 a5 a6 a7 a8 a9 a10 a11 : Int} (h0 : a0 = a1) (h1 : a2 ≤ a3) (h2 : a4 ≤ a5) (h3 : a5 ≤ a6) (h4 : a7 ≤ a8) (h5 : a4 ≤ a9) (h6 : a9 ≤ a10) (h7 : a1 = (-1)) (h8 : a2 = 0) (h9 : a4 = 1) (h10 : a6 = 60) (h11 : a8 = 12) (h12 : a10 = 30) : (0 : Int) ≤ a3 ∧ ((1 : Int) ≤ a9 ∧ a9 ≤ 30) ∧ ((1 : Int) ≤ a5 ∧ a5 ≤ 60) ∧ a7 ≤ 12 ∧ (a0 = -1 ∨ ((0 : Int) ≤ a0 ∧ a0 < a11)) := ⟨by omega, by omega, by omega, by omega, by omega⟩
theorem toj31 {a0 a1 : Int} (h0 : a0 ≤ a1) (h1 : a1 ≤ a0) : a1 = a0 := oy46 h0 h1
theorem toj32 {a0 a1 a2 : Int} (h0 : a0 ≤ a1) (h1 : a1 ≤ a2) (h2 : a0 = 1) (h3 : a2 = 60) : ((0 : Int) ≤ a1) ∧ (a1 ≤ 99) := by omega
theorem toj38 {a0 a1 a2 : Int} (h0 : a0 = a1) (h1 : a1 = (-1)) : ¬ (((0 : Int) ≤ a0) ∧ (a0 < a2)) := tou24 h0 h1
theorem toj39 {a0 a1 a2 a3 : Int} (h0 : a0 < a1) (h1 : a1 ≤ a2) (h2 : a2 = 30) (h3 : a3 = 1) : a0 + a3 ≤ 2147483647 := oz537 h0 h1 h2 h3
theorem toj40 {a0 a1 a2 : Int} (h0 : a0 = a1) (h1 : a2 = a0) : a2 = a1 := oz762 h0 h1
theorem toj41 {a0 a1 : Int} (h0 : a0 = a1) (h1 : a1 = (-1)) : a0 = -1 := op64 h0 h1
theorem toj42 {a0 a1 a2 : Int} (h0 : a0 ≤ a1) (h1 : a0 = 1) (h2 : a2 = 0) : a2 ≤ a1 := by omega
theorem toj43 {a0 : Int}  : a0 = a0 := oz34
theorem toj48 {a0 a1 a2 a3 a4 a5 a6 a7 a8 a9 a10 : Int} (h0 : a0 ≤ a1) (h1 : a2 ≤ a3) (h2 : a3 ≤ a4) (h3 : a5 ≤ a6) (h4 : (0 : Int) ≤ a7) (h5 : a7 < a8) (h6 : a2 ≤ a9) (h7 : a9 ≤ a10) (h8 : a0 = 0) (h9 : a2 = 1) (h10 : a4 = 60) (h11 : a6 = 12) (h12 : a10 = 30) : (0 : Int) ≤ a1 ∧ ((1 : Int) ≤ a9 ∧ a9 ≤ 30) ∧ ((1 : Int) ≤ a3 ∧ a3 ≤ 60) ∧ a5 ≤ 12 ∧ (a7 = -1 ∨ ((0 : Int) ≤ a7 ∧ a7 < a8)) := ⟨by omega, by omega, by omega, by omega, by omega⟩
theorem toj49 {a0 a1 a2 : Int} (h0 : a0 = a1) (h1 : (0 : Int) ≤ a2) (h2 : a2 < a1) : ((0 : Int) ≤ a2) ∧ (a2 < a0) := tou29 h0 h1 h2
theorem toj50 {a0 : Int} (h0 : (0 : Int) ≤ a0) : ¬ (a0 = -1) := by omega
theorem toj51 {a0 a1 a2 : Int} (h0 : a0 ≤ 8) (h1 : a0 = a1) (h2 : a2 < a1) : a2 < 8 := tou33 h0 h1 h2
theorem toj52 {a0 a1 a2 a3 a4 a5 a6 : Int} (h0 : a0 ≠ a1) (h1 : ¬ (((0 : Int) ≤ a0) ∧ (a0 < a2))) (h2 : a1 = (-1)) : ¬ ((0 : Int) ≤ a3 ∧ ((1 : Int) ≤ a4 ∧ a4 ≤ 30) ∧ ((1 : Int) ≤ a5 ∧ a5 ≤ 60) ∧ a6 ≤ 12 ∧ (a0 = -1 ∨ ((0 : Int) ≤ a0 ∧ a0 < a2))) := by omega
theorem toj53 {a0 a1 a2 a3 a4 a5 a6 a7 : Int} (h0 : a0 ≤ a1) (h1 : 0 ≤ a1 → a2 = (a1 % 100)) (h2 : ¬ ((a0 ≤ a2) ∧ (a2 ≤ a3))) (h3 : a0 = 0) (h4 : a3 = 12) : ¬ ((0 : Int) ≤ a1 ∧ ((1 : Int) ≤ a4 ∧ a4 ≤ 30) ∧ ((1 : Int) ≤ a5 ∧ a5 ≤ 60) ∧ a2 ≤ 12 ∧ (a6 = -1 ∨ ((0 : Int) ≤ a6 ∧ a6 < a7))) := by omega
theorem toj54 {a0 a1 a2 a3 a4 a5 a6 a7 : Int} (h0 : ¬ ((a0 ≤ a1) ∧ (a1 ≤ a2))) (h1 : a0 = 1) (h2 : a2 = 60) : ¬ ((0 : Int) ≤ a3 ∧ ((1 : Int) ≤ a4 ∧ a4 ≤ 30) ∧ ((1 : Int) ≤ a1 ∧ a1 ≤ 60) ∧ a5 ≤ 12 ∧ (a6 = -1 ∨ ((0 : Int) ≤ a6 ∧ a6 < a7))) := by omega
theorem toj55 {a0 a1 a2 a3 a4 a5 a6 a7 : Int} (h0 : ¬ ((a0 ≤ a1) ∧ (a1 ≤ a2))) (h1 : a0 = 1) (h2 : a2 = 30) : ¬ ((0 : Int) ≤ a3 ∧ ((1 : Int) ≤ a1 ∧ a1 ≤ 30) ∧ ((1 : Int) ≤ a4 ∧ a4 ≤ 60) ∧ a5 ≤ 12 ∧ (a6 = -1 ∨ ((0 : Int) ≤ a6 ∧ a6 < a7))) := by omega
def yw78_49_1 : kW := ([645, 3200, 3206, 3207, 3208, 3209, 3214, 3215, 3216, 3586, 3781, 6405], [13, 51, 52, 53, 54, 55, 57, 58, 62, 63, 65, 66, 67, 68, 69, 70, 71, 72, 73, 103], [], [1])
def yw78_49_1_L14 : kW := ([645, 3208, 3209, 3214, 3215, 3216, 3586, 3781, 6405], [13, 51, 55, 57, 58, 62, 63, 65, 66, 67, 68, 69, 70, 71, 72, 73, 103], [], [])
set_option maxRecDepth 100000 in
theorem ke78_49_1 {i : Nat → Int32} {a : Nat → List Int32} {q : Nat → List Int64} {r : Nat → Nat} (hI : kI i a q) (hr : kr r) (x2 : Int32) (x3 : Int32) (x4 : Int32) (hp0 : ((0 : Int) ≤ x3.toInt) ∧ (x3.toInt ≤ 99)) (hN : kNoW i a r) : km 9 78 [.ref 49, .ref 1, .int x2, .int x3, .int x4] (ks i a q r) (kVI yw78_49_1 i a q r (fun v i1 a1 q1 r1 => (True) ∧ (v = (gDm (gKn i a) (i 64) x4 (x2, gB i a) (gM (i 64) x3)).1 ∧ kThm i1 a1 r1 (gDm (gKn i a) (i 64) x4 (x2, gB i a) (gM (i 64) x3)).2))) := by
  have hG := kG_self yw78_49_1 hI hr
  refine km_ofI (q := (mi_h78, mi_c78)) rfl (by decide) (Nat.le_of_ble_eq_true rfl) ?_
  intro P hP
  first | refine ft_goL mi_k78 3 5 [(0, .ref 49), (1, .ref 1), (2, .int x2), (3, .int x3), (4, .int x4)] [.ref 1, .ref 50] (by rfl) ?_ | refine ft_go mi_k78 3 5 [(0, .ref 49), (1, .ref 1), (2, .int x2), (3, .int x3), (4, .int x4)] [.ref 1, .ref 50] i a q r (by rfl) ?_
  refine ko_callN mi_k78.1 (pc := 5) (ls := [(0, .ref 49), (1, .ref 1), (2, .int x2), (3, .int x3), (4, .int x4)]) (st := [.ref 1, .ref 50]) (h := ks i a q r) (i := (.invokevirtual 56, 3, 34, 0, 9, 0, 212)) (mi_k78.2 _ _ (by rfl)) (ft_invS mi_pq34 (by rfl)) (cy := mi_c34) mi_pq34 rfl (kg34_50_1 hG.I hG.R hN) (by decide) ?_
  intro ig1 ag1 qg1 rg1 kg1 hg1
  have hGg1 := kG_call hG kg1 (by decide +kernel)
  obtain ⟨hg1, og1⟩ := hg1
  have tT2 : kThm ig1 ag1 rg1 (gB i a) := og1
  first | refine ft_goL mi_k78 4 14 [(6, .int 0), (5, .int x2), (0, .ref 49), (1, .ref 1), (2, .int x2), (3, .int x3), (4, .int x4)] [] (by rfl) ?_ | refine ft_go mi_k78 4 14 [(6, .int 0), (5, .int x2), (0, .ref 49), (1, .ref 1), (2, .int x2), (3, .int x3), (4, .int x4)] [] ig1 ag1 qg1 rg1 (by rfl) ?_
  have lp3 : ∀ (nz : Nat) (i3 : Nat → Int32) (a3 : Nat → List Int32) (q3 : Nat → List Int64) (r3 : Nat → Nat) (l6_3 : Int32) (l5_3 : Int32), kG yw78_49_1_L14 ig1 ag1 qg1 rg1 i3 a3 q3 r3 → (0 : Int) ≤ l6_3.toInt → l6_3.toInt ≤ x3.toInt → (l6_3.toInt = 0) ∨ ((1 : Int) ≤ (i3 64).toInt) → (i3 64).toInt = (i 64).toInt → l5_3 = (gDm (gKn i a) (i 64) x4 (x2, gB i a) l6_3.toInt.toNat).1 → kThm i3 a3 r3 (gDm (gKn i a) (i 64) x4 (x2, gB i a) l6_3.toInt.toNat).2 → ((x3.toInt - l6_3.toInt)).toNat < nz → ko 9 (mi_h78, mi_c78) P (14, [(6, .int l6_3), (5, .int l5_3), (0, .ref 49), (1, .ref 1), (2, .int x2), (3, .int x3), (4, .int x4)], [], (0, 0), ks i3 a3 q3 r3) := by
    intro nz
    induction nz with
    | zero =>
      intro _ _ _ _ _ _ _ _ _ _ _ _ _ hm
      exact absurd hm (Nat.not_lt_zero _)
    | succ nz ih3 =>
      intro i3 a3 q3 r3 l6_3 l5_3 hL3 p3_0 p3_1 p3_2 p3_3 O3_0 O3_1 hm3
      have efig1_64 : (ig1 64).toInt = (i 64).toInt := kg1.ti 64 rfl
      have efi3_64 : (i3 64).toInt = (ig1 64).toInt := hL3.ti 64 rfl
      first | refine ft_goL mi_k78 2 17 [(6, .int l6_3), (5, .int l5_3), (0, .ref 49), (1, .ref 1), (2, .int x2), (3, .int x3), (4, .int x4)] [.int x3, .int l6_3] (by rfl) ?_ | refine ft_go mi_k78 2 17 [(6, .int l6_3), (5, .int l5_3), (0, .ref 49), (1, .ref 1), (2, .int x2), (3, .int x3), (4, .int x4)] [.int x3, .int l6_3] i3 a3 q3 r3 (by rfl) ?_
      refine ft_ifS mi_k78 (decide (x3 ≤ l6_3)) 82 20 [] (by rfl) (fun c => ?_) (fun c => ?_)
      ·
        have c4 : x3.toInt ≤ l6_3.toInt := kd_le c; clear c
        have hG5 := kG_call hGg1 hL3 (by decide +kernel)
        first | refine ft_goS mi_k78 1 84 [.int l5_3] (by rfl) ?_ | refine ft_go mi_k78 1 84 [(6, .int l6_3), (5, .int l5_3), (0, .ref 49), (1, .ref 1), (2, .int x2), (3, .int x3), (4, .int x4)] [.int l5_3] i3 a3 q3 r3 (by rfl) ?_
        exact ft_ret mi_k78 (by rfl) (hP l5_3 _ _ _ _ hG5 ⟨trivial, (gM_to (toj0 c4 efi3_64 efig1_64 p3_0 p3_1 p3_2) O3_0 O3_1)⟩)
      ·
        have c6 : l6_3.toInt < x3.toInt := kd_leF c; clear c
        first | refine ft_goS mi_k78 2 24 [.int (i3 64)] (by rfl) ?_ | refine ft_go mi_k78 2 24 [(6, .int l6_3), (5, .int l5_3), (0, .ref 49), (1, .ref 1), (2, .int x2), (3, .int x3), (4, .int x4)] [.int (i3 64)] i3 a3 q3 r3 (by rfl) ?_
        refine ft_ifS mi_k78 (decide ((i3 64) ≤ 0)) 82 27 [] (by rfl) (fun c => ?_) (fun c => ?_)
        ·
          have c7 : (i3 64).toInt ≤ (0 : Int32).toInt := kd_le c; clear c
          have hG8 := kG_call hGg1 hL3 (by decide +kernel)
          first | refine ft_goS mi_k78 1 84 [.int l5_3] (by rfl) ?_ | refine ft_go mi_k78 1 84 [(6, .int l6_3), (5, .int l5_3), (0, .ref 49), (1, .ref 1), (2, .int x2), (3, .int x3), (4, .int x4)] [.int l5_3] i3 a3 q3 r3 (by rfl) ?_
          exact ft_ret mi_k78 (by rfl) (hP l5_3 _ _ _ _ hG8 ⟨trivial, (gM_to (toj1 c7 efi3_64 efig1_64 p3_0 p3_2 ktoj0) O3_0 O3_1)⟩)
        ·
          have c9 : (0 : Int32).toInt < (i3 64).toInt := kd_leF c; clear c
          have b10 : ((-2147483648 : Int) ≤ l5_3.toInt) ∧ (l5_3.toInt ≤ 2147483647) := kd_bd l5_3
          have b11 : ((-2147483648 : Int) ≤ (l5_3 * 1103515245).toInt) ∧ ((l5_3 * 1103515245).toInt ≤ 2147483647) := kd_bd (l5_3 * 1103515245)
          have s12 : (0 : Int) ≤ ((((l5_3 * 1103515245) + 12345).toUInt32 >>> ((16 : Int32).toUInt32 &&& Int32.toUInt32 31)).toInt32).toInt := kd_ushr 16 (by decide) (by decide) (by decide)
          have s13 : (((((l5_3 * 1103515245) + 12345).toUInt32 >>> ((16 : Int32).toUInt32 &&& Int32.toUInt32 31)).toInt32) - ((((l5_3 * 1103515245) + 12345).toUInt32 >>> ((16 : Int32).toUInt32 &&& Int32.toUInt32 31)).toInt32) / 12 * 12).toInt = (((((l5_3 * 1103515245) + 12345).toUInt32 >>> ((16 : Int32).toUInt32 &&& Int32.toUInt32 31)).toInt32).toInt % 12) := kd_rem 12 ktoj12 (by decide) (toj2 s12)
          first | refine ft_goL mi_k78 12 48 [(5, .int ((l5_3 * 1103515245) + 12345)), (6, .int l6_3), (0, .ref 49), (1, .ref 1), (2, .int x2), (3, .int x3), (4, .int x4)] [.int x4, .int (((((l5_3 * 1103515245) + 12345).toUInt32 >>> ((16 : Int32).toUInt32 &&& Int32.toUInt32 31)).toInt32) - ((((l5_3 * 1103515245) + 12345).toUInt32 >>> ((16 : Int32).toUInt32 &&& Int32.toUInt32 31)).toInt32) / 12 * 12)] (by rfl) ?_ | refine ft_go mi_k78 12 48 [(5, .int ((l5_3 * 1103515245) + 12345)), (6, .int l6_3), (0, .ref 49), (1, .ref 1), (2, .int x2), (3, .int x3), (4, .int x4)] [.int x4, .int (((((l5_3 * 1103515245) + 12345).toUInt32 >>> ((16 : Int32).toUInt32 &&& Int32.toUInt32 31)).toInt32) - ((((l5_3 * 1103515245) + 12345).toUInt32 >>> ((16 : Int32).toUInt32 &&& Int32.toUInt32 31)).toInt32) / 12 * 12)] i3 a3 q3 r3 (by rfl) ?_
          refine ft_ifS mi_k78 (decide (x4 ≤ (((((l5_3 * 1103515245) + 12345).toUInt32 >>> ((16 : Int32).toUInt32 &&& Int32.toUInt32 31)).toInt32) - ((((l5_3 * 1103515245) + 12345).toUInt32 >>> ((16 : Int32).toUInt32 &&& Int32.toUInt32 31)).toInt32) / 12 * 12))) 58 51 [] (by rfl) (fun c => ?_) (fun c => ?_)
          ·
            have c14 : x4.toInt ≤ (((((l5_3 * 1103515245) + 12345).toUInt32 >>> ((16 : Int32).toUInt32 &&& Int32.toUInt32 31)).toInt32) - ((((l5_3 * 1103515245) + 12345).toUInt32 >>> ((16 : Int32).toUInt32 &&& Int32.toUInt32 31)).toInt32) / 12 * 12).toInt := kd_le c; clear c
            have s15 : (0 : Int) ≤ ((((l5_3 * 1103515245) + 12345).toUInt32 >>> ((8 : Int32).toUInt32 &&& Int32.toUInt32 31)).toInt32).toInt := kd_ushr 8 (by decide) (by decide) (by decide)
            first | refine ft_goS mi_k78 7 71 [.int (i3 64), .int ((((l5_3 * 1103515245) + 12345).toUInt32 >>> ((8 : Int32).toUInt32 &&& Int32.toUInt32 31)).toInt32), .ref 50] (by rfl) ?_ | refine ft_go mi_k78 7 71 [(5, .int ((l5_3 * 1103515245) + 12345)), (6, .int l6_3), (0, .ref 49), (1, .ref 1), (2, .int x2), (3, .int x3), (4, .int x4)] [.int (i3 64), .int ((((l5_3 * 1103515245) + 12345).toUInt32 >>> ((8 : Int32).toUInt32 &&& Int32.toUInt32 31)).toInt32), .ref 50] i3 a3 q3 r3 (by rfl) ?_
            have s16 : ((0 : Int) ≤ (((((l5_3 * 1103515245) + 12345).toUInt32 >>> ((8 : Int32).toUInt32 &&& Int32.toUInt32 31)).toInt32) - ((((l5_3 * 1103515245) + 12345).toUInt32 >>> ((8 : Int32).toUInt32 &&& Int32.toUInt32 31)).toInt32) / (i3 64) * (i3 64)).toInt) ∧ ((((((l5_3 * 1103515245) + 12345).toUInt32 >>> ((8 : Int32).toUInt32 &&& Int32.toUInt32 31)).toInt32) - ((((l5_3 * 1103515245) + 12345).toUInt32 >>> ((8 : Int32).toUInt32 &&& Int32.toUInt32 31)).toInt32) / (i3 64) * (i3 64)).toInt < (i3 64).toInt) := kd_remv (toj4 c9 ktoj0) (toj2 s15)
            refine ko_irem mi_k78.1 (ax := (0, 0, 0, 0, 0)) (mi_k78.2 _ _ (by rfl)) (toj3 c9 ktoj0) ?_
            have hG17 := kG_call hGg1 hL3 (by decide +kernel)
            have hc18 : (i3 3200).toInt = (i 64).toInt := congrArg Int32.toInt (O3_1.1.1.trans (hG17.fi 64 rfl))
            refine ko_callI mi_k78.1 (pc := 72) (ls := [(5, .int ((l5_3 * 1103515245) + 12345)), (6, .int l6_3), (0, .ref 49), (1, .ref 1), (2, .int x2), (3, .int x3), (4, .int x4)]) (st := [.int (((((l5_3 * 1103515245) + 12345).toUInt32 >>> ((8 : Int32).toUInt32 &&& Int32.toUInt32 31)).toInt32) - ((((l5_3 * 1103515245) + 12345).toUInt32 >>> ((8 : Int32).toUInt32 &&& Int32.toUInt32 31)).toInt32) / (i3 64) * (i3 64)), .ref 50]) (h := ks i3 a3 q3 r3) (i := (.invokevirtual 63, 3, 29, 0, 9, 0, 220)) (mi_k78.2 _ _ (by rfl)) (ft_invS mi_pq29 (by rfl)) (cy := mi_c29) mi_pq29 rfl (kg29_50 hL3.I hL3.R (((((l5_3 * 1103515245) + 12345).toUInt32 >>> ((8 : Int32).toUInt32 &&& Int32.toUInt32 31)).toInt32) - ((((l5_3 * 1103515245) + 12345).toUInt32 >>> ((8 : Int32).toUInt32 &&& Int32.toUInt32 31)).toInt32) / (i3 64) * (i3 64)) (toj5 efi3_64 efig1_64 hc18 s16.1 s16.2) (kNoW_fr hG17 (by decide +kernel) hr hN) O3_1) (by decide) ?_
            intro vg19 ig19 ag19 qg19 rg19 kg19 hg19
            have hGg19 := kG_call hL3 kg19 (by decide +kernel)
            obtain ⟨hg19, og19⟩ := hg19
            have hG21 := kG_call hGg1 hL3 (by decide +kernel)
            have kn20 := (gKn_fr hG21 (by decide +kernel) : gKn i3 a3 = gKn i a)
            have oT22 := og19
            rw [kn20] at oT22
            have tT23 : kThm ig19 ag19 rg19 (gIn (gKn i a) (((((l5_3 * 1103515245) + 12345).toUInt32 >>> ((8 : Int32).toUInt32 &&& Int32.toUInt32 31)).toInt32) - ((((l5_3 * 1103515245) + 12345).toUInt32 >>> ((8 : Int32).toUInt32 &&& Int32.toUInt32 31)).toInt32) / (i3 64) * (i3 64)) ((gDm (gKn i a) (i 64) x4 (x2, gB i a) l6_3.toInt.toNat).2)) := oT22.1
            have s24 : (l6_3 + 1).toInt = l6_3.toInt + (1 : Int32).toInt := kd_add (toj6 p3_0 ktoj1) (toj7 c6 hp0.2 ktoj1)
            first | refine fo_goL mi_k78 fz78_9_3_14 [(6, .int (l6_3 + 1)), (5, .int ((l5_3 * 1103515245) + 12345)), (0, .ref 49), (1, .ref 1), (2, .int x2), (3, .int x3), (4, .int x4)] [] (by rfl) ?_ | refine fo_goL mi_k78 fz78_75_3_14 [(6, .int (l6_3 + 1)), (5, .int ((l5_3 * 1103515245) + 12345)), (0, .ref 49), (1, .ref 1), (2, .int x2), (3, .int x3), (4, .int x4)] [] (by rfl) ?_ | refine ft_go mi_k78 3 14 [(6, .int (l6_3 + 1)), (5, .int ((l5_3 * 1103515245) + 12345)), (0, .ref 49), (1, .ref 1), (2, .int x2), (3, .int x3), (4, .int x4)] [] ig19 ag19 qg19 rg19 (by rfl) ?_
            have efig19_64 : (ig19 64).toInt = (i3 64).toInt := kg19.ti 64 rfl
            exact ih3 _ _ _ _ _ _ hGg19 (toj8 p3_0 s24 ktoj1) (toj9 c6 s24 ktoj1) (toj10 c9 efig19_64 ktoj0) (toj11 efi3_64 efig19_64 efig1_64) (congrArg Prod.fst (gD_no (n1 := (i3 64)) (((hL3.fi 64 rfl).trans (kg1.fi 64 rfl)) : (i3 64) = i 64) O3_0 (toj2 p3_0) (toj12 s24 ktoj1) (toj13 c14))).symm (kThm_c tT23 (congrArg Prod.snd (gD_no (n1 := (i3 64)) (((hL3.fi 64 rfl).trans (kg1.fi 64 rfl)) : (i3 64) = i 64) O3_0 (toj2 p3_0) (toj12 s24 ktoj1) (toj13 c14)))) (kj_meas (toj14 s24 ktoj1) (toj15 c6) hm3)
          ·
            have c25 : (((((l5_3 * 1103515245) + 12345).toUInt32 >>> ((16 : Int32).toUInt32 &&& Int32.toUInt32 31)).toInt32) - ((((l5_3 * 1103515245) + 12345).toUInt32 >>> ((16 : Int32).toUInt32 &&& Int32.toUInt32 31)).toInt32) / 12 * 12).toInt < x4.toInt := kd_leF c; clear c
            first | refine ft_goS mi_k78 2 55 [.ref 50] (by rfl) ?_ | refine ft_go mi_k78 2 55 [(5, .int ((l5_3 * 1103515245) + 12345)), (6, .int l6_3), (0, .ref 49), (1, .ref 1), (2, .int x2), (3, .int x3), (4, .int x4)] [.ref 50] i3 a3 q3 r3 (by rfl) ?_
            refine ko_callN mi_k78.1 (pc := 55) (ls := [(5, .int ((l5_3 * 1103515245) + 12345)), (6, .int l6_3), (0, .ref 49), (1, .ref 1), (2, .int x2), (3, .int x3), (4, .int x4)]) (st := [.ref 50]) (h := ks i3 a3 q3 r3) (i := (.invokevirtual 72, 3, 32, 0, 9, 0, 232)) (mi_k78.2 _ _ (by rfl)) (ft_invS mi_pq32 (by rfl)) (cy := mi_c32) mi_pq32 rfl (kg32_50 hL3.I hL3.R O3_1) (by decide) ?_
            intro ig26 ag26 qg26 rg26 kg26 hg26
            have hGg26 := kG_call hL3 kg26 (by decide +kernel)
            obtain ⟨hg26, og26⟩ := hg26
            have tT27 : kThm ig26 ag26 rg26 (gEve ((gDm (gKn i a) (i 64) x4 (x2, gB i a) l6_3.toInt.toNat).2)) := og26
            have s28 : (0 : Int) ≤ ((((l5_3 * 1103515245) + 12345).toUInt32 >>> ((8 : Int32).toUInt32 &&& Int32.toUInt32 31)).toInt32).toInt := kd_ushr 8 (by decide) (by decide) (by decide)
            have efig26_64 : (ig26 64).toInt = (i3 64).toInt := kg26.ti 64 rfl
            first | refine ft_goS mi_k78 7 71 [.int (ig26 64), .int ((((l5_3 * 1103515245) + 12345).toUInt32 >>> ((8 : Int32).toUInt32 &&& Int32.toUInt32 31)).toInt32), .ref 50] (by rfl) ?_ | refine ft_go mi_k78 7 71 [(5, .int ((l5_3 * 1103515245) + 12345)), (6, .int l6_3), (0, .ref 49), (1, .ref 1), (2, .int x2), (3, .int x3), (4, .int x4)] [.int (ig26 64), .int ((((l5_3 * 1103515245) + 12345).toUInt32 >>> ((8 : Int32).toUInt32 &&& Int32.toUInt32 31)).toInt32), .ref 50] ig26 ag26 qg26 rg26 (by rfl) ?_
            have s29 : ((0 : Int) ≤ (((((l5_3 * 1103515245) + 12345).toUInt32 >>> ((8 : Int32).toUInt32 &&& Int32.toUInt32 31)).toInt32) - ((((l5_3 * 1103515245) + 12345).toUInt32 >>> ((8 : Int32).toUInt32 &&& Int32.toUInt32 31)).toInt32) / (ig26 64) * (ig26 64)).toInt) ∧ ((((((l5_3 * 1103515245) + 12345).toUInt32 >>> ((8 : Int32).toUInt32 &&& Int32.toUInt32 31)).toInt32) - ((((l5_3 * 1103515245) + 12345).toUInt32 >>> ((8 : Int32).toUInt32 &&& Int32.toUInt32 31)).toInt32) / (ig26 64) * (ig26 64)).toInt < (ig26 64).toInt) := kd_remv (toj17 c9 efig26_64 ktoj0) (toj2 s28)
            refine ko_irem mi_k78.1 (ax := (0, 0, 0, 0, 0)) (mi_k78.2 _ _ (by rfl)) (toj16 c9 efig26_64 ktoj0) ?_
            have hG30 := kG_call hGg1 hGg26 (by decide +kernel)
            have hc31 : (ig26 3200).toInt = (i 64).toInt := congrArg Int32.toInt (tT27.1.1.trans (hG30.fi 64 rfl))
            refine ko_callI mi_k78.1 (pc := 72) (ls := [(5, .int ((l5_3 * 1103515245) + 12345)), (6, .int l6_3), (0, .ref 49), (1, .ref 1), (2, .int x2), (3, .int x3), (4, .int x4)]) (st := [.int (((((l5_3 * 1103515245) + 12345).toUInt32 >>> ((8 : Int32).toUInt32 &&& Int32.toUInt32 31)).toInt32) - ((((l5_3 * 1103515245) + 12345).toUInt32 >>> ((8 : Int32).toUInt32 &&& Int32.toUInt32 31)).toInt32) / (ig26 64) * (ig26 64)), .ref 50]) (h := ks ig26 ag26 qg26 rg26) (i := (.invokevirtual 63, 3, 29, 0, 9, 0, 220)) (mi_k78.2 _ _ (by rfl)) (ft_invS mi_pq29 (by rfl)) (cy := mi_c29) mi_pq29 rfl (kg29_50 hGg26.I hGg26.R (((((l5_3 * 1103515245) + 12345).toUInt32 >>> ((8 : Int32).toUInt32 &&& Int32.toUInt32 31)).toInt32) - ((((l5_3 * 1103515245) + 12345).toUInt32 >>> ((8 : Int32).toUInt32 &&& Int32.toUInt32 31)).toInt32) / (ig26 64) * (ig26 64)) (toj18 efi3_64 efig1_64 efig26_64 hc31 s29.1 s29.2) (kNoW_fr hG30 (by decide +kernel) hr hN) tT27) (by decide) ?_
            intro vg32 ig32 ag32 qg32 rg32 kg32 hg32
            have hGg32 := kG_call hGg26 kg32 (by decide +kernel)
            obtain ⟨hg32, og32⟩ := hg32
            have hG34 := kG_call hGg1 hGg26 (by decide +kernel)
            have kn33 := (gKn_fr hG34 (by decide +kernel) : gKn ig26 ag26 = gKn i a)
            have oT35 := og32
            rw [kn33] at oT35
            have tT36 : kThm ig32 ag32 rg32 (gIn (gKn i a) (((((l5_3 * 1103515245) + 12345).toUInt32 >>> ((8 : Int32).toUInt32 &&& Int32.toUInt32 31)).toInt32) - ((((l5_3 * 1103515245) + 12345).toUInt32 >>> ((8 : Int32).toUInt32 &&& Int32.toUInt32 31)).toInt32) / (ig26 64) * (ig26 64)) (gEve ((gDm (gKn i a) (i 64) x4 (x2, gB i a) l6_3.toInt.toNat).2))) := oT35.1
            have s37 : (l6_3 + 1).toInt = l6_3.toInt + (1 : Int32).toInt := kd_add (toj6 p3_0 ktoj1) (toj7 c6 hp0.2 ktoj1)
            first | refine fo_goL mi_k78 fz78_9_3_14 [(6, .int (l6_3 + 1)), (5, .int ((l5_3 * 1103515245) + 12345)), (0, .ref 49), (1, .ref 1), (2, .int x2), (3, .int x3), (4, .int x4)] [] (by rfl) ?_ | refine fo_goL mi_k78 fz78_75_3_14 [(6, .int (l6_3 + 1)), (5, .int ((l5_3 * 1103515245) + 12345)), (0, .ref 49), (1, .ref 1), (2, .int x2), (3, .int x3), (4, .int x4)] [] (by rfl) ?_ | refine ft_go mi_k78 3 14 [(6, .int (l6_3 + 1)), (5, .int ((l5_3 * 1103515245) + 12345)), (0, .ref 49), (1, .ref 1), (2, .int x2), (3, .int x3), (4, .int x4)] [] ig32 ag32 qg32 rg32 (by rfl) ?_
            have efig32_64 : (ig32 64).toInt = (ig26 64).toInt := kg32.ti 64 rfl
            exact ih3 _ _ _ _ _ _ hGg32 (toj8 p3_0 s37 ktoj1) (toj9 c6 s37 ktoj1) (toj19 c9 efig26_64 efig32_64 ktoj0) (toj20 efi3_64 efig1_64 efig26_64 efig32_64) (congrArg Prod.fst (gD_yes (n1 := (ig26 64)) ((((kg26.fi 64 rfl).trans (hL3.fi 64 rfl)).trans (kg1.fi 64 rfl)) : (ig26 64) = i 64) O3_0 (toj2 p3_0) (toj12 s37 ktoj1) (toj21 c25))).symm (kThm_c tT36 (congrArg Prod.snd (gD_yes (n1 := (ig26 64)) ((((kg26.fi 64 rfl).trans (hL3.fi 64 rfl)).trans (kg1.fi 64 rfl)) : (ig26 64) = i 64) O3_0 (toj2 p3_0) (toj12 s37 ktoj1) (toj21 c25)))) (kj_meas (toj14 s37 ktoj1) (toj15 c6) hm3)
  have efig1_64 : (ig1 64).toInt = (i 64).toInt := kg1.ti 64 rfl
  exact lp3 _ _ _ _ _ _ _ (kG_self _ hGg1.I hGg1.R) (toj22 ktoj0) (toj23 hp0.1 ktoj0) (toj24 ktoj0) (toj25 efig1_64) (congrArg Prod.fst (gDm_0 (P := (x2, gB i a)) ktoj0)).symm (kThm_c tT2 (congrArg Prod.snd (gDm_0 (P := (x2, gB i a)) ktoj0))) (Nat.lt_succ_self _)
def yw101_0 : kW := ([645, 3200, 3206, 3207, 3208, 3209, 3214, 3215, 3216, 3586, 3781, 6405], [13, 51, 52, 53, 54, 55, 57, 58, 62, 63, 65, 66, 67, 68, 69, 70, 71, 72, 73, 103], [], [1])
def yw101_0_L85 : kW := ([645, 3200, 3206, 3207, 3208, 3209, 3214, 3215, 3216, 3586, 3781, 6405], [13, 51, 52, 53, 54, 55, 57, 58, 62, 63, 65, 66, 67, 68, 69, 70, 71, 72, 73, 103], [], [1])
set_option maxRecDepth 100000 in
theorem ke101_0 {i : Nat → Int32} {a : Nat → List Int32} {q : Nat → List Int64} {r : Nat → Nat} (hI : kI i a q) (hr : kr r) (x1 : Int32) (x2 : Int32) (x3 : Int32) (hN : kNoW i a r) : km 11 101 [.ref 0, .int x1, .int x2, .int x3] (ks i a q r) (kVI yw101_0 i a q r (fun v i1 a1 q1 r1 => (True) ∧ cDw ((0 : Int) ≤ x2.toInt ∧ ((1 : Int) ≤ (x2 / 10000).toInt ∧ (x2 / 10000).toInt ≤ 30) ∧ ((1 : Int) ≤ (x2 / 100 - x2 / 100 / 100 * 100).toInt ∧ (x2 / 100 - x2 / 100 / 100 * 100).toInt ≤ 60) ∧ (x2 - x2 / 100 * 100).toInt ≤ 12 ∧ (x3.toInt = -1 ∨ ((0 : Int) ≤ x3.toInt ∧ x3.toInt < (i 64).toInt))) v (v = (gDc (gKn i a) (i 64) (dRm x2 100) (gM (i 64) (dRm (x2 / 100) 100)) x3 (gB i a) x1 (x2 / 10000).toInt.toNat).1))) := by
  have hG := kG_self yw101_0 hI hr
  refine km_ofI (q := (mi_h101, mi_c101)) rfl (by decide) (Nat.le_of_ble_eq_true rfl) ?_
  intro P hP
  have s1 : 0 ≤ x2.toInt → (x2 / 10000).toInt = (x2.toInt / 10000) := kd_div 10000 ktoj10000 (by decide)
  have s2 : 0 ≤ x2.toInt → (x2 / 100).toInt = (x2.toInt / 100) := kd_div 100 ktoj100 (by decide)
  have s3 : 0 ≤ (x2 / 100).toInt → ((x2 / 100) - (x2 / 100) / 100 * 100).toInt = ((x2 / 100).toInt % 100) := kd_rem 100 ktoj100 (by decide)
  have s4 : 0 ≤ x2.toInt → (x2 - x2 / 100 * 100).toInt = (x2.toInt % 100) := kd_rem 100 ktoj100 (by decide)
  first | refine fo_goL mi_k101 fz101_0_15_23 [(6, .int (x2 - x2 / 100 * 100)), (5, .int ((x2 / 100) - (x2 / 100) / 100 * 100)), (4, .int (x2 / 10000)), (0, .ref 0), (1, .int x1), (2, .int x2), (3, .int x3)] [.int x2] (by rfl) ?_ | refine ft_go mi_k101 15 23 [(6, .int (x2 - x2 / 100 * 100)), (5, .int ((x2 / 100) - (x2 / 100) / 100 * 100)), (4, .int (x2 / 10000)), (0, .ref 0), (1, .int x1), (2, .int x2), (3, .int x3)] [.int x2] i a q r (by rfl) ?_
  refine ft_ifS mi_k101 (decide (x2 < 0)) 59 26 [] (by rfl) (fun c => ?_) (fun c => ?_)
  ·
    have c5 : x2.toInt < (0 : Int32).toInt := kd_lt c; clear c
    first | refine ft_goS mi_k101 1 60 [.int (-1)] (by rfl) ?_ | refine ft_go mi_k101 1 60 [(6, .int (x2 - x2 / 100 * 100)), (5, .int ((x2 / 100) - (x2 / 100) / 100 * 100)), (4, .int (x2 / 10000)), (0, .ref 0), (1, .int x1), (2, .int x2), (3, .int x3)] [.int (-1)] i a q r (by rfl) ?_
    exact ft_ret mi_k101 (by rfl) (hP (-1) _ _ _ _ hG ⟨trivial, (Or.inl ⟨(toj26 c5 ktoj0), rfl⟩)⟩)
  ·
    have c6 : (0 : Int32).toInt ≤ x2.toInt := kd_ltF c; clear c
    first | refine ft_goS mi_k101 3 31 [.int 30, .int 1, .int (x2 / 10000)] (by rfl) ?_ | refine ft_go mi_k101 3 31 [(6, .int (x2 - x2 / 100 * 100)), (5, .int ((x2 / 100) - (x2 / 100) / 100 * 100)), (4, .int (x2 / 10000)), (0, .ref 0), (1, .int x1), (2, .int x2), (3, .int x3)] [.int 30, .int 1, .int (x2 / 10000)] i a q r (by rfl) ?_
    refine ko_callPI mi_k101.1 (pc := 31) (ls := [(6, .int (x2 - x2 / 100 * 100)), (5, .int ((x2 / 100) - (x2 / 100) / 100 * 100)), (4, .int (x2 / 10000)), (0, .ref 0), (1, .int x1), (2, .int x2), (3, .int x3)]) (st := [.int 30, .int 1, .int (x2 / 10000)]) (h := ks i a q r) (i := (.invokestatic 74, 3, 120, 0, 9, 0, 152)) (mi_k101.2 _ _ (by rfl)) (ft_invS mi_pq120 (by rfl)) (cy := mi_c120) mi_pq120 rfl (kc120 hG.I hG.R (x2 / 10000) 1 30) (by decide) ?_
    intro vg7 hg7
    rcases hg7 with ⟨eg7, hg7⟩ | ⟨eg7, hg7⟩
    ·
      subst eg7
      have z8 : ((1 : Int32).toInt ≤ (x2 / 10000).toInt) ∧ ((x2 / 10000).toInt ≤ (30 : Int32).toInt) := hg7
      first | refine ft_goS mi_k101 4 42 [.int 60, .int 1, .int ((x2 / 100) - (x2 / 100) / 100 * 100)] (by rfl) ?_ | refine ft_go mi_k101 4 42 [(6, .int (x2 - x2 / 100 * 100)), (5, .int ((x2 / 100) - (x2 / 100) / 100 * 100)), (4, .int (x2 / 10000)), (0, .ref 0), (1, .int x1), (2, .int x2), (3, .int x3)] [.int 60, .int 1, .int ((x2 / 100) - (x2 / 100) / 100 * 100)] i a q r (by rfl) ?_
      refine ko_callPI mi_k101.1 (pc := 42) (ls := [(6, .int (x2 - x2 / 100 * 100)), (5, .int ((x2 / 100) - (x2 / 100) / 100 * 100)), (4, .int (x2 / 10000)), (0, .ref 0), (1, .int x1), (2, .int x2), (3, .int x3)]) (st := [.int 60, .int 1, .int ((x2 / 100) - (x2 / 100) / 100 * 100)]) (h := ks i a q r) (i := (.invokestatic 74, 3, 120, 0, 9, 0, 152)) (mi_k101.2 _ _ (by rfl)) (ft_invS mi_pq120 (by rfl)) (cy := mi_c120) mi_pq120 rfl (kc120 hG.I hG.R ((x2 / 100) - (x2 / 100) / 100 * 100) 1 60) (by decide) ?_
      intro vg9 hg9
      rcases hg9 with ⟨eg9, hg9⟩ | ⟨eg9, hg9⟩
      ·
        subst eg9
        have z10 : ((1 : Int32).toInt ≤ ((x2 / 100) - (x2 / 100) / 100 * 100).toInt) ∧ (((x2 / 100) - (x2 / 100) / 100 * 100).toInt ≤ (60 : Int32).toInt) := hg9
        first | refine ft_goS mi_k101 4 53 [.int 12, .int 0, .int (x2 - x2 / 100 * 100)] (by rfl) ?_ | refine ft_go mi_k101 4 53 [(6, .int (x2 - x2 / 100 * 100)), (5, .int ((x2 / 100) - (x2 / 100) / 100 * 100)), (4, .int (x2 / 10000)), (0, .ref 0), (1, .int x1), (2, .int x2), (3, .int x3)] [.int 12, .int 0, .int (x2 - x2 / 100 * 100)] i a q r (by rfl) ?_
        refine ko_callPI mi_k101.1 (pc := 53) (ls := [(6, .int (x2 - x2 / 100 * 100)), (5, .int ((x2 / 100) - (x2 / 100) / 100 * 100)), (4, .int (x2 / 10000)), (0, .ref 0), (1, .int x1), (2, .int x2), (3, .int x3)]) (st := [.int 12, .int 0, .int (x2 - x2 / 100 * 100)]) (h := ks i a q r) (i := (.invokestatic 74, 3, 120, 0, 9, 0, 152)) (mi_k101.2 _ _ (by rfl)) (ft_invS mi_pq120 (by rfl)) (cy := mi_c120) mi_pq120 rfl (kc120 hG.I hG.R (x2 - x2 / 100 * 100) 0 12) (by decide) ?_
        intro vg11 hg11
        rcases hg11 with ⟨eg11, hg11⟩ | ⟨eg11, hg11⟩
        ·
          subst eg11
          have z12 : ((0 : Int32).toInt ≤ (x2 - x2 / 100 * 100).toInt) ∧ ((x2 - x2 / 100 * 100).toInt ≤ (12 : Int32).toInt) := hg11
          first | refine ft_goS mi_k101 3 63 [.int (-1), .int x3] (by rfl) ?_ | refine ft_go mi_k101 3 63 [(6, .int (x2 - x2 / 100 * 100)), (5, .int ((x2 / 100) - (x2 / 100) / 100 * 100)), (4, .int (x2 / 10000)), (0, .ref 0), (1, .int x1), (2, .int x2), (3, .int x3)] [.int (-1), .int x3] i a q r (by rfl) ?_
          refine ft_ifS mi_k101 (x3 == (-1)) 76 66 [] (by rfl) (fun c => ?_) (fun c => ?_)
          ·
            have c13 : x3.toInt = ((-1) : Int32).toInt := kd_eq c; clear c
            first | refine fo_goL mi_k101 fz101_76_6_85 [(9, .int 0), (8, .int x1), (7, .int 0), (6, .int (x2 - x2 / 100 * 100)), (5, .int ((x2 / 100) - (x2 / 100) / 100 * 100)), (4, .int (x2 / 10000)), (0, .ref 0), (1, .int x1), (2, .int x2), (3, .int x3)] [] (by rfl) ?_ | refine ft_goL mi_k101 6 85 [(9, .int 0), (8, .int x1), (7, .int 0), (6, .int (x2 - x2 / 100 * 100)), (5, .int ((x2 / 100) - (x2 / 100) / 100 * 100)), (4, .int (x2 / 10000)), (0, .ref 0), (1, .int x1), (2, .int x2), (3, .int x3)] [] (by rfl) ?_ | refine ft_go mi_k101 6 85 [(9, .int 0), (8, .int x1), (7, .int 0), (6, .int (x2 - x2 / 100 * 100)), (5, .int ((x2 / 100) - (x2 / 100) / 100 * 100)), (4, .int (x2 / 10000)), (0, .ref 0), (1, .int x1), (2, .int x2), (3, .int x3)] [] i a q r (by rfl) ?_
            have lp14 : ∀ (nz : Nat) (i14 : Nat → Int32) (a14 : Nat → List Int32) (q14 : Nat → List Int64) (r14 : Nat → Nat) (l9_14 : Int32) (l8_14 : Int32) (l7_14 : Int32), kG yw101_0_L85 i a q r i14 a14 q14 r14 → (0 : Int) ≤ l9_14.toInt → l9_14.toInt ≤ (x2 / 10000).toInt → (i14 64).toInt = (i 64).toInt → l7_14 = (gDc (gKn i a) (i 64) (dRm x2 100) (gM (i 64) (dRm (x2 / 100) 100)) x3 (gB i a) x1 l9_14.toInt.toNat).1 → l8_14 = (gDc (gKn i a) (i 64) (dRm x2 100) (gM (i 64) (dRm (x2 / 100) 100)) x3 (gB i a) x1 l9_14.toInt.toNat).2 → (((x2 / 10000).toInt - l9_14.toInt)).toNat < nz → ko 11 (mi_h101, mi_c101) P (85, [(9, .int l9_14), (8, .int l8_14), (7, .int l7_14), (6, .int (x2 - x2 / 100 * 100)), (5, .int ((x2 / 100) - (x2 / 100) / 100 * 100)), (4, .int (x2 / 10000)), (0, .ref 0), (1, .int x1), (2, .int x2), (3, .int x3)], [], (0, 0), ks i14 a14 q14 r14) := by
              intro nz
              induction nz with
              | zero =>
                intro _ _ _ _ _ _ _ _ _ _ _ _ _ hm
                exact absurd hm (Nat.not_lt_zero _)
              | succ nz ih14 =>
                intro i14 a14 q14 r14 l9_14 l8_14 l7_14 hL14 p14_0 p14_1 p14_2 O14_0 O14_1 hm14
                have efi14_64 : (i14 64).toInt = (i 64).toInt := hL14.ti 64 rfl
                first | refine ft_goL mi_k101 2 89 [(9, .int l9_14), (8, .int l8_14), (7, .int l7_14), (6, .int (x2 - x2 / 100 * 100)), (5, .int ((x2 / 100) - (x2 / 100) / 100 * 100)), (4, .int (x2 / 10000)), (0, .ref 0), (1, .int x1), (2, .int x2), (3, .int x3)] [.int (x2 / 10000), .int l9_14] (by rfl) ?_ | refine ft_go mi_k101 2 89 [(9, .int l9_14), (8, .int l8_14), (7, .int l7_14), (6, .int (x2 - x2 / 100 * 100)), (5, .int ((x2 / 100) - (x2 / 100) / 100 * 100)), (4, .int (x2 / 10000)), (0, .ref 0), (1, .int x1), (2, .int x2), (3, .int x3)] [.int (x2 / 10000), .int l9_14] i14 a14 q14 r14 (by rfl) ?_
                refine ft_ifS mi_k101 (decide ((x2 / 10000) ≤ l9_14)) 130 92 [] (by rfl) (fun c => ?_) (fun c => ?_)
                ·
                  have c15 : (x2 / 10000).toInt ≤ l9_14.toInt := kd_le c; clear c
                  have hG16 := kG_call hG hL14 (by decide +kernel)
                  first | refine ft_goS mi_k101 1 132 [.int l7_14] (by rfl) ?_ | refine ft_go mi_k101 1 132 [(9, .int l9_14), (8, .int l8_14), (7, .int l7_14), (6, .int (x2 - x2 / 100 * 100)), (5, .int ((x2 / 100) - (x2 / 100) / 100 * 100)), (4, .int (x2 / 10000)), (0, .ref 0), (1, .int x1), (2, .int x2), (3, .int x3)] [.int l7_14] i14 a14 q14 r14 (by rfl) ?_
                  exact ft_ret mi_k101 (by rfl) (hP l7_14 _ _ _ _ hG16 ⟨trivial, (Or.inr ⟨(toj30 c13 c6 z10.1 z10.2 z12.2 z8.1 z8.2 ktojm1 ktoj0 ktoj1 ktoj60 ktoj12 ktoj30), O14_0.trans (congrArg (fun j : Nat => (gDc (gKn i a) (i 64) (dRm x2 100) (gM (i 64) (dRm (x2 / 100) 100)) x3 (gB i a) x1 j).1) (congrArg Int.toNat (toj31 c15 p14_1)))⟩)⟩)
                ·
                  have c17 : l9_14.toInt < (x2 / 10000).toInt := kd_leF c; clear c
                  first | refine fo_goS mi_k101 fz101_92_7_106 [.int (x2 - x2 / 100 * 100), .int ((x2 / 100) - (x2 / 100) / 100 * 100), .int l8_14, .ref 1, .ref 49] (by rfl) ?_ | refine ft_go mi_k101 7 106 [(9, .int l9_14), (8, .int l8_14), (7, .int l7_14), (6, .int (x2 - x2 / 100 * 100)), (5, .int ((x2 / 100) - (x2 / 100) / 100 * 100)), (4, .int (x2 / 10000)), (0, .ref 0), (1, .int x1), (2, .int x2), (3, .int x3)] [.int (x2 - x2 / 100 * 100), .int ((x2 / 100) - (x2 / 100) / 100 * 100), .int l8_14, .ref 1, .ref 49] i14 a14 q14 r14 (by rfl) ?_
                  have hG18 := kG_call hG hL14 (by decide +kernel)
                  refine ko_callI mi_k101.1 (pc := 106) (ls := [(9, .int l9_14), (8, .int l8_14), (7, .int l7_14), (6, .int (x2 - x2 / 100 * 100)), (5, .int ((x2 / 100) - (x2 / 100) / 100 * 100)), (4, .int (x2 / 10000)), (0, .ref 0), (1, .int x1), (2, .int x2), (3, .int x3)]) (st := [.int (x2 - x2 / 100 * 100), .int ((x2 / 100) - (x2 / 100) / 100 * 100), .int l8_14, .ref 1, .ref 49]) (h := ks i14 a14 q14 r14) (i := (.invokevirtual 251, 3, 78, 0, 9, 0, 278)) (mi_k101.2 _ _ (by rfl)) (ft_invS mi_pq78 (by rfl)) (cy := mi_c78) mi_pq78 rfl (ke78_49_1 hL14.I hL14.R l8_14 ((x2 / 100) - (x2 / 100) / 100 * 100) (x2 - x2 / 100 * 100) (toj32 z10.1 z10.2 ktoj1 ktoj60) (kNoW_fr hG18 (by decide +kernel) hr hN)) (by decide) ?_
                  intro vg19 ig19 ag19 qg19 rg19 kg19 hg19
                  have hGg19 := kG_call hL14 kg19 (by decide +kernel)
                  obtain ⟨hg19, og19⟩ := hg19
                  have oD20 := og19
                  have hG21 := kG_call hG hL14 (by decide +kernel)
                  rw [(gKn_fr hG21 (by decide +kernel) : gKn i14 a14 = gKn i a), ((hL14.fi 64 rfl) : i14 64 = i 64)] at oD20
                  have tT22 : kThm ig19 ag19 rg19 ((gDm (gKn i a) (i 64) (x2 - x2 / 100 * 100) (l8_14, gB i14 a14) (gM (i 64) ((x2 / 100) - (x2 / 100) / 100 * 100))).2) := oD20.2
                  have hG23 := kG_call hG hGg19 (by decide +kernel)
                  have hc24 : (ig19 3200).toInt = (i 64).toInt := congrArg Int32.toInt (tT22.1.1.trans (hG23.fi 64 rfl))
                  first | refine fo_goL mi_k101 fz101_109_5_118 [(8, .int vg19), (9, .int l9_14), (7, .int l7_14), (6, .int (x2 - x2 / 100 * 100)), (5, .int ((x2 / 100) - (x2 / 100) / 100 * 100)), (4, .int (x2 / 10000)), (0, .ref 0), (1, .int x1), (2, .int x2), (3, .int x3)] [.int x3, .ref 49, .int l7_14] (by rfl) ?_ | refine ft_go mi_k101 5 118 [(8, .int vg19), (9, .int l9_14), (7, .int l7_14), (6, .int (x2 - x2 / 100 * 100)), (5, .int ((x2 / 100) - (x2 / 100) / 100 * 100)), (4, .int (x2 / 10000)), (0, .ref 0), (1, .int x1), (2, .int x2), (3, .int x3)] [.int x3, .ref 49, .int l7_14] ig19 ag19 qg19 rg19 (by rfl) ?_
                  refine ko_callPI mi_k101.1 (pc := 118) (ls := [(8, .int vg19), (9, .int l9_14), (7, .int l7_14), (6, .int (x2 - x2 / 100 * 100)), (5, .int ((x2 / 100) - (x2 / 100) / 100 * 100)), (4, .int (x2 / 10000)), (0, .ref 0), (1, .int x1), (2, .int x2), (3, .int x3)]) (st := [.int x3, .ref 49, .int l7_14]) (h := ks ig19 ag19 qg19 rg19) (i := (.invokevirtual 171, 3, 62, 0, 9, 0, 233)) (mi_k101.2 _ _ (by rfl)) (ft_invS mi_pq62 (by rfl)) (cy := mi_c62) mi_pq62 rfl (ke62_49 hGg19.I hGg19.R x3) (by decide) ?_
                  intro vg25 hg25
                  obtain ⟨hg25, og25⟩ := hg25
                  have q26 : vg25 = (ag19 63).getD (2 : Int32).toNatClampNeg 0 := og25.2 (toj38 c13 ktojm1)
                  have b27 : ((-2147483648 : Int) ≤ l7_14.toInt) ∧ (l7_14.toInt ≤ 2147483647) := kd_bd l7_14
                  have b28 : ((-2147483648 : Int) ≤ vg25.toInt) ∧ (vg25.toInt ≤ 2147483647) := kd_bd vg25
                  have s29 : (l9_14 + 1).toInt = l9_14.toInt + (1 : Int32).toInt := kd_add (toj6 p14_0 ktoj1) (toj39 c17 z8.2 ktoj30 ktoj1)
                  first | refine fo_goL mi_k101 fz101_79_4_85 [(9, .int (l9_14 + 1)), (7, .int (l7_14 + vg25)), (8, .int vg19), (6, .int (x2 - x2 / 100 * 100)), (5, .int ((x2 / 100) - (x2 / 100) / 100 * 100)), (4, .int (x2 / 10000)), (0, .ref 0), (1, .int x1), (2, .int x2), (3, .int x3)] [] (by rfl) ?_ | refine fo_goL mi_k101 fz101_121_4_85 [(9, .int (l9_14 + 1)), (7, .int (l7_14 + vg25)), (8, .int vg19), (6, .int (x2 - x2 / 100 * 100)), (5, .int ((x2 / 100) - (x2 / 100) / 100 * 100)), (4, .int (x2 / 10000)), (0, .ref 0), (1, .int x1), (2, .int x2), (3, .int x3)] [] (by rfl) ?_ | refine ft_go mi_k101 4 85 [(9, .int (l9_14 + 1)), (7, .int (l7_14 + vg25)), (8, .int vg19), (6, .int (x2 - x2 / 100 * 100)), (5, .int ((x2 / 100) - (x2 / 100) / 100 * 100)), (4, .int (x2 / 10000)), (0, .ref 0), (1, .int x1), (2, .int x2), (3, .int x3)] [] ig19 ag19 qg19 rg19 (by rfl) ?_
                  refine ko_perm [(9, .int (l9_14 + 1)), (8, .int vg19), (7, .int (l7_14 + vg25)), (6, .int (x2 - x2 / 100 * 100)), (5, .int ((x2 / 100) - (x2 / 100) / 100 * 100)), (4, .int (x2 / 10000)), (0, .ref 0), (1, .int x1), (2, .int x2), (3, .int x3)] (List.forall_mem_cons.mpr ⟨(List.Mem.head _), (List.forall_mem_cons.mpr ⟨(List.Mem.tail _ (List.Mem.tail _ (List.Mem.head _))), (List.forall_mem_cons.mpr ⟨(List.Mem.tail _ (List.Mem.head _)), (List.forall_mem_cons.mpr ⟨(List.Mem.tail _ (List.Mem.tail _ (List.Mem.tail _ (List.Mem.head _)))), (List.forall_mem_cons.mpr ⟨(List.Mem.tail _ (List.Mem.tail _ (List.Mem.tail _ (List.Mem.tail _ (List.Mem.head _))))), (List.forall_mem_cons.mpr ⟨(List.Mem.tail _ (List.Mem.tail _ (List.Mem.tail _ (List.Mem.tail _ (List.Mem.tail _ (List.Mem.head _)))))), (List.forall_mem_cons.mpr ⟨(List.Mem.tail _ (List.Mem.tail _ (List.Mem.tail _ (List.Mem.tail _ (List.Mem.tail _ (List.Mem.tail _ (List.Mem.head _))))))), (List.forall_mem_cons.mpr ⟨(List.Mem.tail _ (List.Mem.tail _ (List.Mem.tail _ (List.Mem.tail _ (List.Mem.tail _ (List.Mem.tail _ (List.Mem.tail _ (List.Mem.head _)))))))), (List.forall_mem_cons.mpr ⟨(List.Mem.tail _ (List.Mem.tail _ (List.Mem.tail _ (List.Mem.tail _ (List.Mem.tail _ (List.Mem.tail _ (List.Mem.tail _ (List.Mem.tail _ (List.Mem.head _))))))))), (List.forall_mem_cons.mpr ⟨(List.Mem.tail _ (List.Mem.tail _ (List.Mem.tail _ (List.Mem.tail _ (List.Mem.tail _ (List.Mem.tail _ (List.Mem.tail _ (List.Mem.tail _ (List.Mem.tail _ (List.Mem.head _)))))))))), (fun _ h => absurd h List.not_mem_nil)⟩)⟩)⟩)⟩)⟩)⟩)⟩)⟩)⟩)⟩) ?_
                  have efig19_64 : (ig19 64).toInt = (i14 64).toInt := kg19.ti 64 rfl
                  exact ih14 _ _ _ _ _ _ _ hGg19 (toj8 p14_0 s29 ktoj1) (toj9 c17 s29 ktoj1) (toj40 efi14_64 efig19_64) (gDc_step (m := gM (i 64) (dRm (x2 / 100) 100)) (dk := dRm x2 100) O14_0 O14_1 (toj2 p14_0) (toj12 s29 ktoj1) ((dF_la (toj41 c13 ktojm1) (q26.trans ((congrArg (fun z : Nat => (ag19 63).getD z 0) (by decide : (2 : Int32).toNatClampNeg = 2)).trans (kThm_la tT22)))).trans (gB_dmF ((hL14.fa 118 rfl) : a14 118 = a 118))) (oD20.1.trans (gB_dm1 ((hL14.fa 118 rfl) : a14 118 = a 118)))).1 (gDc_step (m := gM (i 64) (dRm (x2 / 100) 100)) (dk := dRm x2 100) O14_0 O14_1 (toj2 p14_0) (toj12 s29 ktoj1) ((dF_la (toj41 c13 ktojm1) (q26.trans ((congrArg (fun z : Nat => (ag19 63).getD z 0) (by decide : (2 : Int32).toNatClampNeg = 2)).trans (kThm_la tT22)))).trans (gB_dmF ((hL14.fa 118 rfl) : a14 118 = a 118))) (oD20.1.trans (gB_dm1 ((hL14.fa 118 rfl) : a14 118 = a 118)))).2 (kj_meas (toj14 s29 ktoj1) (toj15 c17) hm14)
            exact lp14 _ _ _ _ _ _ _ _ (kG_self _ hG.I hG.R) (toj22 ktoj0) (toj42 z8.1 ktoj1 ktoj0) toj43 (congrArg Prod.fst (gDc_0 ktoj0)).symm (congrArg Prod.snd (gDc_0 ktoj0)).symm (Nat.lt_succ_self _)
          ·
            have c30 : x3.toInt ≠ ((-1) : Int32).toInt := kd_eqF c; clear c
            first | refine ft_goS mi_k101 2 68 [.int x3, .ref 0] (by rfl) ?_ | refine ft_go mi_k101 2 68 [(6, .int (x2 - x2 / 100 * 100)), (5, .int ((x2 / 100) - (x2 / 100) / 100 * 100)), (4, .int (x2 / 10000)), (0, .ref 0), (1, .int x1), (2, .int x2), (3, .int x3)] [.int x3, .ref 0] i a q r (by rfl) ?_
            refine ko_callPI mi_k101.1 (pc := 68) (ls := [(6, .int (x2 - x2 / 100 * 100)), (5, .int ((x2 / 100) - (x2 / 100) / 100 * 100)), (4, .int (x2 / 10000)), (0, .ref 0), (1, .int x1), (2, .int x2), (3, .int x3)]) (st := [.int x3, .ref 0]) (h := ks i a q r) (i := (.invokevirtual 141, 3, 123, 0, 9, 0, 162)) (mi_k101.2 _ _ (by rfl)) (ft_invS mi_pq123 (by rfl)) (cy := mi_c123) mi_pq123 rfl (kc123_0 hG.I hG.R x3) (by decide) ?_
            intro vg31 hg31
            rcases hg31 with ⟨eg31, hg31⟩ | ⟨eg31, hg31⟩
            ·
              subst eg31
              have z32 : ((0 : Int) ≤ x3.toInt) ∧ (x3.toInt < (i 64).toInt) := hg31
              first | refine fo_goL mi_k101 fz101_71_7_85 [(9, .int 0), (8, .int x1), (7, .int 0), (6, .int (x2 - x2 / 100 * 100)), (5, .int ((x2 / 100) - (x2 / 100) / 100 * 100)), (4, .int (x2 / 10000)), (0, .ref 0), (1, .int x1), (2, .int x2), (3, .int x3)] [] (by rfl) ?_ | refine ft_goL mi_k101 7 85 [(9, .int 0), (8, .int x1), (7, .int 0), (6, .int (x2 - x2 / 100 * 100)), (5, .int ((x2 / 100) - (x2 / 100) / 100 * 100)), (4, .int (x2 / 10000)), (0, .ref 0), (1, .int x1), (2, .int x2), (3, .int x3)] [] (by rfl) ?_ | refine ft_go mi_k101 7 85 [(9, .int 0), (8, .int x1), (7, .int 0), (6, .int (x2 - x2 / 100 * 100)), (5, .int ((x2 / 100) - (x2 / 100) / 100 * 100)), (4, .int (x2 / 10000)), (0, .ref 0), (1, .int x1), (2, .int x2), (3, .int x3)] [] i a q r (by rfl) ?_
              have lp33 : ∀ (nz : Nat) (i33 : Nat → Int32) (a33 : Nat → List Int32) (q33 : Nat → List Int64) (r33 : Nat → Nat) (l9_33 : Int32) (l8_33 : Int32) (l7_33 : Int32), kG yw101_0_L85 i a q r i33 a33 q33 r33 → (0 : Int) ≤ l9_33.toInt → l9_33.toInt ≤ (x2 / 10000).toInt → (i33 64).toInt = (i 64).toInt → l7_33 = (gDc (gKn i a) (i 64) (dRm x2 100) (gM (i 64) (dRm (x2 / 100) 100)) x3 (gB i a) x1 l9_33.toInt.toNat).1 → l8_33 = (gDc (gKn i a) (i 64) (dRm x2 100) (gM (i 64) (dRm (x2 / 100) 100)) x3 (gB i a) x1 l9_33.toInt.toNat).2 → (((x2 / 10000).toInt - l9_33.toInt)).toNat < nz → ko 11 (mi_h101, mi_c101) P (85, [(9, .int l9_33), (8, .int l8_33), (7, .int l7_33), (6, .int (x2 - x2 / 100 * 100)), (5, .int ((x2 / 100) - (x2 / 100) / 100 * 100)), (4, .int (x2 / 10000)), (0, .ref 0), (1, .int x1), (2, .int x2), (3, .int x3)], [], (0, 0), ks i33 a33 q33 r33) := by
                intro nz
                induction nz with
                | zero =>
                  intro _ _ _ _ _ _ _ _ _ _ _ _ _ hm
                  exact absurd hm (Nat.not_lt_zero _)
                | succ nz ih33 =>
                  intro i33 a33 q33 r33 l9_33 l8_33 l7_33 hL33 p33_0 p33_1 p33_2 O33_0 O33_1 hm33
                  have efi33_64 : (i33 64).toInt = (i 64).toInt := hL33.ti 64 rfl
                  first | refine ft_goL mi_k101 2 89 [(9, .int l9_33), (8, .int l8_33), (7, .int l7_33), (6, .int (x2 - x2 / 100 * 100)), (5, .int ((x2 / 100) - (x2 / 100) / 100 * 100)), (4, .int (x2 / 10000)), (0, .ref 0), (1, .int x1), (2, .int x2), (3, .int x3)] [.int (x2 / 10000), .int l9_33] (by rfl) ?_ | refine ft_go mi_k101 2 89 [(9, .int l9_33), (8, .int l8_33), (7, .int l7_33), (6, .int (x2 - x2 / 100 * 100)), (5, .int ((x2 / 100) - (x2 / 100) / 100 * 100)), (4, .int (x2 / 10000)), (0, .ref 0), (1, .int x1), (2, .int x2), (3, .int x3)] [.int (x2 / 10000), .int l9_33] i33 a33 q33 r33 (by rfl) ?_
                  refine ft_ifS mi_k101 (decide ((x2 / 10000) ≤ l9_33)) 130 92 [] (by rfl) (fun c => ?_) (fun c => ?_)
                  ·
                    have c34 : (x2 / 10000).toInt ≤ l9_33.toInt := kd_le c; clear c
                    have hG35 := kG_call hG hL33 (by decide +kernel)
                    first | refine ft_goS mi_k101 1 132 [.int l7_33] (by rfl) ?_ | refine ft_go mi_k101 1 132 [(9, .int l9_33), (8, .int l8_33), (7, .int l7_33), (6, .int (x2 - x2 / 100 * 100)), (5, .int ((x2 / 100) - (x2 / 100) / 100 * 100)), (4, .int (x2 / 10000)), (0, .ref 0), (1, .int x1), (2, .int x2), (3, .int x3)] [.int l7_33] i33 a33 q33 r33 (by rfl) ?_
                    exact ft_ret mi_k101 (by rfl) (hP l7_33 _ _ _ _ hG35 ⟨trivial, (Or.inr ⟨(toj48 c6 z10.1 z10.2 z12.2 z32.1 z32.2 z8.1 z8.2 ktoj0 ktoj1 ktoj60 ktoj12 ktoj30), O33_0.trans (congrArg (fun j : Nat => (gDc (gKn i a) (i 64) (dRm x2 100) (gM (i 64) (dRm (x2 / 100) 100)) x3 (gB i a) x1 j).1) (congrArg Int.toNat (toj31 c34 p33_1)))⟩)⟩)
                  ·
                    have c36 : l9_33.toInt < (x2 / 10000).toInt := kd_leF c; clear c
                    first | refine fo_goS mi_k101 fz101_92_7_106 [.int (x2 - x2 / 100 * 100), .int ((x2 / 100) - (x2 / 100) / 100 * 100), .int l8_33, .ref 1, .ref 49] (by rfl) ?_ | refine ft_go mi_k101 7 106 [(9, .int l9_33), (8, .int l8_33), (7, .int l7_33), (6, .int (x2 - x2 / 100 * 100)), (5, .int ((x2 / 100) - (x2 / 100) / 100 * 100)), (4, .int (x2 / 10000)), (0, .ref 0), (1, .int x1), (2, .int x2), (3, .int x3)] [.int (x2 - x2 / 100 * 100), .int ((x2 / 100) - (x2 / 100) / 100 * 100), .int l8_33, .ref 1, .ref 49] i33 a33 q33 r33 (by rfl) ?_
                    have hG37 := kG_call hG hL33 (by decide +kernel)
                    refine ko_callI mi_k101.1 (pc := 106) (ls := [(9, .int l9_33), (8, .int l8_33), (7, .int l7_33), (6, .int (x2 - x2 / 100 * 100)), (5, .int ((x2 / 100) - (x2 / 100) / 100 * 100)), (4, .int (x2 / 10000)), (0, .ref 0), (1, .int x1), (2, .int x2), (3, .int x3)]) (st := [.int (x2 - x2 / 100 * 100), .int ((x2 / 100) - (x2 / 100) / 100 * 100), .int l8_33, .ref 1, .ref 49]) (h := ks i33 a33 q33 r33) (i := (.invokevirtual 251, 3, 78, 0, 9, 0, 278)) (mi_k101.2 _ _ (by rfl)) (ft_invS mi_pq78 (by rfl)) (cy := mi_c78) mi_pq78 rfl (ke78_49_1 hL33.I hL33.R l8_33 ((x2 / 100) - (x2 / 100) / 100 * 100) (x2 - x2 / 100 * 100) (toj32 z10.1 z10.2 ktoj1 ktoj60) (kNoW_fr hG37 (by decide +kernel) hr hN)) (by decide) ?_
                    intro vg38 ig38 ag38 qg38 rg38 kg38 hg38
                    have hGg38 := kG_call hL33 kg38 (by decide +kernel)
                    obtain ⟨hg38, og38⟩ := hg38
                    have oD39 := og38
                    have hG40 := kG_call hG hL33 (by decide +kernel)
                    rw [(gKn_fr hG40 (by decide +kernel) : gKn i33 a33 = gKn i a), ((hL33.fi 64 rfl) : i33 64 = i 64)] at oD39
                    have tT41 : kThm ig38 ag38 rg38 ((gDm (gKn i a) (i 64) (x2 - x2 / 100 * 100) (l8_33, gB i33 a33) (gM (i 64) ((x2 / 100) - (x2 / 100) / 100 * 100))).2) := oD39.2
                    have hG42 := kG_call hG hGg38 (by decide +kernel)
                    have hc43 : (ig38 3200).toInt = (i 64).toInt := congrArg Int32.toInt (tT41.1.1.trans (hG42.fi 64 rfl))
                    first | refine fo_goL mi_k101 fz101_109_5_118 [(8, .int vg38), (9, .int l9_33), (7, .int l7_33), (6, .int (x2 - x2 / 100 * 100)), (5, .int ((x2 / 100) - (x2 / 100) / 100 * 100)), (4, .int (x2 / 10000)), (0, .ref 0), (1, .int x1), (2, .int x2), (3, .int x3)] [.int x3, .ref 49, .int l7_33] (by rfl) ?_ | refine ft_go mi_k101 5 118 [(8, .int vg38), (9, .int l9_33), (7, .int l7_33), (6, .int (x2 - x2 / 100 * 100)), (5, .int ((x2 / 100) - (x2 / 100) / 100 * 100)), (4, .int (x2 / 10000)), (0, .ref 0), (1, .int x1), (2, .int x2), (3, .int x3)] [.int x3, .ref 49, .int l7_33] ig38 ag38 qg38 rg38 (by rfl) ?_
                    refine ko_callPI mi_k101.1 (pc := 118) (ls := [(8, .int vg38), (9, .int l9_33), (7, .int l7_33), (6, .int (x2 - x2 / 100 * 100)), (5, .int ((x2 / 100) - (x2 / 100) / 100 * 100)), (4, .int (x2 / 10000)), (0, .ref 0), (1, .int x1), (2, .int x2), (3, .int x3)]) (st := [.int x3, .ref 49, .int l7_33]) (h := ks ig38 ag38 qg38 rg38) (i := (.invokevirtual 171, 3, 62, 0, 9, 0, 233)) (mi_k101.2 _ _ (by rfl)) (ft_invS mi_pq62 (by rfl)) (cy := mi_c62) mi_pq62 rfl (ke62_49 hGg38.I hGg38.R x3) (by decide) ?_
                    intro vg44 hg44
                    obtain ⟨hg44, og44⟩ := hg44
                    have fig38_3200 : ((0 : Int) ≤ (ig38 3200).toInt) ∧ ((ig38 3200).toInt ≤ 8) := hGg38.I.1 3200
                    have q45 : vg44 = (ag38 51).getD x3.toNatClampNeg 0 := og44.1 (toj49 hc43 z32.1 z32.2)
                    have b46 : ((-2147483648 : Int) ≤ l7_33.toInt) ∧ (l7_33.toInt ≤ 2147483647) := kd_bd l7_33
                    have b47 : ((-2147483648 : Int) ≤ vg44.toInt) ∧ (vg44.toInt ≤ 2147483647) := kd_bd vg44
                    have s48 : (l9_33 + 1).toInt = l9_33.toInt + (1 : Int32).toInt := kd_add (toj6 p33_0 ktoj1) (toj39 c36 z8.2 ktoj30 ktoj1)
                    first | refine fo_goL mi_k101 fz101_79_4_85 [(9, .int (l9_33 + 1)), (7, .int (l7_33 + vg44)), (8, .int vg38), (6, .int (x2 - x2 / 100 * 100)), (5, .int ((x2 / 100) - (x2 / 100) / 100 * 100)), (4, .int (x2 / 10000)), (0, .ref 0), (1, .int x1), (2, .int x2), (3, .int x3)] [] (by rfl) ?_ | refine fo_goL mi_k101 fz101_121_4_85 [(9, .int (l9_33 + 1)), (7, .int (l7_33 + vg44)), (8, .int vg38), (6, .int (x2 - x2 / 100 * 100)), (5, .int ((x2 / 100) - (x2 / 100) / 100 * 100)), (4, .int (x2 / 10000)), (0, .ref 0), (1, .int x1), (2, .int x2), (3, .int x3)] [] (by rfl) ?_ | refine ft_go mi_k101 4 85 [(9, .int (l9_33 + 1)), (7, .int (l7_33 + vg44)), (8, .int vg38), (6, .int (x2 - x2 / 100 * 100)), (5, .int ((x2 / 100) - (x2 / 100) / 100 * 100)), (4, .int (x2 / 10000)), (0, .ref 0), (1, .int x1), (2, .int x2), (3, .int x3)] [] ig38 ag38 qg38 rg38 (by rfl) ?_
                    refine ko_perm [(9, .int (l9_33 + 1)), (8, .int vg38), (7, .int (l7_33 + vg44)), (6, .int (x2 - x2 / 100 * 100)), (5, .int ((x2 / 100) - (x2 / 100) / 100 * 100)), (4, .int (x2 / 10000)), (0, .ref 0), (1, .int x1), (2, .int x2), (3, .int x3)] (List.forall_mem_cons.mpr ⟨(List.Mem.head _), (List.forall_mem_cons.mpr ⟨(List.Mem.tail _ (List.Mem.tail _ (List.Mem.head _))), (List.forall_mem_cons.mpr ⟨(List.Mem.tail _ (List.Mem.head _)), (List.forall_mem_cons.mpr ⟨(List.Mem.tail _ (List.Mem.tail _ (List.Mem.tail _ (List.Mem.head _)))), (List.forall_mem_cons.mpr ⟨(List.Mem.tail _ (List.Mem.tail _ (List.Mem.tail _ (List.Mem.tail _ (List.Mem.head _))))), (List.forall_mem_cons.mpr ⟨(List.Mem.tail _ (List.Mem.tail _ (List.Mem.tail _ (List.Mem.tail _ (List.Mem.tail _ (List.Mem.head _)))))), (List.forall_mem_cons.mpr ⟨(List.Mem.tail _ (List.Mem.tail _ (List.Mem.tail _ (List.Mem.tail _ (List.Mem.tail _ (List.Mem.tail _ (List.Mem.head _))))))), (List.forall_mem_cons.mpr ⟨(List.Mem.tail _ (List.Mem.tail _ (List.Mem.tail _ (List.Mem.tail _ (List.Mem.tail _ (List.Mem.tail _ (List.Mem.tail _ (List.Mem.head _)))))))), (List.forall_mem_cons.mpr ⟨(List.Mem.tail _ (List.Mem.tail _ (List.Mem.tail _ (List.Mem.tail _ (List.Mem.tail _ (List.Mem.tail _ (List.Mem.tail _ (List.Mem.tail _ (List.Mem.head _))))))))), (List.forall_mem_cons.mpr ⟨(List.Mem.tail _ (List.Mem.tail _ (List.Mem.tail _ (List.Mem.tail _ (List.Mem.tail _ (List.Mem.tail _ (List.Mem.tail _ (List.Mem.tail _ (List.Mem.tail _ (List.Mem.head _)))))))))), (fun _ h => absurd h List.not_mem_nil)⟩)⟩)⟩)⟩)⟩)⟩)⟩)⟩)⟩)⟩) ?_
                    have efig38_64 : (ig38 64).toInt = (i33 64).toInt := kg38.ti 64 rfl
                    exact ih33 _ _ _ _ _ _ _ hGg38 (toj8 p33_0 s48 ktoj1) (toj9 c36 s48 ktoj1) (toj40 efi33_64 efig38_64) (gDc_step (m := gM (i 64) (dRm (x2 / 100) 100)) (dk := dRm x2 100) O33_0 O33_1 (toj2 p33_0) (toj12 s48 ktoj1) ((dF_pu (toj50 z32.1) (q45.trans (kThm_pu tT41 (kj_ix8 (toj2 z32.1) (toj51 fig38_3200.2 hc43 z32.2))))).trans (gB_dmF ((hL33.fa 118 rfl) : a33 118 = a 118))) (oD39.1.trans (gB_dm1 ((hL33.fa 118 rfl) : a33 118 = a 118)))).1 (gDc_step (m := gM (i 64) (dRm (x2 / 100) 100)) (dk := dRm x2 100) O33_0 O33_1 (toj2 p33_0) (toj12 s48 ktoj1) ((dF_pu (toj50 z32.1) (q45.trans (kThm_pu tT41 (kj_ix8 (toj2 z32.1) (toj51 fig38_3200.2 hc43 z32.2))))).trans (gB_dmF ((hL33.fa 118 rfl) : a33 118 = a 118))) (oD39.1.trans (gB_dm1 ((hL33.fa 118 rfl) : a33 118 = a 118)))).2 (kj_meas (toj14 s48 ktoj1) (toj15 c36) hm33)
              exact lp33 _ _ _ _ _ _ _ _ (kG_self _ hG.I hG.R) (toj22 ktoj0) (toj42 z8.1 ktoj1 ktoj0) toj43 (congrArg Prod.fst (gDc_0 ktoj0)).symm (congrArg Prod.snd (gDc_0 ktoj0)).symm (Nat.lt_succ_self _)
            ·
              subst eg31
              have z49 : ¬ (((0 : Int) ≤ x3.toInt) ∧ (x3.toInt < (i 64).toInt)) := hg31
              first | refine ft_goS mi_k101 2 75 [.int (-1)] (by rfl) ?_ | refine ft_go mi_k101 2 75 [(6, .int (x2 - x2 / 100 * 100)), (5, .int ((x2 / 100) - (x2 / 100) / 100 * 100)), (4, .int (x2 / 10000)), (0, .ref 0), (1, .int x1), (2, .int x2), (3, .int x3)] [.int (-1)] i a q r (by rfl) ?_
              exact ft_ret mi_k101 (by rfl) (hP (-1) _ _ _ _ hG ⟨trivial, (Or.inl ⟨(toj52 c30 z49 ktojm1), rfl⟩)⟩)
        ·
          subst eg11
          have z50 : ¬ (((0 : Int32).toInt ≤ (x2 - x2 / 100 * 100).toInt) ∧ ((x2 - x2 / 100 * 100).toInt ≤ (12 : Int32).toInt)) := hg11
          first | refine fo_goS mi_k101 fz101_23_2_60 [.int (-1)] (by rfl) ?_ | refine fo_goS mi_k101 fz101_34_2_60 [.int (-1)] (by rfl) ?_ | refine fo_goS mi_k101 fz101_45_2_60 [.int (-1)] (by rfl) ?_ | refine fo_goS mi_k101 fz101_56_2_60 [.int (-1)] (by rfl) ?_ | refine ft_go mi_k101 2 60 [(6, .int (x2 - x2 / 100 * 100)), (5, .int ((x2 / 100) - (x2 / 100) / 100 * 100)), (4, .int (x2 / 10000)), (0, .ref 0), (1, .int x1), (2, .int x2), (3, .int x3)] [.int (-1)] i a q r (by rfl) ?_
          exact ft_ret mi_k101 (by rfl) (hP (-1) _ _ _ _ hG ⟨trivial, (Or.inl ⟨(toj53 c6 s4 z50 ktoj0 ktoj12), rfl⟩)⟩)
      ·
        subst eg9
        have z51 : ¬ (((1 : Int32).toInt ≤ ((x2 / 100) - (x2 / 100) / 100 * 100).toInt) ∧ (((x2 / 100) - (x2 / 100) / 100 * 100).toInt ≤ (60 : Int32).toInt)) := hg9
        first | refine fo_goS mi_k101 fz101_23_2_60 [.int (-1)] (by rfl) ?_ | refine fo_goS mi_k101 fz101_34_2_60 [.int (-1)] (by rfl) ?_ | refine fo_goS mi_k101 fz101_45_2_60 [.int (-1)] (by rfl) ?_ | refine fo_goS mi_k101 fz101_56_2_60 [.int (-1)] (by rfl) ?_ | refine ft_go mi_k101 2 60 [(6, .int (x2 - x2 / 100 * 100)), (5, .int ((x2 / 100) - (x2 / 100) / 100 * 100)), (4, .int (x2 / 10000)), (0, .ref 0), (1, .int x1), (2, .int x2), (3, .int x3)] [.int (-1)] i a q r (by rfl) ?_
        exact ft_ret mi_k101 (by rfl) (hP (-1) _ _ _ _ hG ⟨trivial, (Or.inl ⟨(toj54 z51 ktoj1 ktoj60), rfl⟩)⟩)
    ·
      subst eg7
      have z52 : ¬ (((1 : Int32).toInt ≤ (x2 / 10000).toInt) ∧ ((x2 / 10000).toInt ≤ (30 : Int32).toInt)) := hg7
      first | refine fo_goS mi_k101 fz101_23_2_60 [.int (-1)] (by rfl) ?_ | refine fo_goS mi_k101 fz101_34_2_60 [.int (-1)] (by rfl) ?_ | refine fo_goS mi_k101 fz101_45_2_60 [.int (-1)] (by rfl) ?_ | refine fo_goS mi_k101 fz101_56_2_60 [.int (-1)] (by rfl) ?_ | refine ft_go mi_k101 2 60 [(6, .int (x2 - x2 / 100 * 100)), (5, .int ((x2 / 100) - (x2 / 100) / 100 * 100)), (4, .int (x2 / 10000)), (0, .ref 0), (1, .int x1), (2, .int x2), (3, .int x3)] [.int (-1)] i a q r (by rfl) ?_
      exact ft_ret mi_k101 (by rfl) (hP (-1) _ _ _ _ hG ⟨trivial, (Or.inl ⟨(toj55 z52 ktoj1 ktoj30), rfl⟩)⟩)
end
section
theorem ktoh0 : (0 : Int32).toInt = 0 := by decide
theorem ktoh1 : (1 : Int32).toInt = 1 := by decide
theorem ktoh60 : (60 : Int32).toInt = 60 := by decide
theorem ktohm1 : ((-1) : Int32).toInt = (-1) := by decide
theorem ktoh12 : (12 : Int32).toInt = 12 := by decide
theorem ktoh10000 : (10000 : Int32).toInt = 10000 := by decide
theorem ktoh100 : (100 : Int32).toInt = 100 := by decide
theorem ktoh30 : (30 : Int32).toInt = 30 := by decide
theorem toh0 {a0 a1 a2 a3 a4 a5 a6 : Int} (h0 : a0 < a1) (h1 : a1 = 0) : ¬ ((0 : Int) ≤ a0 ∧ ((1 : Int) ≤ a2 ∧ a2 ≤ 30) ∧ ((1 : Int) ≤ a3 ∧ a3 ≤ 60) ∧ a4 ≤ 12 ∧ (a5 = -1 ∨ ((0 : Int) ≤ a5 ∧ a5 < a6))) := toj26 h0 h1
theorem toh1 {a0 a1 : Int} (h0 : a0 ≤ a1) (h1 : a0 = 0) : (0 : Int) ≤ a1 := oz389 h0 h1
theorem toh5 {a0 a1 a2 : Int} (h0 : a0 ≤ a1) (h1 : a2 = (a1 / 100)) (h2 : a0 = 0) : (0 : Int) ≤ a2 := oz535 h0 h1 h2
theorem toh6 {a0 a1 a2 a3 a4 a5 a6 : Int} (h0 : a0 < a1) (h1 : a0 = 12) : ¬ ((0 : Int) ≤ a2 ∧ ((1 : Int) ≤ a3 ∧ a3 ≤ 30) ∧ ((1 : Int) ≤ a4 ∧ a4 ≤ 60) ∧ a1 ≤ 12 ∧ (a5 = -1 ∨ ((0 : Int) ≤ a5 ∧ a5 < a6))) := by omega
theorem toh10 {a0 : Int} (h0 : (0 : Int) ≤ a0) : (0 : Int) ≤ a0 := oz3 h0
theorem toh16 {a0 a1 : Int} (h0 : (0 : Int) ≤ a0) (h1 : a1 = 1) : (-2147483648 : Int) ≤ a0 + a1 := oz12 h0 h1
theorem toh18 {a0 a1 a2 : Int} (h0 : (0 : Int) ≤ a0) (h1 : a1 = a0 + a2) (h2 : a2 = 1) : (0 : Int) ≤ a1 := oz14 h0 h1 h2
theorem toh21 {a0 a1 a2 : Int} (h0 : a0 = a1 + a2) (h1 : a2 = 1) : a0 = a1 + 1 := oz169 h0 h1
theorem toh24 {a0 : Int} (h0 : a0 = 0) : (0 : Int) ≤ a0 := oz46 h0
theorem toh25 {a0 : Int} (h0 : a0 = 0) : a0 = 0 := oz236 h0
theorem toh32 {a0 a1 : Int} (h0 : a0 = a1) (h1 : a0 ≠ a1) (h2 : a1 = (-1)) : False := oz536 h0 h1 h2
theorem toh33 {a0 a1 : Int} (h0 : a0 = a1) (h1 : a1 = (-1)) : a0 = -1 := op64 h0 h1
theorem toh34 {a0 a1 a2 a3 a4 a5 a6 : Int} (h0 : a0 ≤ a1) (h1 : a2 = a3) (h2 : a3 = a4) (h3 : a1 ≤ (a5 / 10000)) (h4 : (a1 = 0) ∨ ((1 : Int) ≤ a2)) (h5 : a0 = (a5 / 10000)) (h6 : a6 ≤ a0) (h7 : a6 = 1) : (0 < a4 → a1 = a0) ∧ (a4 ≤ 0 → a1 = 0) := by omega
theorem toh35 {a0 a1 a2 a3 a4 a5 a6 a7 a8 a9 a10 a11 : Int} (h0 : a0 ≤ a1) (h1 : a2 = a3) (h2 : a4 ≤ a5) (h3 : a6 ≤ a7) (h4 : a7 ≤ a8) (h5 : a6 ≤ a9) (h6 : a9 ≤ a10) (h7 : a1 = 12) (h8 : a3 = (-1)) (h9 : a4 = 0) (h10 : a6 = 1) (h11 : a8 = 60) (h12 : a10 = 30) : (0 : Int) ≤ a5 ∧ ((1 : Int) ≤ a9 ∧ a9 ≤ 30) ∧ ((1 : Int) ≤ a7 ∧ a7 ≤ 60) ∧ a0 ≤ 12 ∧ (a2 = -1 ∨ ((0 : Int) ≤ a2 ∧ a2 < a11)) := ⟨by omega, by omega, by omega, by omega, by omega⟩
theorem toh36 {a0 a1 a2 a3 a4 a5 : Int} (h0 : a0 ≤ a1) (h1 : a0 = a2) (h2 : a2 = a3) (h3 : (0 : Int) ≤ a4) (h4 : (a4 = 0) ∨ ((1 : Int) ≤ a0)) (h5 : a1 = 0) : (0 < a3 → a4 = a5) ∧ (a3 ≤ 0 → a4 = 0) := toj1 h0 h1 h2 h3 h4 h5
theorem toh37 {a0 a1 : Int} (h0 : a0 ≤ a1) (h1 : a1 ≤ a0) : a0 = a1 := og5 h0 h1
theorem toh40 {a0 a1 a2 a3 : Int} (h0 : a0 < a1) (h1 : a1 ≤ a2) (h2 : a2 = 30) (h3 : a3 = 1) : a0 + a3 ≤ 2147483647 := oz537 h0 h1 h2 h3
theorem toh41 {a0 a1 a2 a3 a4 : Int} (h0 : a0 < a1) (h1 : a2 = a0 + a3) (h2 : a1 = (a4 / 10000)) (h3 : a3 = 1) : a2 ≤ (a4 / 10000) := by omega
theorem toh42 {a0 a1 a2 a3 a4 : Int} (h0 : a0 < a1) (h1 : a2 = a1) (h2 : a3 = a2) (h3 : a0 = 0) : (a4 = 0) ∨ ((1 : Int) ≤ a3) := toj19 h0 h1 h2 h3
theorem toh43 {a0 a1 a2 a3 a4 : Int} (h0 : a0 = a1) (h1 : a2 = a0) (h2 : a1 = a3) (h3 : a4 = a2) : a4 = a3 := by omega
theorem toh44 {a0 a1 a2 a3 : Int} (h0 : a0 = a1 + a2) (h1 : a2 = 1) : ((a3 / 10000) - a0) < ((a3 / 10000) - a1) := by omega
theorem toh45 {a0 a1 a2 : Int} (h0 : a0 < a1) (h1 : a1 = (a2 / 10000)) : (1 : Int) ≤ ((a2 / 10000) - a0) := by omega
theorem toh46 {a0 a1 a2 : Int} (h0 : a0 < a1) (h1 : a2 = a1) (h2 : a0 = 0) : a2 ≠ 0 := oz539 h0 h1 h2
theorem toh47 {a0 a1 a2 : Int} (h0 : a0 < a1) (h1 : a2 = a1) (h2 : a0 = 0) : (1 : Int) ≤ a2 := oz540 h0 h1 h2
theorem toh48 {a0 a1 : Int} (h0 : a0 ≤ 8) (h1 : (0 : Int) ≤ a1) (h2 : a1 < a0) : ((0 : Int) ≤ a1) ∧ (a1 ≤ 7) := oz423 h0 h1 h2
theorem toh49 {a0 a1 a2 a3 : Int} (h0 : a0 < a1) (h1 : a1 = (a2 % 100)) (h2 : a3 = 1) : a0 + a3 ≤ 2147483647 := oz541 h0 h1 h2
theorem toh50 {a0 a1 a2 a3 : Int} (h0 : a0 < a1) (h1 : a2 = a0 + a3) (h2 : a3 = 1) : a2 ≤ a1 := og20 h0 h1 h2
theorem toh51 {a0 a1 : Int} (h0 : a0 ≤ a1) : ¬ (a1 < a0) := toy131 h0
theorem toh52 {a0 a1 a2 : Int} (h0 : a0 = a1 + a2) (h1 : a2 = 1) : (100 - a0) < (100 - a1) := oz542 h0 h1
theorem toh53 {a0 a1 a2 : Int} (h0 : a0 < a1) (h1 : a1 = (a2 % 100)) : (1 : Int) ≤ (100 - a0) := oz543 h0 h1
theorem toh70 {a0 a1 a2 a3 : Int} (h0 : a0 < a1) (h1 : a2 = a1) (h2 : a3 = a2) (h3 : a0 = 0) : a3 ≠ 0 := oz544 h0 h1 h2 h3
theorem toh71 {a0 a1 a2 a3 : Int} (h0 : a0 < a1) (h1 : a2 = a1) (h2 : a3 = a2) (h3 : a0 = 0) : (1 : Int) ≤ a3 := oz545 h0 h1 h2 h3
theorem toh72 {a0 a1 a2 a3 a4 a5 : Int} (h0 : a0 = a1) (h1 : a2 = a0) (h2 : a1 = a3) (h3 : a4 = a2) (h4 : a5 = a4) : a5 = a3 := by omega
theorem toh73 {a0 a1 : Int} (h0 : a0 < a1) : a0 < a1 := oz270 h0
theorem toh74 {a0 a1 a2 : Int} (h0 : a0 ≤ a1) (h1 : a0 = 1) (h2 : a2 = 0) : a2 ≤ a1 := toj42 h0 h1 h2
theorem toh75 {a0 a1 a2 : Int} (h0 : a0 = a1) (h1 : a1 = a2) : a0 = a2 := by omega
theorem toh76 {a0 a1 a2 a3 : Int} (h0 : a0 = (a1 / 10000)) (h1 : a2 ≤ a0) (h2 : a2 = 1) (h3 : a3 = 0) : a3 ≤ (a1 / 10000) := by omega
theorem toh77 {a0 a1 : Int} (h0 : a0 = 0) : (a0 = 0) ∨ ((1 : Int) ≤ a1) := toj24 h0
theorem toh78 {a0 a1 : Int} (h0 : a0 = a1) : a0 = a1 := oz719 h0
theorem toh83 {a0 : Int} (h0 : (0 : Int) ≤ a0) : ¬ (a0 = -1) := toj50 h0
theorem toh84 {a0 a1 a2 a3 a4 : Int} (h0 : a0 ≤ a1) (h1 : a1 ≤ (a2 / 10000)) (h2 : a0 = (a2 / 10000)) (h3 : (0 : Int) ≤ a3) (h4 : a3 < a4) : (0 < a4 → a1 = a0) ∧ (a4 ≤ 0 → a1 = 0) := by omega
theorem toh85 {a0 a1 a2 a3 a4 a5 a6 a7 a8 a9 a10 : Int} (h0 : a0 ≤ a1) (h1 : a2 ≤ a3) (h2 : a4 ≤ a5) (h3 : a5 ≤ a6) (h4 : (0 : Int) ≤ a7) (h5 : a7 < a8) (h6 : a4 ≤ a9) (h7 : a9 ≤ a10) (h8 : a1 = 12) (h9 : a2 = 0) (h10 : a4 = 1) (h11 : a6 = 60) (h12 : a10 = 30) : (0 : Int) ≤ a3 ∧ ((1 : Int) ≤ a9 ∧ a9 ≤ 30) ∧ ((1 : Int) ≤ a5 ∧ a5 ≤ 60) ∧ a0 ≤ 12 ∧ (a7 = -1 ∨ ((0 : Int) ≤ a7 ∧ a7 < a8)) := ⟨by omega, by omega, by omega, by omega, by omega⟩
theorem toh86 {a0 a1 : Int} (h0 : a0 = a1) (h1 : (0 : Int) ≤ a0) (h2 : a1 = (-1)) : False := oz405 h0 h1 h2
theorem toh87 {a0 a1 a2 a3 a4 : Int} (h0 : a0 ≤ a1) (h1 : a0 = a2) (h2 : a2 = a3) (h3 : (0 : Int) ≤ a4) (h4 : a4 < a3) (h5 : a1 = 0) : False := oz546 h0 h1 h2 h3 h4 h5
theorem toh88 {a0 a1 : Int} (h0 : a0 ≤ 8) (h1 : a1 < a0) : a1 < 31 := oz385 h0 h1
theorem toh89 {a0 a1 a2 a3 a4 : Int} (h0 : a0 = a1) (h1 : a2 = a0) (h2 : a3 = a2) (h3 : a1 = a4) : a3 = a4 := by omega
theorem toh90 {a0 a1 a2 a3 a4 a5 : Int} (h0 : a0 = a1) (h1 : a2 = a0) (h2 : a3 = a2) (h3 : a4 = a3) (h4 : a1 = a5) : a4 = a5 := by omega
theorem toh91 {a0 a1 a2 a3 a4 a5 a6 : Int} (h0 : a0 ≠ a1) (h1 : ¬ (((0 : Int) ≤ a0) ∧ (a0 < a2))) (h2 : a1 = (-1)) : ¬ ((0 : Int) ≤ a3 ∧ ((1 : Int) ≤ a4 ∧ a4 ≤ 30) ∧ ((1 : Int) ≤ a5 ∧ a5 ≤ 60) ∧ a6 ≤ 12 ∧ (a0 = -1 ∨ ((0 : Int) ≤ a0 ∧ a0 < a2))) := toj52 h0 h1 h2
theorem toh92 {a0 a1 a2 a3 a4 a5 a6 a7 : Int} (h0 : ¬ ((a0 ≤ a1) ∧ (a1 ≤ a2))) (h1 : a0 = 1) (h2 : a2 = 60) : ¬ ((0 : Int) ≤ a3 ∧ ((1 : Int) ≤ a4 ∧ a4 ≤ 30) ∧ ((1 : Int) ≤ a1 ∧ a1 ≤ 60) ∧ a5 ≤ 12 ∧ (a6 = -1 ∨ ((0 : Int) ≤ a6 ∧ a6 < a7))) := toj54 h0 h1 h2
theorem toh93 {a0 a1 a2 a3 a4 a5 a6 a7 : Int} (h0 : ¬ ((a0 ≤ a1) ∧ (a1 ≤ a2))) (h1 : a0 = 1) (h2 : a2 = 30) : ¬ ((0 : Int) ≤ a3 ∧ ((1 : Int) ≤ a1 ∧ a1 ≤ 30) ∧ ((1 : Int) ≤ a4 ∧ a4 ≤ 60) ∧ a5 ≤ 12 ∧ (a6 = -1 ∨ ((0 : Int) ≤ a6 ∧ a6 < a7))) := toj55 h0 h1 h2
def yzw201_116 : kW := ([7464, 7465, 7466, 7467], [118, 128, 129, 139, 141], [], [])
def yzw201_116_L71 : kW := ([7464, 7465, 7466, 7467], [118, 128, 129, 141], [], [])
def yzw201_116_L91 : kW := ([7464, 7465, 7466, 7467], [118, 128, 129, 141], [], [])
set_option maxRecDepth 100000 in
theorem kz201_116 {i : Nat → Int32} {a : Nat → List Int32} {q : Nat → List Int64} {r : Nat → Nat} (hI : kI i a q) (hr : kr r) (x1 : Int32) (x2 : Int32) (x3 : Int32) (hE_code : kCode i a) : km 11 201 [.ref 116, .int x1, .int x2, .int x3] (ks i a q r) (kVI yzw201_116 i a q r (fun v i1 a1 q1 r1 => (True) ∧ (a1 118 = a 118 ∧ cDw ((0 : Int) ≤ x2.toInt ∧ ((1 : Int) ≤ (x2 / 10000).toInt ∧ (x2 / 10000).toInt ≤ 30) ∧ ((1 : Int) ≤ (x2 / 100 - x2 / 100 / 100 * 100).toInt ∧ (x2 / 100 - x2 / 100 / 100 * 100).toInt ≤ 60) ∧ (x2 - x2 / 100 * 100).toInt ≤ 12 ∧ (x3.toInt = -1 ∨ ((0 : Int) ≤ x3.toInt ∧ x3.toInt < (i 7424).toInt))) v (dV (i 7424) x3 v (gDr (gKn i a) (i 7424) (dRm x2 100) (dRm (x2 / 100) 100).toInt.toNat x3 (a 118) x1 (gR i a)) (x2 / 10000).toInt.toNat)))) := by
  have hG := kG_self yzw201_116 hI hr
  refine km_ofI (q := (mi_h201, mi_c201)) rfl (by decide) (Nat.le_of_ble_eq_true rfl) ?_
  intro P hP
  first | refine ft_goL mi_k201 1 1 [(0, .ref 116), (1, .int x1), (2, .int x2), (3, .int x3)] [.int x2] (by rfl) ?_ | refine ft_go mi_k201 1 1 [(0, .ref 116), (1, .int x1), (2, .int x2), (3, .int x3)] [.int x2] i a q r (by rfl) ?_
  refine ft_ifS mi_k201 (decide (x2 < 0)) 56 4 [] (by rfl) (fun c => ?_) (fun c => ?_)
  ·
    have c1 : x2.toInt < (0 : Int32).toInt := kd_lt c; clear c
    first | refine ft_goS mi_k201 1 57 [.int (-1)] (by rfl) ?_ | refine ft_go mi_k201 1 57 [(0, .ref 116), (1, .int x1), (2, .int x2), (3, .int x3)] [.int (-1)] i a q r (by rfl) ?_
    have s2 : 0 ≤ x2.toInt → (x2 / 10000).toInt = (x2.toInt / 10000) := kd_div 10000 ktoh10000 (by decide)
    have s3 : 0 ≤ x2.toInt → (x2 / 100).toInt = (x2.toInt / 100) := kd_div 100 ktoh100 (by decide)
    have s4 : 0 ≤ (x2 / 100).toInt → ((x2 / 100) - (x2 / 100) / 100 * 100).toInt = ((x2 / 100).toInt % 100) := kd_rem 100 ktoh100 (by decide)
    have s5 : 0 ≤ x2.toInt → (x2 - x2 / 100 * 100).toInt = (x2.toInt % 100) := kd_rem 100 ktoh100 (by decide)
    exact ft_ret mi_k201 (by rfl) (hP (-1) _ _ _ _ hG ⟨trivial, ⟨(show a 118 = a 118 from rfl), (Or.inl ⟨(toh0 c1 ktoh0), rfl⟩)⟩⟩)
  ·
    have c6 : (0 : Int32).toInt ≤ x2.toInt := kd_ltF c; clear c
    have s7 : (x2 / 10000).toInt = (x2.toInt / 10000) := kd_div 10000 ktoh10000 (by decide) (toh1 c6 ktoh0)
    first | refine fo_goS mi_k201 fz201_4_5_12 [.int 30, .int 1, .int (x2 / 10000)] (by rfl) ?_ | refine ft_go mi_k201 5 12 [(0, .ref 116), (1, .int x1), (2, .int x2), (3, .int x3)] [.int 30, .int 1, .int (x2 / 10000)] i a q r (by rfl) ?_
    refine ko_callPI mi_k201.1 (pc := 12) (ls := [(0, .ref 116), (1, .int x1), (2, .int x2), (3, .int x3)]) (st := [.int 30, .int 1, .int (x2 / 10000)]) (h := ks i a q r) (i := (.invokestatic 119, 3, 131, 0, 9, 0, 379)) (mi_k201.2 _ _ (by rfl)) (ft_invS mi_pq131 (by rfl)) (cy := mi_c131) mi_pq131 rfl (kc131 hG.I hG.R (x2 / 10000) 1 30) (by decide) ?_
    intro vg8 hg8
    rcases hg8 with ⟨eg8, hg8⟩ | ⟨eg8, hg8⟩
    ·
      subst eg8
      have z9 : ((1 : Int32).toInt ≤ (x2 / 10000).toInt) ∧ ((x2 / 10000).toInt ≤ (30 : Int32).toInt) := hg8
      have s10 : (x2 / 100).toInt = (x2.toInt / 100) := kd_div 100 ktoh100 (by decide) (toh1 c6 ktoh0)
      have s11 : ((x2 / 100) - (x2 / 100) / 100 * 100).toInt = ((x2 / 100).toInt % 100) := kd_rem 100 ktoh100 (by decide) (toh5 c6 s10 ktoh0)
      first | refine fo_goS mi_k201 fz201_15_8_28 [.int 60, .int 1, .int ((x2 / 100) - (x2 / 100) / 100 * 100)] (by rfl) ?_ | refine ft_go mi_k201 8 28 [(0, .ref 116), (1, .int x1), (2, .int x2), (3, .int x3)] [.int 60, .int 1, .int ((x2 / 100) - (x2 / 100) / 100 * 100)] i a q r (by rfl) ?_
      refine ko_callPI mi_k201.1 (pc := 28) (ls := [(0, .ref 116), (1, .int x1), (2, .int x2), (3, .int x3)]) (st := [.int 60, .int 1, .int ((x2 / 100) - (x2 / 100) / 100 * 100)]) (h := ks i a q r) (i := (.invokestatic 119, 3, 131, 0, 9, 0, 379)) (mi_k201.2 _ _ (by rfl)) (ft_invS mi_pq131 (by rfl)) (cy := mi_c131) mi_pq131 rfl (kc131 hG.I hG.R ((x2 / 100) - (x2 / 100) / 100 * 100) 1 60) (by decide) ?_
      intro vg12 hg12
      rcases hg12 with ⟨eg12, hg12⟩ | ⟨eg12, hg12⟩
      ·
        subst eg12
        have z13 : ((1 : Int32).toInt ≤ ((x2 / 100) - (x2 / 100) / 100 * 100).toInt) ∧ (((x2 / 100) - (x2 / 100) / 100 * 100).toInt ≤ (60 : Int32).toInt) := hg12
        have s14 : (x2 - x2 / 100 * 100).toInt = (x2.toInt % 100) := kd_rem 100 ktoh100 (by decide) (toh1 c6 ktoh0)
        first | refine fo_goS mi_k201 fz201_31_5_40 [.int 12, .int (x2 - x2 / 100 * 100)] (by rfl) ?_ | refine ft_go mi_k201 5 40 [(0, .ref 116), (1, .int x1), (2, .int x2), (3, .int x3)] [.int 12, .int (x2 - x2 / 100 * 100)] i a q r (by rfl) ?_
        refine ft_ifS mi_k201 (decide (12 < (x2 - x2 / 100 * 100))) 56 43 [] (by rfl) (fun c => ?_) (fun c => ?_)
        ·
          have c15 : (12 : Int32).toInt < (x2 - x2 / 100 * 100).toInt := kd_lt c; clear c
          first | refine ft_goS mi_k201 1 57 [.int (-1)] (by rfl) ?_ | refine ft_go mi_k201 1 57 [(0, .ref 116), (1, .int x1), (2, .int x2), (3, .int x3)] [.int (-1)] i a q r (by rfl) ?_
          exact ft_ret mi_k201 (by rfl) (hP (-1) _ _ _ _ hG ⟨trivial, ⟨(show a 118 = a 118 from rfl), (Or.inl ⟨(toh6 c15 ktoh12), rfl⟩)⟩⟩)
        ·
          have c16 : (x2 - x2 / 100 * 100).toInt ≤ (12 : Int32).toInt := kd_ltF c; clear c
          first | refine ft_goS mi_k201 2 45 [.int (-1), .int x3] (by rfl) ?_ | refine ft_go mi_k201 2 45 [(0, .ref 116), (1, .int x1), (2, .int x2), (3, .int x3)] [.int (-1), .int x3] i a q r (by rfl) ?_
          refine ft_ifS mi_k201 (x3 == (-1)) 58 48 [] (by rfl) (fun c => ?_) (fun c => ?_)
          ·
            have c17 : x3.toInt = ((-1) : Int32).toInt := kd_eq c; clear c
            first | refine ft_goS mi_k201 1 59 [.ref 116] (by rfl) ?_ | refine ft_go mi_k201 1 59 [(0, .ref 116), (1, .int x1), (2, .int x2), (3, .int x3)] [.ref 116] i a q r (by rfl) ?_
            refine ko_callN mi_k201.1 (pc := 59) (ls := [(0, .ref 116), (1, .int x1), (2, .int x2), (3, .int x3)]) (st := [.ref 116]) (h := ks i a q r) (i := (.invokevirtual 267, 3, 171, 0, 9, 0, 412)) (mi_k201.2 _ _ (by rfl)) (ft_invS mi_pq171 (by rfl)) (cy := mi_c171) mi_pq171 rfl (kg171_116 hG.I hG.R ) (by decide) ?_
            intro ig18 ag18 qg18 rg18 kg18 hg18
            have hGg18 := kG_call hG kg18 (by decide +kernel)
            obtain ⟨hg18, og18⟩ := hg18
            have tG19 : gT ig18 ag18 = gR i a := (gT_R (og18.2.1.trans rfl) (kg18.fi 7464 rfl) (kg18.fi 7465 rfl) (kg18.fi 7466 rfl) og18.2.2.1 og18.2.2.2)
            have q20 : ag18 139 = a 118 := og18.1
            have q21 : ag18 118 = a 118 := og18.2.1
            have q22 : ig18 7467 = 0 := og18.2.2.1
            have q23 : ag18 141 = List.replicate 64 0 := og18.2.2.2
            first | refine fo_goL mi_k201 fz201_62_6_71 [(6, .int 0), (5, .int 0), (4, .int x1), (0, .ref 116), (1, .int x1), (2, .int x2), (3, .int x3)] [] (by rfl) ?_ | refine ft_goL mi_k201 6 71 [(6, .int 0), (5, .int 0), (4, .int x1), (0, .ref 116), (1, .int x1), (2, .int x2), (3, .int x3)] [] (by rfl) ?_ | refine ft_go mi_k201 6 71 [(6, .int 0), (5, .int 0), (4, .int x1), (0, .ref 116), (1, .int x1), (2, .int x2), (3, .int x3)] [] ig18 ag18 qg18 rg18 (by rfl) ?_
            have lp24 : ∀ (nz : Nat) (i24 : Nat → Int32) (a24 : Nat → List Int32) (q24 : Nat → List Int64) (r24 : Nat → Nat) (l6_24 : Int32) (l5_24 : Int32) (l4_24 : Int32), kG yzw201_116_L71 ig18 ag18 qg18 rg18 i24 a24 q24 r24 → (0 : Int) ≤ l6_24.toInt → l6_24.toInt ≤ (x2.toInt / 10000) → (l6_24.toInt = 0) ∨ ((1 : Int) ≤ (i24 7424).toInt) → (i24 7424).toInt = (i 7424).toInt → l4_24 = (gDr (gKn i a) (i 7424) (dRm x2 100) (dRm (x2 / 100) 100).toInt.toNat x3 (a 118) x1 (gR i a) l6_24.toInt.toNat).2.1 → l5_24 = (gDr (gKn i a) (i 7424) (dRm x2 100) (dRm (x2 / 100) 100).toInt.toNat x3 (a 118) x1 (gR i a) l6_24.toInt.toNat).1 → gT i24 a24 = (gDr (gKn i a) (i 7424) (dRm x2 100) (dRm (x2 / 100) 100).toInt.toNat x3 (a 118) x1 (gR i a) l6_24.toInt.toNat).2.2 → a24 118 = a 118 → a24 139 = a 118 → (((x2.toInt / 10000) - l6_24.toInt)).toNat < nz → ko 11 (mi_h201, mi_c201) P (71, [(6, .int l6_24), (5, .int l5_24), (4, .int l4_24), (0, .ref 116), (1, .int x1), (2, .int x2), (3, .int x3)], [], (0, 0), ks i24 a24 q24 r24) := by
              intro nz
              induction nz with
              | zero =>
                intro _ _ _ _ _ _ _ _ _ _ _ _ _ _ _ _ _ hm
                exact absurd hm (Nat.not_lt_zero _)
              | succ nz ih24 =>
                intro i24 a24 q24 r24 l6_24 l5_24 l4_24 hL24 p24_0 p24_1 p24_2 p24_3 O24_0 O24_1 O24_2 O24_3 O24_4 hm24
                have efig18_7424 : (ig18 7424).toInt = (i 7424).toInt := kg18.ti 7424 rfl
                have efi24_7424 : (i24 7424).toInt = (ig18 7424).toInt := hL24.ti 7424 rfl
                first | refine fo_goL mi_k201 fz201_71_4_78 [(6, .int l6_24), (5, .int l5_24), (4, .int l4_24), (0, .ref 116), (1, .int x1), (2, .int x2), (3, .int x3)] [.int (x2 / 10000), .int l6_24] (by rfl) ?_ | refine ft_go mi_k201 4 78 [(6, .int l6_24), (5, .int l5_24), (4, .int l4_24), (0, .ref 116), (1, .int x1), (2, .int x2), (3, .int x3)] [.int (x2 / 10000), .int l6_24] i24 a24 q24 r24 (by rfl) ?_
                refine ft_ifS mi_k201 (decide ((x2 / 10000) ≤ l6_24)) 186 81 [] (by rfl) (fun c => ?_) (fun c => ?_)
                ·
                  have c25 : (x2 / 10000).toInt ≤ l6_24.toInt := kd_le c; clear c
                  have hG26 := kG_call hGg18 hL24 (by decide +kernel)
                  first | refine fo_goS mi_k201 fz201_186_2_188 [.int (-1), .int x3] (by rfl) ?_ | refine ft_go mi_k201 2 188 [(6, .int l6_24), (5, .int l5_24), (4, .int l4_24), (0, .ref 116), (1, .int x1), (2, .int x2), (3, .int x3)] [.int (-1), .int x3] i24 a24 q24 r24 (by rfl) ?_
                  refine ft_ifS mi_k201 (x3 != (-1)) 198 191 [] (by rfl) (fun c => ?_) (fun c => ?_)
                  ·
                    have c27 : x3.toInt ≠ ((-1) : Int32).toInt := kd_ne c; clear c
                    exact (toh32 c17 c27 ktohm1).elim
                  ·
                    have c28 : x3.toInt = ((-1) : Int32).toInt := kd_neF c; clear c
                    first | refine fo_goS mi_k201 fz201_191_3_200 [.int (i24 7467)] (by rfl) ?_ | refine ft_goS mi_k201 3 200 [.int (i24 7467)] (by rfl) ?_ | refine ft_go mi_k201 3 200 [(6, .int l6_24), (5, .int l5_24), (4, .int l4_24), (0, .ref 116), (1, .int x1), (2, .int x2), (3, .int x3)] [.int (i24 7467)] i24 a24 q24 r24 (by rfl) ?_
                    exact ft_ret mi_k201 (by rfl) (hP (i24 7467) _ _ _ _ hG26 ⟨trivial, ⟨(show a24 118 = a 118 from (by first | rfl | (simp only [O24_3, sMn, sMx]; done) | (simp only [O24_3, sMn, sMx]; rfl))), (Or.inr ⟨(toh35 c16 c17 c6 z13.1 z13.2 z9.1 z9.2 ktoh12 ktohm1 ktoh0 ktoh1 ktoh60 ktoh30), dV_end (toh34 c25 efi24_7424 efig18_7424 p24_1 p24_2 s7 z9.1 ktoh1) (dV_la (toh33 c17 ktohm1) (gT_la O24_2))⟩)⟩⟩)
                ·
                  have c29 : l6_24.toInt < (x2 / 10000).toInt := kd_leF c; clear c
                  first | refine ft_goS mi_k201 2 85 [.int (i24 7424)] (by rfl) ?_ | refine ft_go mi_k201 2 85 [(6, .int l6_24), (5, .int l5_24), (4, .int l4_24), (0, .ref 116), (1, .int x1), (2, .int x2), (3, .int x3)] [.int (i24 7424)] i24 a24 q24 r24 (by rfl) ?_
                  refine ft_ifS mi_k201 (decide ((i24 7424) ≤ 0)) 186 88 [] (by rfl) (fun c => ?_) (fun c => ?_)
                  ·
                    have c30 : (i24 7424).toInt ≤ (0 : Int32).toInt := kd_le c; clear c
                    have hG31 := kG_call hGg18 hL24 (by decide +kernel)
                    first | refine fo_goS mi_k201 fz201_186_2_188 [.int (-1), .int x3] (by rfl) ?_ | refine ft_go mi_k201 2 188 [(6, .int l6_24), (5, .int l5_24), (4, .int l4_24), (0, .ref 116), (1, .int x1), (2, .int x2), (3, .int x3)] [.int (-1), .int x3] i24 a24 q24 r24 (by rfl) ?_
                    refine ft_ifS mi_k201 (x3 != (-1)) 198 191 [] (by rfl) (fun c => ?_) (fun c => ?_)
                    ·
                      have c32 : x3.toInt ≠ ((-1) : Int32).toInt := kd_ne c; clear c
                      exact (toh32 c17 c32 ktohm1).elim
                    ·
                      have c33 : x3.toInt = ((-1) : Int32).toInt := kd_neF c; clear c
                      first | refine fo_goS mi_k201 fz201_191_3_200 [.int (i24 7467)] (by rfl) ?_ | refine ft_goS mi_k201 3 200 [.int (i24 7467)] (by rfl) ?_ | refine ft_go mi_k201 3 200 [(6, .int l6_24), (5, .int l5_24), (4, .int l4_24), (0, .ref 116), (1, .int x1), (2, .int x2), (3, .int x3)] [.int (i24 7467)] i24 a24 q24 r24 (by rfl) ?_
                      exact ft_ret mi_k201 (by rfl) (hP (i24 7467) _ _ _ _ hG31 ⟨trivial, ⟨(show a24 118 = a 118 from (by first | rfl | (simp only [O24_3, sMn, sMx]; done) | (simp only [O24_3, sMn, sMx]; rfl))), (Or.inr ⟨(toh35 c16 c17 c6 z13.1 z13.2 z9.1 z9.2 ktoh12 ktohm1 ktoh0 ktoh1 ktoh60 ktoh30), dV_end (toh36 c30 efi24_7424 efig18_7424 p24_0 p24_2 ktoh0) (dV_la (toh33 c17 ktohm1) (gT_la O24_2))⟩)⟩⟩)
                  ·
                    have c34 : (0 : Int32).toInt < (i24 7424).toInt := kd_leF c; clear c
                    first | refine ft_goL mi_k201 2 91 [(7, .int 0), (6, .int l6_24), (5, .int l5_24), (4, .int l4_24), (0, .ref 116), (1, .int x1), (2, .int x2), (3, .int x3)] [] (by rfl) ?_ | refine ft_go mi_k201 2 91 [(7, .int 0), (6, .int l6_24), (5, .int l5_24), (4, .int l4_24), (0, .ref 116), (1, .int x1), (2, .int x2), (3, .int x3)] [] i24 a24 q24 r24 (by rfl) ?_
                    have lp35 : ∀ (nz : Nat) (i35 : Nat → Int32) (a35 : Nat → List Int32) (q35 : Nat → List Int64) (r35 : Nat → Nat) (l7_35 : Int32) (l4_35 : Int32), kG yzw201_116_L91 i24 a24 q24 r24 i35 a35 q35 r35 → (0 : Int) ≤ l7_35.toInt → l7_35.toInt ≤ ((x2 / 100) - (x2 / 100) / 100 * 100).toInt → (i35 7424).toInt = (i 7424).toInt → l4_35 = (gDm (gKn i a) (i 7424) (dRm x2 100) (gDr (gKn i a) (i 7424) (dRm x2 100) (dRm (x2 / 100) 100).toInt.toNat x3 (a 118) x1 (gR i a) l6_24.toInt.toNat).2 l7_35.toInt.toNat).1 → gT i35 a35 = (gDm (gKn i a) (i 7424) (dRm x2 100) (gDr (gKn i a) (i 7424) (dRm x2 100) (dRm (x2 / 100) 100).toInt.toNat x3 (a 118) x1 (gR i a) l6_24.toInt.toNat).2 l7_35.toInt.toNat).2 → a35 139 = a 118 → ((100 - l7_35.toInt)).toNat < nz → ko 11 (mi_h201, mi_c201) P (91, [(7, .int l7_35), (6, .int l6_24), (5, .int l5_24), (4, .int l4_35), (0, .ref 116), (1, .int x1), (2, .int x2), (3, .int x3)], [], (0, 0), ks i35 a35 q35 r35) := by
                      intro nz
                      induction nz with
                      | zero =>
                        intro _ _ _ _ _ _ _ _ _ _ _ _ _ hm
                        exact absurd hm (Nat.not_lt_zero _)
                      | succ nz ih35 =>
                        intro i35 a35 q35 r35 l7_35 l4_35 hL35 p35_0 p35_1 p35_2 O35_0 O35_1 O35_2 hm35
                        have fi35_7424 : ((0 : Int) ≤ (i35 7424).toInt) ∧ ((i35 7424).toInt ≤ 8) := hL35.I.1 7424
                        have efi35_7424 : (i35 7424).toInt = (i24 7424).toInt := hL35.ti 7424 rfl
                        first | refine fo_goL mi_k201 fz201_91_6_100 [(7, .int l7_35), (6, .int l6_24), (5, .int l5_24), (4, .int l4_35), (0, .ref 116), (1, .int x1), (2, .int x2), (3, .int x3)] [.int ((x2 / 100) - (x2 / 100) / 100 * 100), .int l7_35] (by rfl) ?_ | refine ft_go mi_k201 6 100 [(7, .int l7_35), (6, .int l6_24), (5, .int l5_24), (4, .int l4_35), (0, .ref 116), (1, .int x1), (2, .int x2), (3, .int x3)] [.int ((x2 / 100) - (x2 / 100) / 100 * 100), .int l7_35] i35 a35 q35 r35 (by rfl) ?_
                        refine ft_ifS mi_k201 (decide (((x2 / 100) - (x2 / 100) / 100 * 100) ≤ l7_35)) 155 103 [] (by rfl) (fun c => ?_) (fun c => ?_)
                        ·
                          have c38 : ((x2 / 100) - (x2 / 100) / 100 * 100).toInt ≤ l7_35.toInt := kd_le c; clear c
                          have hG39 := kG_call hL24 hL35 (by decide +kernel)
                          have zD40 : l4_35 = (gDm (gKn i a) (i 7424) (dRm x2 100) (gDr (gKn i a) (i 7424) (dRm x2 100) (dRm (x2 / 100) 100).toInt.toNat x3 (a 118) x1 (gR i a) l6_24.toInt.toNat).2 (dRm (x2 / 100) 100).toInt.toNat).1 := O35_0.trans (congrArg (fun j : Nat => (gDm (gKn i a) (i 7424) (dRm x2 100) (gDr (gKn i a) (i 7424) (dRm x2 100) (dRm (x2 / 100) 100).toInt.toNat x3 (a 118) x1 (gR i a) l6_24.toInt.toNat).2 j).1) (congrArg Int.toNat (toh37 c38 p35_1))).symm
                          have tG41 : gT i35 a35 = (gDm (gKn i a) (i 7424) (dRm x2 100) (gDr (gKn i a) (i 7424) (dRm x2 100) (dRm (x2 / 100) 100).toInt.toNat x3 (a 118) x1 (gR i a) l6_24.toInt.toNat).2 (dRm (x2 / 100) 100).toInt.toNat).2 := (gT_c O35_1 (congrArg (fun j : Nat => (gDm (gKn i a) (i 7424) (dRm x2 100) (gDr (gKn i a) (i 7424) (dRm x2 100) (dRm (x2 / 100) 100).toInt.toNat x3 (a 118) x1 (gR i a) l6_24.toInt.toNat).2 j).2) (congrArg Int.toNat (toh37 c38 p35_1))))
                          first | refine ft_goS mi_k201 2 157 [.int (-1), .int x3] (by rfl) ?_ | refine ft_go mi_k201 2 157 [(7, .int l7_35), (6, .int l6_24), (5, .int l5_24), (4, .int l4_35), (0, .ref 116), (1, .int x1), (2, .int x2), (3, .int x3)] [.int (-1), .int x3] i35 a35 q35 r35 (by rfl) ?_
                          refine ft_ifS mi_k201 (x3 == (-1)) 171 160 [] (by rfl) (fun c => ?_) (fun c => ?_)
                          ·
                            have c42 : x3.toInt = ((-1) : Int32).toInt := kd_eq c; clear c
                            first | refine ft_goS mi_k201 4 177 [.int 0, .ref 139, .ref 116] (by rfl) ?_ | refine ft_go mi_k201 4 177 [(7, .int l7_35), (6, .int l6_24), (5, .int l5_24), (4, .int l4_35), (0, .ref 116), (1, .int x1), (2, .int x2), (3, .int x3)] [.int 0, .ref 139, .ref 116] i35 a35 q35 r35 (by rfl) ?_
                            refine ko_callN mi_k201.1 (pc := 177) (ls := [(7, .int l7_35), (6, .int l6_24), (5, .int l5_24), (4, .int l4_35), (0, .ref 116), (1, .int x1), (2, .int x2), (3, .int x3)]) (st := [.int 0, .ref 139, .ref 116]) (h := ks i35 a35 q35 r35) (i := (.invokevirtual 273, 3, 169, 0, 9, 0, 423)) (mi_k201.2 _ _ (by rfl)) (ft_invS mi_pq169 (by rfl)) (cy := mi_c169) mi_pq169 rfl (ke169_116_139 hG39.I hG39.R 0 (toh25 ktoh0)) (by decide) ?_
                            intro ig43 ag43 qg43 rg43 kg43 hg43
                            have hGg43 := kG_call hG39 kg43 (by decide +kernel)
                            obtain ⟨hg43, og43⟩ := hg43
                            have tG44 : gT ig43 ag43 = (a 118, ((gDm (gKn i a) (i 7424) (dRm x2 100) (gDr (gKn i a) (i 7424) (dRm x2 100) (dRm (x2 / 100) 100).toInt.toNat x3 (a 118) x1 (gR i a) l6_24.toInt.toNat).2 (dRm (x2 / 100) 100).toInt.toNat).2).2) := (gT_lay tG41 (og43.trans (show a35 139 = a 118 from (by first | rfl | (simp only [O35_2, sMn, sMx]; done) | (simp only [O35_2, sMn, sMx]; rfl)))) (kg43.fi 7464 rfl) (kg43.fi 7465 rfl) (kg43.fi 7466 rfl) (kg43.fi 7467 rfl) (kg43.fa 141 rfl))
                            have q45 : ag43 118 = a35 139 := og43
                            have s46 : (l6_24 + 1).toInt = l6_24.toInt + (1 : Int32).toInt := kd_add (toh16 p24_0 ktoh1) (toh40 c29 z9.2 ktoh30 ktoh1)
                            first | refine ft_goL mi_k201 2 71 [(6, .int (l6_24 + 1)), (7, .int l7_35), (5, .int l5_24), (4, .int l4_35), (0, .ref 116), (1, .int x1), (2, .int x2), (3, .int x3)] [] (by rfl) ?_ | refine ft_go mi_k201 2 71 [(6, .int (l6_24 + 1)), (7, .int l7_35), (5, .int l5_24), (4, .int l4_35), (0, .ref 116), (1, .int x1), (2, .int x2), (3, .int x3)] [] ig43 ag43 qg43 rg43 (by rfl) ?_
                            refine ko_perm [(6, .int (l6_24 + 1)), (5, .int l5_24), (4, .int l4_35), (0, .ref 116), (1, .int x1), (2, .int x2), (3, .int x3)] (List.forall_mem_cons.mpr ⟨(List.Mem.head _), (List.forall_mem_cons.mpr ⟨(List.Mem.tail _ (List.Mem.tail _ (List.Mem.head _))), (List.forall_mem_cons.mpr ⟨(List.Mem.tail _ (List.Mem.tail _ (List.Mem.tail _ (List.Mem.head _)))), (List.forall_mem_cons.mpr ⟨(List.Mem.tail _ (List.Mem.tail _ (List.Mem.tail _ (List.Mem.tail _ (List.Mem.head _))))), (List.forall_mem_cons.mpr ⟨(List.Mem.tail _ (List.Mem.tail _ (List.Mem.tail _ (List.Mem.tail _ (List.Mem.tail _ (List.Mem.head _)))))), (List.forall_mem_cons.mpr ⟨(List.Mem.tail _ (List.Mem.tail _ (List.Mem.tail _ (List.Mem.tail _ (List.Mem.tail _ (List.Mem.tail _ (List.Mem.head _))))))), (List.forall_mem_cons.mpr ⟨(List.Mem.tail _ (List.Mem.tail _ (List.Mem.tail _ (List.Mem.tail _ (List.Mem.tail _ (List.Mem.tail _ (List.Mem.tail _ (List.Mem.head _)))))))), (fun _ h => absurd h List.not_mem_nil)⟩)⟩)⟩)⟩)⟩)⟩)⟩) ?_
                            have efig43_7424 : (ig43 7424).toInt = (i35 7424).toInt := kg43.ti 7424 rfl
                            exact ih24 _ _ _ _ _ _ _ hGg43 (toh18 p24_0 s46 ktoh1) (toh41 c29 s46 s7 ktoh1) (toh42 c34 efi35_7424 efig43_7424 ktoh0) (toh43 efi24_7424 efi35_7424 efig18_7424 efig43_7424) (gDr_la (m := (dRm (x2 / 100) 100).toInt.toNat) (dk := dRm x2 100) O24_1 zD40 (toh10 p24_0) (toh21 s46 ktoh1) (toh33 c17 ktohm1)).2.1 (gDr_la (m := (dRm (x2 / 100) 100).toInt.toNat) (dk := dRm x2 100) O24_1 zD40 (toh10 p24_0) (toh21 s46 ktoh1) (toh33 c17 ktohm1)).1 (gT_c tG44 (gDr_la (m := (dRm (x2 / 100) 100).toInt.toNat) (dk := dRm x2 100) O24_1 zD40 (toh10 p24_0) (toh21 s46 ktoh1) (toh33 c17 ktohm1)).2.2) (by first | rfl | (simp only [q45, O35_2, sMn, sMx]; done) | (simp only [q45, O35_2, sMn, sMx]; rfl)) (by first | rfl | (simp only [kg43.fa 139 rfl, O35_2, sMn, sMx]; done) | (simp only [kg43.fa 139 rfl, O35_2, sMn, sMx]; rfl)) (kj_meas (toh44 s46 ktoh1) (toh45 c29 s7) hm24)
                          ·
                            have c47 : x3.toInt ≠ ((-1) : Int32).toInt := kd_eqF c; clear c
                            exact (toh32 c17 c47 ktohm1).elim
                        ·
                          have c48 : l7_35.toInt < ((x2 / 100) - (x2 / 100) / 100 * 100).toInt := kd_leF c; clear c
                          have b49 : ((-2147483648 : Int) ≤ l4_35.toInt) ∧ (l4_35.toInt ≤ 2147483647) := kd_bd l4_35
                          have b50 : ((-2147483648 : Int) ≤ (l4_35 * 1103515245).toInt) ∧ ((l4_35 * 1103515245).toInt ≤ 2147483647) := kd_bd (l4_35 * 1103515245)
                          have s51 : (0 : Int) ≤ ((((l4_35 * 1103515245) + 12345).toUInt32 >>> ((16 : Int32).toUInt32 &&& Int32.toUInt32 31)).toInt32).toInt := kd_ushr 16 (by decide) (by decide) (by decide)
                          have s52 : (((((l4_35 * 1103515245) + 12345).toUInt32 >>> ((16 : Int32).toUInt32 &&& Int32.toUInt32 31)).toInt32) - ((((l4_35 * 1103515245) + 12345).toUInt32 >>> ((16 : Int32).toUInt32 &&& Int32.toUInt32 31)).toInt32) / 12 * 12).toInt = (((((l4_35 * 1103515245) + 12345).toUInt32 >>> ((16 : Int32).toUInt32 &&& Int32.toUInt32 31)).toInt32).toInt % 12) := kd_rem 12 ktoh12 (by decide) (toh10 s51)
                          first | refine ft_goL mi_k201 14 127 [(4, .int ((l4_35 * 1103515245) + 12345)), (7, .int l7_35), (6, .int l6_24), (5, .int l5_24), (0, .ref 116), (1, .int x1), (2, .int x2), (3, .int x3)] [.int (x2 - x2 / 100 * 100), .int (((((l4_35 * 1103515245) + 12345).toUInt32 >>> ((16 : Int32).toUInt32 &&& Int32.toUInt32 31)).toInt32) - ((((l4_35 * 1103515245) + 12345).toUInt32 >>> ((16 : Int32).toUInt32 &&& Int32.toUInt32 31)).toInt32) / 12 * 12)] (by rfl) ?_ | refine ft_go mi_k201 14 127 [(4, .int ((l4_35 * 1103515245) + 12345)), (7, .int l7_35), (6, .int l6_24), (5, .int l5_24), (0, .ref 116), (1, .int x1), (2, .int x2), (3, .int x3)] [.int (x2 - x2 / 100 * 100), .int (((((l4_35 * 1103515245) + 12345).toUInt32 >>> ((16 : Int32).toUInt32 &&& Int32.toUInt32 31)).toInt32) - ((((l4_35 * 1103515245) + 12345).toUInt32 >>> ((16 : Int32).toUInt32 &&& Int32.toUInt32 31)).toInt32) / 12 * 12)] i35 a35 q35 r35 (by rfl) ?_
                          refine ft_ifS mi_k201 (decide ((x2 - x2 / 100 * 100) ≤ (((((l4_35 * 1103515245) + 12345).toUInt32 >>> ((16 : Int32).toUInt32 &&& Int32.toUInt32 31)).toInt32) - ((((l4_35 * 1103515245) + 12345).toUInt32 >>> ((16 : Int32).toUInt32 &&& Int32.toUInt32 31)).toInt32) / 12 * 12))) 134 130 [] (by rfl) (fun c => ?_) (fun c => ?_)
                          ·
                            have c53 : (x2 - x2 / 100 * 100).toInt ≤ (((((l4_35 * 1103515245) + 12345).toUInt32 >>> ((16 : Int32).toUInt32 &&& Int32.toUInt32 31)).toInt32) - ((((l4_35 * 1103515245) + 12345).toUInt32 >>> ((16 : Int32).toUInt32 &&& Int32.toUInt32 31)).toInt32) / 12 * 12).toInt := kd_le c; clear c
                            have s54 : (0 : Int) ≤ ((((l4_35 * 1103515245) + 12345).toUInt32 >>> ((8 : Int32).toUInt32 &&& Int32.toUInt32 31)).toInt32).toInt := kd_ushr 8 (by decide) (by decide) (by decide)
                            first | refine ft_goS mi_k201 6 144 [.int (i35 7424), .int ((((l4_35 * 1103515245) + 12345).toUInt32 >>> ((8 : Int32).toUInt32 &&& Int32.toUInt32 31)).toInt32), .ref 116] (by rfl) ?_ | refine ft_go mi_k201 6 144 [(4, .int ((l4_35 * 1103515245) + 12345)), (7, .int l7_35), (6, .int l6_24), (5, .int l5_24), (0, .ref 116), (1, .int x1), (2, .int x2), (3, .int x3)] [.int (i35 7424), .int ((((l4_35 * 1103515245) + 12345).toUInt32 >>> ((8 : Int32).toUInt32 &&& Int32.toUInt32 31)).toInt32), .ref 116] i35 a35 q35 r35 (by rfl) ?_
                            have s55 : ((0 : Int) ≤ (((((l4_35 * 1103515245) + 12345).toUInt32 >>> ((8 : Int32).toUInt32 &&& Int32.toUInt32 31)).toInt32) - ((((l4_35 * 1103515245) + 12345).toUInt32 >>> ((8 : Int32).toUInt32 &&& Int32.toUInt32 31)).toInt32) / (i35 7424) * (i35 7424)).toInt) ∧ ((((((l4_35 * 1103515245) + 12345).toUInt32 >>> ((8 : Int32).toUInt32 &&& Int32.toUInt32 31)).toInt32) - ((((l4_35 * 1103515245) + 12345).toUInt32 >>> ((8 : Int32).toUInt32 &&& Int32.toUInt32 31)).toInt32) / (i35 7424) * (i35 7424)).toInt < (i35 7424).toInt) := kd_remv (toh47 c34 efi35_7424 ktoh0) (toh10 s54)
                            refine ko_irem mi_k201.1 (ax := (0, 0, 0, 0, 0)) (mi_k201.2 _ _ (by rfl)) (toh46 c34 efi35_7424 ktoh0) ?_
                            have hG56 := kG_call hL24 hL35 (by decide +kernel)
                            have hG57 := kG_call hGg18 hG56 (by decide +kernel)
                            refine ko_callI mi_k201.1 (pc := 145) (ls := [(4, .int ((l4_35 * 1103515245) + 12345)), (7, .int l7_35), (6, .int l6_24), (5, .int l5_24), (0, .ref 116), (1, .int x1), (2, .int x2), (3, .int x3)]) (st := [.int (((((l4_35 * 1103515245) + 12345).toUInt32 >>> ((8 : Int32).toUInt32 &&& Int32.toUInt32 31)).toInt32) - ((((l4_35 * 1103515245) + 12345).toUInt32 >>> ((8 : Int32).toUInt32 &&& Int32.toUInt32 31)).toInt32) / (i35 7424) * (i35 7424)), .ref 116]) (h := ks i35 a35 q35 r35) (i := (.invokevirtual 260, 3, 166, 0, 9, 0, 415)) (mi_k201.2 _ _ (by rfl)) (ft_invS mi_pq166 (by rfl)) (cy := mi_c166) mi_pq166 rfl (kg166_116 hL35.I hL35.R (((((l4_35 * 1103515245) + 12345).toUInt32 >>> ((8 : Int32).toUInt32 &&& Int32.toUInt32 31)).toInt32) - ((((l4_35 * 1103515245) + 12345).toUInt32 >>> ((8 : Int32).toUInt32 &&& Int32.toUInt32 31)).toInt32) / (i35 7424) * (i35 7424)) (toh48 fi35_7424.2 s55.1 s55.2) (kCode_of (i1 := i35) hE_code (hG57.fi 7432 rfl) (hG57.fa 120 rfl) (hG57.fa 121 rfl) (hG57.fa 122 rfl) (hG57.fa 123 rfl))) (by decide) ?_
                            intro vg58 ig58 ag58 qg58 rg58 kg58 hg58
                            have hGg58 := kG_call hL35 kg58 (by decide +kernel)
                            obtain ⟨hg58, og58⟩ := hg58
                            have oG59 := og58
                            have hG60 := kG_call hL24 hL35 (by decide +kernel)
                            have hG61 := kG_call hGg18 hG60 (by decide +kernel)
                            rw [(gKn_fr hG61 (by decide +kernel) : gKn i35 a35 = gKn i a), (O35_1 : gT i35 a35 = (gDm (gKn i a) (i 7424) (dRm x2 100) (gDr (gKn i a) (i 7424) (dRm x2 100) (dRm (x2 / 100) 100).toInt.toNat x3 (a 118) x1 (gR i a) l6_24.toInt.toNat).2 l7_35.toInt.toNat).2)] at oG59
                            have tG62 : gT ig58 ag58 = gIn (gKn i a) (((((l4_35 * 1103515245) + 12345).toUInt32 >>> ((8 : Int32).toUInt32 &&& Int32.toUInt32 31)).toInt32) - ((((l4_35 * 1103515245) + 12345).toUInt32 >>> ((8 : Int32).toUInt32 &&& Int32.toUInt32 31)).toInt32) / (i35 7424) * (i35 7424)) ((gDm (gKn i a) (i 7424) (dRm x2 100) (gDr (gKn i a) (i 7424) (dRm x2 100) (dRm (x2 / 100) 100).toInt.toNat x3 (a 118) x1 (gR i a) l6_24.toInt.toNat).2 l7_35.toInt.toNat).2) := oG59
                            have s63 : (l7_35 + 1).toInt = l7_35.toInt + (1 : Int32).toInt := kd_add (toh16 p35_0 ktoh1) (toh49 c48 s11 ktoh1)
                            first | refine fo_goL mi_k201 fz201_85_3_91 [(7, .int (l7_35 + 1)), (4, .int ((l4_35 * 1103515245) + 12345)), (6, .int l6_24), (5, .int l5_24), (0, .ref 116), (1, .int x1), (2, .int x2), (3, .int x3)] [] (by rfl) ?_ | refine fo_goL mi_k201 fz201_148_3_91 [(7, .int (l7_35 + 1)), (4, .int ((l4_35 * 1103515245) + 12345)), (6, .int l6_24), (5, .int l5_24), (0, .ref 116), (1, .int x1), (2, .int x2), (3, .int x3)] [] (by rfl) ?_ | refine ft_go mi_k201 3 91 [(7, .int (l7_35 + 1)), (4, .int ((l4_35 * 1103515245) + 12345)), (6, .int l6_24), (5, .int l5_24), (0, .ref 116), (1, .int x1), (2, .int x2), (3, .int x3)] [] ig58 ag58 qg58 rg58 (by rfl) ?_
                            refine ko_perm [(7, .int (l7_35 + 1)), (6, .int l6_24), (5, .int l5_24), (4, .int ((l4_35 * 1103515245) + 12345)), (0, .ref 116), (1, .int x1), (2, .int x2), (3, .int x3)] (List.forall_mem_cons.mpr ⟨(List.Mem.head _), (List.forall_mem_cons.mpr ⟨(List.Mem.tail _ (List.Mem.tail _ (List.Mem.head _))), (List.forall_mem_cons.mpr ⟨(List.Mem.tail _ (List.Mem.tail _ (List.Mem.tail _ (List.Mem.head _)))), (List.forall_mem_cons.mpr ⟨(List.Mem.tail _ (List.Mem.head _)), (List.forall_mem_cons.mpr ⟨(List.Mem.tail _ (List.Mem.tail _ (List.Mem.tail _ (List.Mem.tail _ (List.Mem.head _))))), (List.forall_mem_cons.mpr ⟨(List.Mem.tail _ (List.Mem.tail _ (List.Mem.tail _ (List.Mem.tail _ (List.Mem.tail _ (List.Mem.head _)))))), (List.forall_mem_cons.mpr ⟨(List.Mem.tail _ (List.Mem.tail _ (List.Mem.tail _ (List.Mem.tail _ (List.Mem.tail _ (List.Mem.tail _ (List.Mem.head _))))))), (List.forall_mem_cons.mpr ⟨(List.Mem.tail _ (List.Mem.tail _ (List.Mem.tail _ (List.Mem.tail _ (List.Mem.tail _ (List.Mem.tail _ (List.Mem.tail _ (List.Mem.head _)))))))), (fun _ h => absurd h List.not_mem_nil)⟩)⟩)⟩)⟩)⟩)⟩)⟩)⟩) ?_
                            have efig58_7424 : (ig58 7424).toInt = (i35 7424).toInt := kg58.ti 7424 rfl
                            exact ih35 _ _ _ _ _ _ hGg58 (toh18 p35_0 s63 ktoh1) (toh50 c48 s63 ktoh1) (toh43 efi24_7424 efi35_7424 efig18_7424 efig58_7424) (congrArg Prod.fst (gD_no (n1 := (i35 7424)) ((((hL35.fi 7424 rfl).trans (hL24.fi 7424 rfl)).trans (kg18.fi 7424 rfl)) : (i35 7424) = i 7424) O35_0 (toh10 p35_0) (toh21 s63 ktoh1) (toh51 c53))).symm (gT_c tG62 (congrArg Prod.snd (gD_no (n1 := (i35 7424)) ((((hL35.fi 7424 rfl).trans (hL24.fi 7424 rfl)).trans (kg18.fi 7424 rfl)) : (i35 7424) = i 7424) O35_0 (toh10 p35_0) (toh21 s63 ktoh1) (toh51 c53)))) (by first | rfl | (simp only [kg58.fa 139 rfl, O35_2, sMn, sMx]; done) | (simp only [kg58.fa 139 rfl, O35_2, sMn, sMx]; rfl)) (kj_meas (toh52 s63 ktoh1) (toh53 c48 s11) hm35)
                          ·
                            have c64 : (((((l4_35 * 1103515245) + 12345).toUInt32 >>> ((16 : Int32).toUInt32 &&& Int32.toUInt32 31)).toInt32) - ((((l4_35 * 1103515245) + 12345).toUInt32 >>> ((16 : Int32).toUInt32 &&& Int32.toUInt32 31)).toInt32) / 12 * 12).toInt < (x2 - x2 / 100 * 100).toInt := kd_leF c; clear c
                            first | refine ft_goS mi_k201 1 131 [.ref 116] (by rfl) ?_ | refine ft_go mi_k201 1 131 [(4, .int ((l4_35 * 1103515245) + 12345)), (7, .int l7_35), (6, .int l6_24), (5, .int l5_24), (0, .ref 116), (1, .int x1), (2, .int x2), (3, .int x3)] [.ref 116] i35 a35 q35 r35 (by rfl) ?_
                            refine ko_callN mi_k201.1 (pc := 131) (ls := [(4, .int ((l4_35 * 1103515245) + 12345)), (7, .int l7_35), (6, .int l6_24), (5, .int l5_24), (0, .ref 116), (1, .int x1), (2, .int x2), (3, .int x3)]) (st := [.ref 116]) (h := ks i35 a35 q35 r35) (i := (.invokevirtual 282, 3, 167, 0, 9, 0, 426)) (mi_k201.2 _ _ (by rfl)) (ft_invS mi_pq167 (by rfl)) (cy := mi_c167) mi_pq167 rfl (ke167_116 hL35.I hL35.R ) (by decide) ?_
                            intro ig65 ag65 qg65 rg65 kg65 hg65
                            have hGg65 := kG_call hL35 kg65 (by decide +kernel)
                            obtain ⟨hg65, og65⟩ := hg65
                            have tG66 : gT ig65 ag65 = gEve ((gDm (gKn i a) (i 7424) (dRm x2 100) (gDr (gKn i a) (i 7424) (dRm x2 100) (dRm (x2 / 100) 100).toInt.toNat x3 (a 118) x1 (gR i a) l6_24.toInt.toNat).2 l7_35.toInt.toNat).2) := (gT_eve O35_1 og65 (kg65.fi 7464 rfl) (kg65.fi 7465 rfl) (kg65.fi 7466 rfl) (kg65.fi 7467 rfl) (kg65.fa 141 rfl))
                            have q67 : ag65 118 = sEnds (a35 118) := og65
                            have s68 : (0 : Int) ≤ ((((l4_35 * 1103515245) + 12345).toUInt32 >>> ((8 : Int32).toUInt32 &&& Int32.toUInt32 31)).toInt32).toInt := kd_ushr 8 (by decide) (by decide) (by decide)
                            have fig65_7424 : ((0 : Int) ≤ (ig65 7424).toInt) ∧ ((ig65 7424).toInt ≤ 8) := hGg65.I.1 7424
                            have efig65_7424 : (ig65 7424).toInt = (i35 7424).toInt := kg65.ti 7424 rfl
                            first | refine ft_goS mi_k201 6 144 [.int (ig65 7424), .int ((((l4_35 * 1103515245) + 12345).toUInt32 >>> ((8 : Int32).toUInt32 &&& Int32.toUInt32 31)).toInt32), .ref 116] (by rfl) ?_ | refine ft_go mi_k201 6 144 [(4, .int ((l4_35 * 1103515245) + 12345)), (7, .int l7_35), (6, .int l6_24), (5, .int l5_24), (0, .ref 116), (1, .int x1), (2, .int x2), (3, .int x3)] [.int (ig65 7424), .int ((((l4_35 * 1103515245) + 12345).toUInt32 >>> ((8 : Int32).toUInt32 &&& Int32.toUInt32 31)).toInt32), .ref 116] ig65 ag65 qg65 rg65 (by rfl) ?_
                            have s69 : ((0 : Int) ≤ (((((l4_35 * 1103515245) + 12345).toUInt32 >>> ((8 : Int32).toUInt32 &&& Int32.toUInt32 31)).toInt32) - ((((l4_35 * 1103515245) + 12345).toUInt32 >>> ((8 : Int32).toUInt32 &&& Int32.toUInt32 31)).toInt32) / (ig65 7424) * (ig65 7424)).toInt) ∧ ((((((l4_35 * 1103515245) + 12345).toUInt32 >>> ((8 : Int32).toUInt32 &&& Int32.toUInt32 31)).toInt32) - ((((l4_35 * 1103515245) + 12345).toUInt32 >>> ((8 : Int32).toUInt32 &&& Int32.toUInt32 31)).toInt32) / (ig65 7424) * (ig65 7424)).toInt < (ig65 7424).toInt) := kd_remv (toh71 c34 efi35_7424 efig65_7424 ktoh0) (toh10 s68)
                            refine ko_irem mi_k201.1 (ax := (0, 0, 0, 0, 0)) (mi_k201.2 _ _ (by rfl)) (toh70 c34 efi35_7424 efig65_7424 ktoh0) ?_
                            have hG70 := kG_call hL24 hGg65 (by decide +kernel)
                            have hG71 := kG_call hGg18 hG70 (by decide +kernel)
                            refine ko_callI mi_k201.1 (pc := 145) (ls := [(4, .int ((l4_35 * 1103515245) + 12345)), (7, .int l7_35), (6, .int l6_24), (5, .int l5_24), (0, .ref 116), (1, .int x1), (2, .int x2), (3, .int x3)]) (st := [.int (((((l4_35 * 1103515245) + 12345).toUInt32 >>> ((8 : Int32).toUInt32 &&& Int32.toUInt32 31)).toInt32) - ((((l4_35 * 1103515245) + 12345).toUInt32 >>> ((8 : Int32).toUInt32 &&& Int32.toUInt32 31)).toInt32) / (ig65 7424) * (ig65 7424)), .ref 116]) (h := ks ig65 ag65 qg65 rg65) (i := (.invokevirtual 260, 3, 166, 0, 9, 0, 415)) (mi_k201.2 _ _ (by rfl)) (ft_invS mi_pq166 (by rfl)) (cy := mi_c166) mi_pq166 rfl (kg166_116 hGg65.I hGg65.R (((((l4_35 * 1103515245) + 12345).toUInt32 >>> ((8 : Int32).toUInt32 &&& Int32.toUInt32 31)).toInt32) - ((((l4_35 * 1103515245) + 12345).toUInt32 >>> ((8 : Int32).toUInt32 &&& Int32.toUInt32 31)).toInt32) / (ig65 7424) * (ig65 7424)) (toh48 fig65_7424.2 s69.1 s69.2) (kCode_of (i1 := ig65) hE_code (hG71.fi 7432 rfl) (hG71.fa 120 rfl) (hG71.fa 121 rfl) (hG71.fa 122 rfl) (hG71.fa 123 rfl))) (by decide) ?_
                            intro vg72 ig72 ag72 qg72 rg72 kg72 hg72
                            have hGg72 := kG_call hGg65 kg72 (by decide +kernel)
                            obtain ⟨hg72, og72⟩ := hg72
                            have oG73 := og72
                            have hG74 := kG_call hL24 hGg65 (by decide +kernel)
                            have hG75 := kG_call hGg18 hG74 (by decide +kernel)
                            rw [(gKn_fr hG75 (by decide +kernel) : gKn ig65 ag65 = gKn i a), (tG66 : gT ig65 ag65 = gEve ((gDm (gKn i a) (i 7424) (dRm x2 100) (gDr (gKn i a) (i 7424) (dRm x2 100) (dRm (x2 / 100) 100).toInt.toNat x3 (a 118) x1 (gR i a) l6_24.toInt.toNat).2 l7_35.toInt.toNat).2))] at oG73
                            have tG76 : gT ig72 ag72 = gIn (gKn i a) (((((l4_35 * 1103515245) + 12345).toUInt32 >>> ((8 : Int32).toUInt32 &&& Int32.toUInt32 31)).toInt32) - ((((l4_35 * 1103515245) + 12345).toUInt32 >>> ((8 : Int32).toUInt32 &&& Int32.toUInt32 31)).toInt32) / (ig65 7424) * (ig65 7424)) (gEve ((gDm (gKn i a) (i 7424) (dRm x2 100) (gDr (gKn i a) (i 7424) (dRm x2 100) (dRm (x2 / 100) 100).toInt.toNat x3 (a 118) x1 (gR i a) l6_24.toInt.toNat).2 l7_35.toInt.toNat).2)) := oG73
                            have s77 : (l7_35 + 1).toInt = l7_35.toInt + (1 : Int32).toInt := kd_add (toh16 p35_0 ktoh1) (toh49 c48 s11 ktoh1)
                            first | refine fo_goL mi_k201 fz201_85_3_91 [(7, .int (l7_35 + 1)), (4, .int ((l4_35 * 1103515245) + 12345)), (6, .int l6_24), (5, .int l5_24), (0, .ref 116), (1, .int x1), (2, .int x2), (3, .int x3)] [] (by rfl) ?_ | refine fo_goL mi_k201 fz201_148_3_91 [(7, .int (l7_35 + 1)), (4, .int ((l4_35 * 1103515245) + 12345)), (6, .int l6_24), (5, .int l5_24), (0, .ref 116), (1, .int x1), (2, .int x2), (3, .int x3)] [] (by rfl) ?_ | refine ft_go mi_k201 3 91 [(7, .int (l7_35 + 1)), (4, .int ((l4_35 * 1103515245) + 12345)), (6, .int l6_24), (5, .int l5_24), (0, .ref 116), (1, .int x1), (2, .int x2), (3, .int x3)] [] ig72 ag72 qg72 rg72 (by rfl) ?_
                            refine ko_perm [(7, .int (l7_35 + 1)), (6, .int l6_24), (5, .int l5_24), (4, .int ((l4_35 * 1103515245) + 12345)), (0, .ref 116), (1, .int x1), (2, .int x2), (3, .int x3)] (List.forall_mem_cons.mpr ⟨(List.Mem.head _), (List.forall_mem_cons.mpr ⟨(List.Mem.tail _ (List.Mem.tail _ (List.Mem.head _))), (List.forall_mem_cons.mpr ⟨(List.Mem.tail _ (List.Mem.tail _ (List.Mem.tail _ (List.Mem.head _)))), (List.forall_mem_cons.mpr ⟨(List.Mem.tail _ (List.Mem.head _)), (List.forall_mem_cons.mpr ⟨(List.Mem.tail _ (List.Mem.tail _ (List.Mem.tail _ (List.Mem.tail _ (List.Mem.head _))))), (List.forall_mem_cons.mpr ⟨(List.Mem.tail _ (List.Mem.tail _ (List.Mem.tail _ (List.Mem.tail _ (List.Mem.tail _ (List.Mem.head _)))))), (List.forall_mem_cons.mpr ⟨(List.Mem.tail _ (List.Mem.tail _ (List.Mem.tail _ (List.Mem.tail _ (List.Mem.tail _ (List.Mem.tail _ (List.Mem.head _))))))), (List.forall_mem_cons.mpr ⟨(List.Mem.tail _ (List.Mem.tail _ (List.Mem.tail _ (List.Mem.tail _ (List.Mem.tail _ (List.Mem.tail _ (List.Mem.tail _ (List.Mem.head _)))))))), (fun _ h => absurd h List.not_mem_nil)⟩)⟩)⟩)⟩)⟩)⟩)⟩)⟩) ?_
                            have efig72_7424 : (ig72 7424).toInt = (ig65 7424).toInt := kg72.ti 7424 rfl
                            exact ih35 _ _ _ _ _ _ hGg72 (toh18 p35_0 s77 ktoh1) (toh50 c48 s77 ktoh1) (toh72 efi24_7424 efi35_7424 efig18_7424 efig65_7424 efig72_7424) (congrArg Prod.fst (gD_yes (n1 := (ig65 7424)) (((((kg65.fi 7424 rfl).trans (hL35.fi 7424 rfl)).trans (hL24.fi 7424 rfl)).trans (kg18.fi 7424 rfl)) : (ig65 7424) = i 7424) O35_0 (toh10 p35_0) (toh21 s77 ktoh1) (toh73 c64))).symm (gT_c tG76 (congrArg Prod.snd (gD_yes (n1 := (ig65 7424)) (((((kg65.fi 7424 rfl).trans (hL35.fi 7424 rfl)).trans (hL24.fi 7424 rfl)).trans (kg18.fi 7424 rfl)) : (ig65 7424) = i 7424) O35_0 (toh10 p35_0) (toh21 s77 ktoh1) (toh73 c64)))) (by first | rfl | (simp only [kg72.fa 139 rfl, kg65.fa 139 rfl, O35_2, sMn, sMx]; done) | (simp only [kg72.fa 139 rfl, kg65.fa 139 rfl, O35_2, sMn, sMx]; rfl)) (kj_meas (toh52 s77 ktoh1) (toh53 c48 s11) hm35)
                    exact lp35 _ _ _ _ _ _ _ (kG_self _ hL24.I hL24.R) (toh24 ktoh0) (toh74 z13.1 ktoh1 ktoh0) (toh75 efi24_7424 efig18_7424) (O24_0.trans (congrArg Prod.fst (gDm_0 ktoh0)).symm) (gT_c O24_2 (congrArg Prod.snd (gDm_0 ktoh0))) (by first | rfl | (simp only [O24_4, sMn, sMx]; done) | (simp only [O24_4, sMn, sMx]; rfl)) (Nat.lt_succ_self _)
            have efig18_7424 : (ig18 7424).toInt = (i 7424).toInt := kg18.ti 7424 rfl
            exact lp24 _ _ _ _ _ _ _ _ (kG_self _ hGg18.I hGg18.R) (toh24 ktoh0) (toh76 s7 z9.1 ktoh1 ktoh0) (toh77 ktoh0) (toh78 efig18_7424) (congrArg (fun z => z.2.1) (gDr_0 ktoh0)).symm (congrArg Prod.fst (gDr_0 ktoh0)).symm (gT_c tG19 (congrArg (fun z => z.2.2) (gDr_0 ktoh0))) (by first | rfl | (simp only [q21, sMn, sMx]; done) | (simp only [q21, sMn, sMx]; rfl)) (by first | rfl | (simp only [q20, sMn, sMx]; done) | (simp only [q20, sMn, sMx]; rfl)) (Nat.lt_succ_self _)
          ·
            have c78 : x3.toInt ≠ ((-1) : Int32).toInt := kd_eqF c; clear c
            first | refine ft_goS mi_k201 2 50 [.int x3, .ref 116] (by rfl) ?_ | refine ft_go mi_k201 2 50 [(0, .ref 116), (1, .int x1), (2, .int x2), (3, .int x3)] [.int x3, .ref 116] i a q r (by rfl) ?_
            refine ko_callPI mi_k201.1 (pc := 50) (ls := [(0, .ref 116), (1, .int x1), (2, .int x2), (3, .int x3)]) (st := [.int x3, .ref 116]) (h := ks i a q r) (i := (.invokevirtual 137, 3, 132, 0, 9, 0, 387)) (mi_k201.2 _ _ (by rfl)) (ft_invS mi_pq132 (by rfl)) (cy := mi_c132) mi_pq132 rfl (kc132_116 hG.I hG.R x3) (by decide) ?_
            intro vg79 hg79
            rcases hg79 with ⟨eg79, hg79⟩ | ⟨eg79, hg79⟩
            ·
              subst eg79
              have fi_7424 : ((0 : Int) ≤ (i 7424).toInt) ∧ ((i 7424).toInt ≤ 8) := hG.I.1 7424
              have z80 : ((0 : Int) ≤ x3.toInt) ∧ (x3.toInt < (i 7424).toInt) := hg79
              first | refine ft_goS mi_k201 2 59 [.ref 116] (by rfl) ?_ | refine ft_go mi_k201 2 59 [(0, .ref 116), (1, .int x1), (2, .int x2), (3, .int x3)] [.ref 116] i a q r (by rfl) ?_
              refine ko_callN mi_k201.1 (pc := 59) (ls := [(0, .ref 116), (1, .int x1), (2, .int x2), (3, .int x3)]) (st := [.ref 116]) (h := ks i a q r) (i := (.invokevirtual 267, 3, 171, 0, 9, 0, 412)) (mi_k201.2 _ _ (by rfl)) (ft_invS mi_pq171 (by rfl)) (cy := mi_c171) mi_pq171 rfl (kg171_116 hG.I hG.R ) (by decide) ?_
              intro ig81 ag81 qg81 rg81 kg81 hg81
              have hGg81 := kG_call hG kg81 (by decide +kernel)
              obtain ⟨hg81, og81⟩ := hg81
              have tG82 : gT ig81 ag81 = gR i a := (gT_R (og81.2.1.trans rfl) (kg81.fi 7464 rfl) (kg81.fi 7465 rfl) (kg81.fi 7466 rfl) og81.2.2.1 og81.2.2.2)
              have q83 : ag81 139 = a 118 := og81.1
              have q84 : ag81 118 = a 118 := og81.2.1
              have q85 : ig81 7467 = 0 := og81.2.2.1
              have q86 : ag81 141 = List.replicate 64 0 := og81.2.2.2
              first | refine fo_goL mi_k201 fz201_62_6_71 [(6, .int 0), (5, .int 0), (4, .int x1), (0, .ref 116), (1, .int x1), (2, .int x2), (3, .int x3)] [] (by rfl) ?_ | refine ft_goL mi_k201 6 71 [(6, .int 0), (5, .int 0), (4, .int x1), (0, .ref 116), (1, .int x1), (2, .int x2), (3, .int x3)] [] (by rfl) ?_ | refine ft_go mi_k201 6 71 [(6, .int 0), (5, .int 0), (4, .int x1), (0, .ref 116), (1, .int x1), (2, .int x2), (3, .int x3)] [] ig81 ag81 qg81 rg81 (by rfl) ?_
              have lp87 : ∀ (nz : Nat) (i87 : Nat → Int32) (a87 : Nat → List Int32) (q87 : Nat → List Int64) (r87 : Nat → Nat) (l6_87 : Int32) (l5_87 : Int32) (l4_87 : Int32), kG yzw201_116_L71 ig81 ag81 qg81 rg81 i87 a87 q87 r87 → (0 : Int) ≤ l6_87.toInt → l6_87.toInt ≤ (x2.toInt / 10000) → (l6_87.toInt = 0) ∨ ((1 : Int) ≤ (i87 7424).toInt) → (i87 7424).toInt = (i 7424).toInt → l4_87 = (gDr (gKn i a) (i 7424) (dRm x2 100) (dRm (x2 / 100) 100).toInt.toNat x3 (a 118) x1 (gR i a) l6_87.toInt.toNat).2.1 → l5_87 = (gDr (gKn i a) (i 7424) (dRm x2 100) (dRm (x2 / 100) 100).toInt.toNat x3 (a 118) x1 (gR i a) l6_87.toInt.toNat).1 → gT i87 a87 = (gDr (gKn i a) (i 7424) (dRm x2 100) (dRm (x2 / 100) 100).toInt.toNat x3 (a 118) x1 (gR i a) l6_87.toInt.toNat).2.2 → a87 118 = a 118 → a87 139 = a 118 → (((x2.toInt / 10000) - l6_87.toInt)).toNat < nz → ko 11 (mi_h201, mi_c201) P (71, [(6, .int l6_87), (5, .int l5_87), (4, .int l4_87), (0, .ref 116), (1, .int x1), (2, .int x2), (3, .int x3)], [], (0, 0), ks i87 a87 q87 r87) := by
                intro nz
                induction nz with
                | zero =>
                  intro _ _ _ _ _ _ _ _ _ _ _ _ _ _ _ _ _ hm
                  exact absurd hm (Nat.not_lt_zero _)
                | succ nz ih87 =>
                  intro i87 a87 q87 r87 l6_87 l5_87 l4_87 hL87 p87_0 p87_1 p87_2 p87_3 O87_0 O87_1 O87_2 O87_3 O87_4 hm87
                  have efig81_7424 : (ig81 7424).toInt = (i 7424).toInt := kg81.ti 7424 rfl
                  have efi87_7424 : (i87 7424).toInt = (ig81 7424).toInt := hL87.ti 7424 rfl
                  first | refine fo_goL mi_k201 fz201_71_4_78 [(6, .int l6_87), (5, .int l5_87), (4, .int l4_87), (0, .ref 116), (1, .int x1), (2, .int x2), (3, .int x3)] [.int (x2 / 10000), .int l6_87] (by rfl) ?_ | refine ft_go mi_k201 4 78 [(6, .int l6_87), (5, .int l5_87), (4, .int l4_87), (0, .ref 116), (1, .int x1), (2, .int x2), (3, .int x3)] [.int (x2 / 10000), .int l6_87] i87 a87 q87 r87 (by rfl) ?_
                  refine ft_ifS mi_k201 (decide ((x2 / 10000) ≤ l6_87)) 186 81 [] (by rfl) (fun c => ?_) (fun c => ?_)
                  ·
                    have c88 : (x2 / 10000).toInt ≤ l6_87.toInt := kd_le c; clear c
                    have hG89 := kG_call hGg81 hL87 (by decide +kernel)
                    first | refine fo_goS mi_k201 fz201_186_2_188 [.int (-1), .int x3] (by rfl) ?_ | refine ft_go mi_k201 2 188 [(6, .int l6_87), (5, .int l5_87), (4, .int l4_87), (0, .ref 116), (1, .int x1), (2, .int x2), (3, .int x3)] [.int (-1), .int x3] i87 a87 q87 r87 (by rfl) ?_
                    refine ft_ifS mi_k201 (x3 != (-1)) 198 191 [] (by rfl) (fun c => ?_) (fun c => ?_)
                    ·
                      have c90 : x3.toInt ≠ ((-1) : Int32).toInt := kd_ne c; clear c
                      first | refine ft_goS mi_k201 1 200 [.int l5_87] (by rfl) ?_ | refine ft_go mi_k201 1 200 [(6, .int l6_87), (5, .int l5_87), (4, .int l4_87), (0, .ref 116), (1, .int x1), (2, .int x2), (3, .int x3)] [.int l5_87] i87 a87 q87 r87 (by rfl) ?_
                      exact ft_ret mi_k201 (by rfl) (hP l5_87 _ _ _ _ hG89 ⟨trivial, ⟨(show a87 118 = a 118 from (by first | rfl | (simp only [O87_3, sMn, sMx]; done) | (simp only [O87_3, sMn, sMx]; rfl))), (Or.inr ⟨(toh85 c16 c6 z13.1 z13.2 z80.1 z80.2 z9.1 z9.2 ktoh12 ktoh0 ktoh1 ktoh60 ktoh30), dV_end (toh84 c88 p87_1 s7 z80.1 z80.2) (dV_pu (toh83 z80.1) O87_1)⟩)⟩⟩)
                    ·
                      have c91 : x3.toInt = ((-1) : Int32).toInt := kd_neF c; clear c
                      exact (toh86 c91 z80.1 ktohm1).elim
                  ·
                    have c92 : l6_87.toInt < (x2 / 10000).toInt := kd_leF c; clear c
                    first | refine ft_goS mi_k201 2 85 [.int (i87 7424)] (by rfl) ?_ | refine ft_go mi_k201 2 85 [(6, .int l6_87), (5, .int l5_87), (4, .int l4_87), (0, .ref 116), (1, .int x1), (2, .int x2), (3, .int x3)] [.int (i87 7424)] i87 a87 q87 r87 (by rfl) ?_
                    refine ft_ifS mi_k201 (decide ((i87 7424) ≤ 0)) 186 88 [] (by rfl) (fun c => ?_) (fun c => ?_)
                    ·
                      have c93 : (i87 7424).toInt ≤ (0 : Int32).toInt := kd_le c; clear c
                      exact (toh87 c93 efi87_7424 efig81_7424 z80.1 z80.2 ktoh0).elim
                    ·
                      have c94 : (0 : Int32).toInt < (i87 7424).toInt := kd_leF c; clear c
                      first | refine ft_goL mi_k201 2 91 [(7, .int 0), (6, .int l6_87), (5, .int l5_87), (4, .int l4_87), (0, .ref 116), (1, .int x1), (2, .int x2), (3, .int x3)] [] (by rfl) ?_ | refine ft_go mi_k201 2 91 [(7, .int 0), (6, .int l6_87), (5, .int l5_87), (4, .int l4_87), (0, .ref 116), (1, .int x1), (2, .int x2), (3, .int x3)] [] i87 a87 q87 r87 (by rfl) ?_
                      have lp95 : ∀ (nz : Nat) (i95 : Nat → Int32) (a95 : Nat → List Int32) (q95 : Nat → List Int64) (r95 : Nat → Nat) (l7_95 : Int32) (l4_95 : Int32), kG yzw201_116_L91 i87 a87 q87 r87 i95 a95 q95 r95 → (0 : Int) ≤ l7_95.toInt → l7_95.toInt ≤ ((x2 / 100) - (x2 / 100) / 100 * 100).toInt → (i95 7424).toInt = (i 7424).toInt → l4_95 = (gDm (gKn i a) (i 7424) (dRm x2 100) (gDr (gKn i a) (i 7424) (dRm x2 100) (dRm (x2 / 100) 100).toInt.toNat x3 (a 118) x1 (gR i a) l6_87.toInt.toNat).2 l7_95.toInt.toNat).1 → gT i95 a95 = (gDm (gKn i a) (i 7424) (dRm x2 100) (gDr (gKn i a) (i 7424) (dRm x2 100) (dRm (x2 / 100) 100).toInt.toNat x3 (a 118) x1 (gR i a) l6_87.toInt.toNat).2 l7_95.toInt.toNat).2 → a95 139 = a 118 → ((100 - l7_95.toInt)).toNat < nz → ko 11 (mi_h201, mi_c201) P (91, [(7, .int l7_95), (6, .int l6_87), (5, .int l5_87), (4, .int l4_95), (0, .ref 116), (1, .int x1), (2, .int x2), (3, .int x3)], [], (0, 0), ks i95 a95 q95 r95) := by
                        intro nz
                        induction nz with
                        | zero =>
                          intro _ _ _ _ _ _ _ _ _ _ _ _ _ hm
                          exact absurd hm (Nat.not_lt_zero _)
                        | succ nz ih95 =>
                          intro i95 a95 q95 r95 l7_95 l4_95 hL95 p95_0 p95_1 p95_2 O95_0 O95_1 O95_2 hm95
                          have fi95_7424 : ((0 : Int) ≤ (i95 7424).toInt) ∧ ((i95 7424).toInt ≤ 8) := hL95.I.1 7424
                          have efi95_7424 : (i95 7424).toInt = (i87 7424).toInt := hL95.ti 7424 rfl
                          first | refine fo_goL mi_k201 fz201_91_6_100 [(7, .int l7_95), (6, .int l6_87), (5, .int l5_87), (4, .int l4_95), (0, .ref 116), (1, .int x1), (2, .int x2), (3, .int x3)] [.int ((x2 / 100) - (x2 / 100) / 100 * 100), .int l7_95] (by rfl) ?_ | refine ft_go mi_k201 6 100 [(7, .int l7_95), (6, .int l6_87), (5, .int l5_87), (4, .int l4_95), (0, .ref 116), (1, .int x1), (2, .int x2), (3, .int x3)] [.int ((x2 / 100) - (x2 / 100) / 100 * 100), .int l7_95] i95 a95 q95 r95 (by rfl) ?_
                          refine ft_ifS mi_k201 (decide (((x2 / 100) - (x2 / 100) / 100 * 100) ≤ l7_95)) 155 103 [] (by rfl) (fun c => ?_) (fun c => ?_)
                          ·
                            have c98 : ((x2 / 100) - (x2 / 100) / 100 * 100).toInt ≤ l7_95.toInt := kd_le c; clear c
                            have hG99 := kG_call hL87 hL95 (by decide +kernel)
                            have zD100 : l4_95 = (gDm (gKn i a) (i 7424) (dRm x2 100) (gDr (gKn i a) (i 7424) (dRm x2 100) (dRm (x2 / 100) 100).toInt.toNat x3 (a 118) x1 (gR i a) l6_87.toInt.toNat).2 (dRm (x2 / 100) 100).toInt.toNat).1 := O95_0.trans (congrArg (fun j : Nat => (gDm (gKn i a) (i 7424) (dRm x2 100) (gDr (gKn i a) (i 7424) (dRm x2 100) (dRm (x2 / 100) 100).toInt.toNat x3 (a 118) x1 (gR i a) l6_87.toInt.toNat).2 j).1) (congrArg Int.toNat (toh37 c98 p95_1))).symm
                            have tG101 : gT i95 a95 = (gDm (gKn i a) (i 7424) (dRm x2 100) (gDr (gKn i a) (i 7424) (dRm x2 100) (dRm (x2 / 100) 100).toInt.toNat x3 (a 118) x1 (gR i a) l6_87.toInt.toNat).2 (dRm (x2 / 100) 100).toInt.toNat).2 := (gT_c O95_1 (congrArg (fun j : Nat => (gDm (gKn i a) (i 7424) (dRm x2 100) (gDr (gKn i a) (i 7424) (dRm x2 100) (dRm (x2 / 100) 100).toInt.toNat x3 (a 118) x1 (gR i a) l6_87.toInt.toNat).2 j).2) (congrArg Int.toNat (toh37 c98 p95_1))))
                            first | refine ft_goS mi_k201 2 157 [.int (-1), .int x3] (by rfl) ?_ | refine ft_go mi_k201 2 157 [(7, .int l7_95), (6, .int l6_87), (5, .int l5_87), (4, .int l4_95), (0, .ref 116), (1, .int x1), (2, .int x2), (3, .int x3)] [.int (-1), .int x3] i95 a95 q95 r95 (by rfl) ?_
                            refine ft_ifS mi_k201 (x3 == (-1)) 171 160 [] (by rfl) (fun c => ?_) (fun c => ?_)
                            ·
                              have c102 : x3.toInt = ((-1) : Int32).toInt := kd_eq c; clear c
                              exact (toh86 c102 z80.1 ktohm1).elim
                            ·
                              have c103 : x3.toInt ≠ ((-1) : Int32).toInt := kd_eqF c; clear c
                              first | refine ft_goS mi_k201 4 167 [.int x3, .ref 118, .int l5_87] (by rfl) ?_ | refine ft_go mi_k201 4 167 [(7, .int l7_95), (6, .int l6_87), (5, .int l5_87), (4, .int l4_95), (0, .ref 116), (1, .int x1), (2, .int x2), (3, .int x3)] [.int x3, .ref 118, .int l5_87] i95 a95 q95 r95 (by rfl) ?_
                              refine ko_iald3 mi_k201.1 (n := 31) (c := 31) (ax := (0, 0, 0, 0, 0)) (mi_k201.2 _ _ (by rfl)) (by rfl) (ksG118 _ _ _ _) (hG99.I.2.1 118) rfl (toh10 z80.1) (toh88 fi_7424.2 z80.2) ?_
                              have r104 : ((x3.toInt = 18 → (0 : Int) ≤ ((a95 118).getD x3.toNatClampNeg 0).toInt ∧ ((a95 118).getD x3.toNatClampNeg 0).toInt ≤ 5)) ∧ ((19 ≤ x3.toInt → x3.toInt ≤ 24 → (0 : Int) ≤ ((a95 118).getD x3.toNatClampNeg 0).toInt ∧ ((a95 118).getD x3.toNatClampNeg 0).toInt ≤ 7)) := kE_ncond (p := 118) hG99.I (by decide) (j := x3) (toh10 z80.1)
                              have b105 : ((-2147483648 : Int) ≤ l5_87.toInt) ∧ (l5_87.toInt ≤ 2147483647) := kd_bd l5_87
                              have b106 : ((-2147483648 : Int) ≤ ((a95 118).getD x3.toNatClampNeg 0).toInt) ∧ (((a95 118).getD x3.toNatClampNeg 0).toInt ≤ 2147483647) := kd_bd ((a95 118).getD x3.toNatClampNeg 0)
                              first | refine fo_goL mi_k201 fz201_168_6_177 [(5, .int (l5_87 + ((a95 118).getD x3.toNatClampNeg 0))), (7, .int l7_95), (6, .int l6_87), (4, .int l4_95), (0, .ref 116), (1, .int x1), (2, .int x2), (3, .int x3)] [.int 0, .ref 139, .ref 116] (by rfl) ?_ | refine ft_goS mi_k201 6 177 [.int 0, .ref 139, .ref 116] (by rfl) ?_ | refine ft_go mi_k201 6 177 [(5, .int (l5_87 + ((a95 118).getD x3.toNatClampNeg 0))), (7, .int l7_95), (6, .int l6_87), (4, .int l4_95), (0, .ref 116), (1, .int x1), (2, .int x2), (3, .int x3)] [.int 0, .ref 139, .ref 116] i95 a95 q95 r95 (by rfl) ?_
                              refine ko_callN mi_k201.1 (pc := 177) (ls := [(5, .int (l5_87 + ((a95 118).getD x3.toNatClampNeg 0))), (7, .int l7_95), (6, .int l6_87), (4, .int l4_95), (0, .ref 116), (1, .int x1), (2, .int x2), (3, .int x3)]) (st := [.int 0, .ref 139, .ref 116]) (h := ks i95 a95 q95 r95) (i := (.invokevirtual 273, 3, 169, 0, 9, 0, 423)) (mi_k201.2 _ _ (by rfl)) (ft_invS mi_pq169 (by rfl)) (cy := mi_c169) mi_pq169 rfl (ke169_116_139 hG99.I hG99.R 0 (toh25 ktoh0)) (by decide) ?_
                              intro ig107 ag107 qg107 rg107 kg107 hg107
                              have hGg107 := kG_call hG99 kg107 (by decide +kernel)
                              obtain ⟨hg107, og107⟩ := hg107
                              have tG108 : gT ig107 ag107 = (a 118, ((gDm (gKn i a) (i 7424) (dRm x2 100) (gDr (gKn i a) (i 7424) (dRm x2 100) (dRm (x2 / 100) 100).toInt.toNat x3 (a 118) x1 (gR i a) l6_87.toInt.toNat).2 (dRm (x2 / 100) 100).toInt.toNat).2).2) := (gT_lay tG101 (og107.trans (show a95 139 = a 118 from (by first | rfl | (simp only [O95_2, sMn, sMx]; done) | (simp only [O95_2, sMn, sMx]; rfl)))) (kg107.fi 7464 rfl) (kg107.fi 7465 rfl) (kg107.fi 7466 rfl) (kg107.fi 7467 rfl) (kg107.fa 141 rfl))
                              have q109 : ag107 118 = a95 139 := og107
                              have s110 : (l6_87 + 1).toInt = l6_87.toInt + (1 : Int32).toInt := kd_add (toh16 p87_0 ktoh1) (toh40 c92 z9.2 ktoh30 ktoh1)
                              first | refine ft_goL mi_k201 2 71 [(6, .int (l6_87 + 1)), (5, .int (l5_87 + ((a95 118).getD x3.toNatClampNeg 0))), (7, .int l7_95), (4, .int l4_95), (0, .ref 116), (1, .int x1), (2, .int x2), (3, .int x3)] [] (by rfl) ?_ | refine ft_go mi_k201 2 71 [(6, .int (l6_87 + 1)), (5, .int (l5_87 + ((a95 118).getD x3.toNatClampNeg 0))), (7, .int l7_95), (4, .int l4_95), (0, .ref 116), (1, .int x1), (2, .int x2), (3, .int x3)] [] ig107 ag107 qg107 rg107 (by rfl) ?_
                              refine ko_perm [(6, .int (l6_87 + 1)), (5, .int (l5_87 + ((a95 118).getD x3.toNatClampNeg 0))), (4, .int l4_95), (0, .ref 116), (1, .int x1), (2, .int x2), (3, .int x3)] (List.forall_mem_cons.mpr ⟨(List.Mem.head _), (List.forall_mem_cons.mpr ⟨(List.Mem.tail _ (List.Mem.head _)), (List.forall_mem_cons.mpr ⟨(List.Mem.tail _ (List.Mem.tail _ (List.Mem.tail _ (List.Mem.head _)))), (List.forall_mem_cons.mpr ⟨(List.Mem.tail _ (List.Mem.tail _ (List.Mem.tail _ (List.Mem.tail _ (List.Mem.head _))))), (List.forall_mem_cons.mpr ⟨(List.Mem.tail _ (List.Mem.tail _ (List.Mem.tail _ (List.Mem.tail _ (List.Mem.tail _ (List.Mem.head _)))))), (List.forall_mem_cons.mpr ⟨(List.Mem.tail _ (List.Mem.tail _ (List.Mem.tail _ (List.Mem.tail _ (List.Mem.tail _ (List.Mem.tail _ (List.Mem.head _))))))), (List.forall_mem_cons.mpr ⟨(List.Mem.tail _ (List.Mem.tail _ (List.Mem.tail _ (List.Mem.tail _ (List.Mem.tail _ (List.Mem.tail _ (List.Mem.tail _ (List.Mem.head _)))))))), (fun _ h => absurd h List.not_mem_nil)⟩)⟩)⟩)⟩)⟩)⟩)⟩) ?_
                              have efig107_7424 : (ig107 7424).toInt = (i95 7424).toInt := kg107.ti 7424 rfl
                              exact ih87 _ _ _ _ _ _ _ hGg107 (toh18 p87_0 s110 ktoh1) (toh41 c92 s110 s7 ktoh1) (toh42 c94 efi95_7424 efig107_7424 ktoh0) (toh89 efi87_7424 efi95_7424 efig107_7424 efig81_7424) (gDr_pu (m := (dRm (x2 / 100) 100).toInt.toNat) (dk := dRm x2 100) O87_1 zD100 (toh10 p87_0) (toh21 s110 ktoh1) (toh83 z80.1) (gT_pu tG101)).2.1 (gDr_pu (m := (dRm (x2 / 100) 100).toInt.toNat) (dk := dRm x2 100) O87_1 zD100 (toh10 p87_0) (toh21 s110 ktoh1) (toh83 z80.1) (gT_pu tG101)).1 (gT_c tG108 (gDr_pu (m := (dRm (x2 / 100) 100).toInt.toNat) (dk := dRm x2 100) O87_1 zD100 (toh10 p87_0) (toh21 s110 ktoh1) (toh83 z80.1) (gT_pu tG101)).2.2) (by first | rfl | (simp only [q109, O95_2, sMn, sMx]; done) | (simp only [q109, O95_2, sMn, sMx]; rfl)) (by first | rfl | (simp only [kg107.fa 139 rfl, O95_2, sMn, sMx]; done) | (simp only [kg107.fa 139 rfl, O95_2, sMn, sMx]; rfl)) (kj_meas (toh44 s110 ktoh1) (toh45 c92 s7) hm87)
                          ·
                            have c111 : l7_95.toInt < ((x2 / 100) - (x2 / 100) / 100 * 100).toInt := kd_leF c; clear c
                            have b112 : ((-2147483648 : Int) ≤ l4_95.toInt) ∧ (l4_95.toInt ≤ 2147483647) := kd_bd l4_95
                            have b113 : ((-2147483648 : Int) ≤ (l4_95 * 1103515245).toInt) ∧ ((l4_95 * 1103515245).toInt ≤ 2147483647) := kd_bd (l4_95 * 1103515245)
                            have s114 : (0 : Int) ≤ ((((l4_95 * 1103515245) + 12345).toUInt32 >>> ((16 : Int32).toUInt32 &&& Int32.toUInt32 31)).toInt32).toInt := kd_ushr 16 (by decide) (by decide) (by decide)
                            have s115 : (((((l4_95 * 1103515245) + 12345).toUInt32 >>> ((16 : Int32).toUInt32 &&& Int32.toUInt32 31)).toInt32) - ((((l4_95 * 1103515245) + 12345).toUInt32 >>> ((16 : Int32).toUInt32 &&& Int32.toUInt32 31)).toInt32) / 12 * 12).toInt = (((((l4_95 * 1103515245) + 12345).toUInt32 >>> ((16 : Int32).toUInt32 &&& Int32.toUInt32 31)).toInt32).toInt % 12) := kd_rem 12 ktoh12 (by decide) (toh10 s114)
                            first | refine ft_goL mi_k201 14 127 [(4, .int ((l4_95 * 1103515245) + 12345)), (7, .int l7_95), (6, .int l6_87), (5, .int l5_87), (0, .ref 116), (1, .int x1), (2, .int x2), (3, .int x3)] [.int (x2 - x2 / 100 * 100), .int (((((l4_95 * 1103515245) + 12345).toUInt32 >>> ((16 : Int32).toUInt32 &&& Int32.toUInt32 31)).toInt32) - ((((l4_95 * 1103515245) + 12345).toUInt32 >>> ((16 : Int32).toUInt32 &&& Int32.toUInt32 31)).toInt32) / 12 * 12)] (by rfl) ?_ | refine ft_go mi_k201 14 127 [(4, .int ((l4_95 * 1103515245) + 12345)), (7, .int l7_95), (6, .int l6_87), (5, .int l5_87), (0, .ref 116), (1, .int x1), (2, .int x2), (3, .int x3)] [.int (x2 - x2 / 100 * 100), .int (((((l4_95 * 1103515245) + 12345).toUInt32 >>> ((16 : Int32).toUInt32 &&& Int32.toUInt32 31)).toInt32) - ((((l4_95 * 1103515245) + 12345).toUInt32 >>> ((16 : Int32).toUInt32 &&& Int32.toUInt32 31)).toInt32) / 12 * 12)] i95 a95 q95 r95 (by rfl) ?_
                            refine ft_ifS mi_k201 (decide ((x2 - x2 / 100 * 100) ≤ (((((l4_95 * 1103515245) + 12345).toUInt32 >>> ((16 : Int32).toUInt32 &&& Int32.toUInt32 31)).toInt32) - ((((l4_95 * 1103515245) + 12345).toUInt32 >>> ((16 : Int32).toUInt32 &&& Int32.toUInt32 31)).toInt32) / 12 * 12))) 134 130 [] (by rfl) (fun c => ?_) (fun c => ?_)
                            ·
                              have c116 : (x2 - x2 / 100 * 100).toInt ≤ (((((l4_95 * 1103515245) + 12345).toUInt32 >>> ((16 : Int32).toUInt32 &&& Int32.toUInt32 31)).toInt32) - ((((l4_95 * 1103515245) + 12345).toUInt32 >>> ((16 : Int32).toUInt32 &&& Int32.toUInt32 31)).toInt32) / 12 * 12).toInt := kd_le c; clear c
                              have s117 : (0 : Int) ≤ ((((l4_95 * 1103515245) + 12345).toUInt32 >>> ((8 : Int32).toUInt32 &&& Int32.toUInt32 31)).toInt32).toInt := kd_ushr 8 (by decide) (by decide) (by decide)
                              first | refine ft_goS mi_k201 6 144 [.int (i95 7424), .int ((((l4_95 * 1103515245) + 12345).toUInt32 >>> ((8 : Int32).toUInt32 &&& Int32.toUInt32 31)).toInt32), .ref 116] (by rfl) ?_ | refine ft_go mi_k201 6 144 [(4, .int ((l4_95 * 1103515245) + 12345)), (7, .int l7_95), (6, .int l6_87), (5, .int l5_87), (0, .ref 116), (1, .int x1), (2, .int x2), (3, .int x3)] [.int (i95 7424), .int ((((l4_95 * 1103515245) + 12345).toUInt32 >>> ((8 : Int32).toUInt32 &&& Int32.toUInt32 31)).toInt32), .ref 116] i95 a95 q95 r95 (by rfl) ?_
                              have s118 : ((0 : Int) ≤ (((((l4_95 * 1103515245) + 12345).toUInt32 >>> ((8 : Int32).toUInt32 &&& Int32.toUInt32 31)).toInt32) - ((((l4_95 * 1103515245) + 12345).toUInt32 >>> ((8 : Int32).toUInt32 &&& Int32.toUInt32 31)).toInt32) / (i95 7424) * (i95 7424)).toInt) ∧ ((((((l4_95 * 1103515245) + 12345).toUInt32 >>> ((8 : Int32).toUInt32 &&& Int32.toUInt32 31)).toInt32) - ((((l4_95 * 1103515245) + 12345).toUInt32 >>> ((8 : Int32).toUInt32 &&& Int32.toUInt32 31)).toInt32) / (i95 7424) * (i95 7424)).toInt < (i95 7424).toInt) := kd_remv (toh47 c94 efi95_7424 ktoh0) (toh10 s117)
                              refine ko_irem mi_k201.1 (ax := (0, 0, 0, 0, 0)) (mi_k201.2 _ _ (by rfl)) (toh46 c94 efi95_7424 ktoh0) ?_
                              have hG119 := kG_call hL87 hL95 (by decide +kernel)
                              have hG120 := kG_call hGg81 hG119 (by decide +kernel)
                              refine ko_callI mi_k201.1 (pc := 145) (ls := [(4, .int ((l4_95 * 1103515245) + 12345)), (7, .int l7_95), (6, .int l6_87), (5, .int l5_87), (0, .ref 116), (1, .int x1), (2, .int x2), (3, .int x3)]) (st := [.int (((((l4_95 * 1103515245) + 12345).toUInt32 >>> ((8 : Int32).toUInt32 &&& Int32.toUInt32 31)).toInt32) - ((((l4_95 * 1103515245) + 12345).toUInt32 >>> ((8 : Int32).toUInt32 &&& Int32.toUInt32 31)).toInt32) / (i95 7424) * (i95 7424)), .ref 116]) (h := ks i95 a95 q95 r95) (i := (.invokevirtual 260, 3, 166, 0, 9, 0, 415)) (mi_k201.2 _ _ (by rfl)) (ft_invS mi_pq166 (by rfl)) (cy := mi_c166) mi_pq166 rfl (kg166_116 hL95.I hL95.R (((((l4_95 * 1103515245) + 12345).toUInt32 >>> ((8 : Int32).toUInt32 &&& Int32.toUInt32 31)).toInt32) - ((((l4_95 * 1103515245) + 12345).toUInt32 >>> ((8 : Int32).toUInt32 &&& Int32.toUInt32 31)).toInt32) / (i95 7424) * (i95 7424)) (toh48 fi95_7424.2 s118.1 s118.2) (kCode_of (i1 := i95) hE_code (hG120.fi 7432 rfl) (hG120.fa 120 rfl) (hG120.fa 121 rfl) (hG120.fa 122 rfl) (hG120.fa 123 rfl))) (by decide) ?_
                              intro vg121 ig121 ag121 qg121 rg121 kg121 hg121
                              have hGg121 := kG_call hL95 kg121 (by decide +kernel)
                              obtain ⟨hg121, og121⟩ := hg121
                              have oG122 := og121
                              have hG123 := kG_call hL87 hL95 (by decide +kernel)
                              have hG124 := kG_call hGg81 hG123 (by decide +kernel)
                              rw [(gKn_fr hG124 (by decide +kernel) : gKn i95 a95 = gKn i a), (O95_1 : gT i95 a95 = (gDm (gKn i a) (i 7424) (dRm x2 100) (gDr (gKn i a) (i 7424) (dRm x2 100) (dRm (x2 / 100) 100).toInt.toNat x3 (a 118) x1 (gR i a) l6_87.toInt.toNat).2 l7_95.toInt.toNat).2)] at oG122
                              have tG125 : gT ig121 ag121 = gIn (gKn i a) (((((l4_95 * 1103515245) + 12345).toUInt32 >>> ((8 : Int32).toUInt32 &&& Int32.toUInt32 31)).toInt32) - ((((l4_95 * 1103515245) + 12345).toUInt32 >>> ((8 : Int32).toUInt32 &&& Int32.toUInt32 31)).toInt32) / (i95 7424) * (i95 7424)) ((gDm (gKn i a) (i 7424) (dRm x2 100) (gDr (gKn i a) (i 7424) (dRm x2 100) (dRm (x2 / 100) 100).toInt.toNat x3 (a 118) x1 (gR i a) l6_87.toInt.toNat).2 l7_95.toInt.toNat).2) := oG122
                              have s126 : (l7_95 + 1).toInt = l7_95.toInt + (1 : Int32).toInt := kd_add (toh16 p95_0 ktoh1) (toh49 c111 s11 ktoh1)
                              first | refine fo_goL mi_k201 fz201_85_3_91 [(7, .int (l7_95 + 1)), (4, .int ((l4_95 * 1103515245) + 12345)), (6, .int l6_87), (5, .int l5_87), (0, .ref 116), (1, .int x1), (2, .int x2), (3, .int x3)] [] (by rfl) ?_ | refine fo_goL mi_k201 fz201_148_3_91 [(7, .int (l7_95 + 1)), (4, .int ((l4_95 * 1103515245) + 12345)), (6, .int l6_87), (5, .int l5_87), (0, .ref 116), (1, .int x1), (2, .int x2), (3, .int x3)] [] (by rfl) ?_ | refine ft_go mi_k201 3 91 [(7, .int (l7_95 + 1)), (4, .int ((l4_95 * 1103515245) + 12345)), (6, .int l6_87), (5, .int l5_87), (0, .ref 116), (1, .int x1), (2, .int x2), (3, .int x3)] [] ig121 ag121 qg121 rg121 (by rfl) ?_
                              refine ko_perm [(7, .int (l7_95 + 1)), (6, .int l6_87), (5, .int l5_87), (4, .int ((l4_95 * 1103515245) + 12345)), (0, .ref 116), (1, .int x1), (2, .int x2), (3, .int x3)] (List.forall_mem_cons.mpr ⟨(List.Mem.head _), (List.forall_mem_cons.mpr ⟨(List.Mem.tail _ (List.Mem.tail _ (List.Mem.head _))), (List.forall_mem_cons.mpr ⟨(List.Mem.tail _ (List.Mem.tail _ (List.Mem.tail _ (List.Mem.head _)))), (List.forall_mem_cons.mpr ⟨(List.Mem.tail _ (List.Mem.head _)), (List.forall_mem_cons.mpr ⟨(List.Mem.tail _ (List.Mem.tail _ (List.Mem.tail _ (List.Mem.tail _ (List.Mem.head _))))), (List.forall_mem_cons.mpr ⟨(List.Mem.tail _ (List.Mem.tail _ (List.Mem.tail _ (List.Mem.tail _ (List.Mem.tail _ (List.Mem.head _)))))), (List.forall_mem_cons.mpr ⟨(List.Mem.tail _ (List.Mem.tail _ (List.Mem.tail _ (List.Mem.tail _ (List.Mem.tail _ (List.Mem.tail _ (List.Mem.head _))))))), (List.forall_mem_cons.mpr ⟨(List.Mem.tail _ (List.Mem.tail _ (List.Mem.tail _ (List.Mem.tail _ (List.Mem.tail _ (List.Mem.tail _ (List.Mem.tail _ (List.Mem.head _)))))))), (fun _ h => absurd h List.not_mem_nil)⟩)⟩)⟩)⟩)⟩)⟩)⟩)⟩) ?_
                              have efig121_7424 : (ig121 7424).toInt = (i95 7424).toInt := kg121.ti 7424 rfl
                              exact ih95 _ _ _ _ _ _ hGg121 (toh18 p95_0 s126 ktoh1) (toh50 c111 s126 ktoh1) (toh89 efi87_7424 efi95_7424 efig121_7424 efig81_7424) (congrArg Prod.fst (gD_no (n1 := (i95 7424)) ((((hL95.fi 7424 rfl).trans (hL87.fi 7424 rfl)).trans (kg81.fi 7424 rfl)) : (i95 7424) = i 7424) O95_0 (toh10 p95_0) (toh21 s126 ktoh1) (toh51 c116))).symm (gT_c tG125 (congrArg Prod.snd (gD_no (n1 := (i95 7424)) ((((hL95.fi 7424 rfl).trans (hL87.fi 7424 rfl)).trans (kg81.fi 7424 rfl)) : (i95 7424) = i 7424) O95_0 (toh10 p95_0) (toh21 s126 ktoh1) (toh51 c116)))) (by first | rfl | (simp only [kg121.fa 139 rfl, O95_2, sMn, sMx]; done) | (simp only [kg121.fa 139 rfl, O95_2, sMn, sMx]; rfl)) (kj_meas (toh52 s126 ktoh1) (toh53 c111 s11) hm95)
                            ·
                              have c127 : (((((l4_95 * 1103515245) + 12345).toUInt32 >>> ((16 : Int32).toUInt32 &&& Int32.toUInt32 31)).toInt32) - ((((l4_95 * 1103515245) + 12345).toUInt32 >>> ((16 : Int32).toUInt32 &&& Int32.toUInt32 31)).toInt32) / 12 * 12).toInt < (x2 - x2 / 100 * 100).toInt := kd_leF c; clear c
                              first | refine ft_goS mi_k201 1 131 [.ref 116] (by rfl) ?_ | refine ft_go mi_k201 1 131 [(4, .int ((l4_95 * 1103515245) + 12345)), (7, .int l7_95), (6, .int l6_87), (5, .int l5_87), (0, .ref 116), (1, .int x1), (2, .int x2), (3, .int x3)] [.ref 116] i95 a95 q95 r95 (by rfl) ?_
                              refine ko_callN mi_k201.1 (pc := 131) (ls := [(4, .int ((l4_95 * 1103515245) + 12345)), (7, .int l7_95), (6, .int l6_87), (5, .int l5_87), (0, .ref 116), (1, .int x1), (2, .int x2), (3, .int x3)]) (st := [.ref 116]) (h := ks i95 a95 q95 r95) (i := (.invokevirtual 282, 3, 167, 0, 9, 0, 426)) (mi_k201.2 _ _ (by rfl)) (ft_invS mi_pq167 (by rfl)) (cy := mi_c167) mi_pq167 rfl (ke167_116 hL95.I hL95.R ) (by decide) ?_
                              intro ig128 ag128 qg128 rg128 kg128 hg128
                              have hGg128 := kG_call hL95 kg128 (by decide +kernel)
                              obtain ⟨hg128, og128⟩ := hg128
                              have tG129 : gT ig128 ag128 = gEve ((gDm (gKn i a) (i 7424) (dRm x2 100) (gDr (gKn i a) (i 7424) (dRm x2 100) (dRm (x2 / 100) 100).toInt.toNat x3 (a 118) x1 (gR i a) l6_87.toInt.toNat).2 l7_95.toInt.toNat).2) := (gT_eve O95_1 og128 (kg128.fi 7464 rfl) (kg128.fi 7465 rfl) (kg128.fi 7466 rfl) (kg128.fi 7467 rfl) (kg128.fa 141 rfl))
                              have q130 : ag128 118 = sEnds (a95 118) := og128
                              have s131 : (0 : Int) ≤ ((((l4_95 * 1103515245) + 12345).toUInt32 >>> ((8 : Int32).toUInt32 &&& Int32.toUInt32 31)).toInt32).toInt := kd_ushr 8 (by decide) (by decide) (by decide)
                              have fig128_7424 : ((0 : Int) ≤ (ig128 7424).toInt) ∧ ((ig128 7424).toInt ≤ 8) := hGg128.I.1 7424
                              have efig128_7424 : (ig128 7424).toInt = (i95 7424).toInt := kg128.ti 7424 rfl
                              first | refine ft_goS mi_k201 6 144 [.int (ig128 7424), .int ((((l4_95 * 1103515245) + 12345).toUInt32 >>> ((8 : Int32).toUInt32 &&& Int32.toUInt32 31)).toInt32), .ref 116] (by rfl) ?_ | refine ft_go mi_k201 6 144 [(4, .int ((l4_95 * 1103515245) + 12345)), (7, .int l7_95), (6, .int l6_87), (5, .int l5_87), (0, .ref 116), (1, .int x1), (2, .int x2), (3, .int x3)] [.int (ig128 7424), .int ((((l4_95 * 1103515245) + 12345).toUInt32 >>> ((8 : Int32).toUInt32 &&& Int32.toUInt32 31)).toInt32), .ref 116] ig128 ag128 qg128 rg128 (by rfl) ?_
                              have s132 : ((0 : Int) ≤ (((((l4_95 * 1103515245) + 12345).toUInt32 >>> ((8 : Int32).toUInt32 &&& Int32.toUInt32 31)).toInt32) - ((((l4_95 * 1103515245) + 12345).toUInt32 >>> ((8 : Int32).toUInt32 &&& Int32.toUInt32 31)).toInt32) / (ig128 7424) * (ig128 7424)).toInt) ∧ ((((((l4_95 * 1103515245) + 12345).toUInt32 >>> ((8 : Int32).toUInt32 &&& Int32.toUInt32 31)).toInt32) - ((((l4_95 * 1103515245) + 12345).toUInt32 >>> ((8 : Int32).toUInt32 &&& Int32.toUInt32 31)).toInt32) / (ig128 7424) * (ig128 7424)).toInt < (ig128 7424).toInt) := kd_remv (toh71 c94 efi95_7424 efig128_7424 ktoh0) (toh10 s131)
                              refine ko_irem mi_k201.1 (ax := (0, 0, 0, 0, 0)) (mi_k201.2 _ _ (by rfl)) (toh70 c94 efi95_7424 efig128_7424 ktoh0) ?_
                              have hG133 := kG_call hL87 hGg128 (by decide +kernel)
                              have hG134 := kG_call hGg81 hG133 (by decide +kernel)
                              refine ko_callI mi_k201.1 (pc := 145) (ls := [(4, .int ((l4_95 * 1103515245) + 12345)), (7, .int l7_95), (6, .int l6_87), (5, .int l5_87), (0, .ref 116), (1, .int x1), (2, .int x2), (3, .int x3)]) (st := [.int (((((l4_95 * 1103515245) + 12345).toUInt32 >>> ((8 : Int32).toUInt32 &&& Int32.toUInt32 31)).toInt32) - ((((l4_95 * 1103515245) + 12345).toUInt32 >>> ((8 : Int32).toUInt32 &&& Int32.toUInt32 31)).toInt32) / (ig128 7424) * (ig128 7424)), .ref 116]) (h := ks ig128 ag128 qg128 rg128) (i := (.invokevirtual 260, 3, 166, 0, 9, 0, 415)) (mi_k201.2 _ _ (by rfl)) (ft_invS mi_pq166 (by rfl)) (cy := mi_c166) mi_pq166 rfl (kg166_116 hGg128.I hGg128.R (((((l4_95 * 1103515245) + 12345).toUInt32 >>> ((8 : Int32).toUInt32 &&& Int32.toUInt32 31)).toInt32) - ((((l4_95 * 1103515245) + 12345).toUInt32 >>> ((8 : Int32).toUInt32 &&& Int32.toUInt32 31)).toInt32) / (ig128 7424) * (ig128 7424)) (toh48 fig128_7424.2 s132.1 s132.2) (kCode_of (i1 := ig128) hE_code (hG134.fi 7432 rfl) (hG134.fa 120 rfl) (hG134.fa 121 rfl) (hG134.fa 122 rfl) (hG134.fa 123 rfl))) (by decide) ?_
                              intro vg135 ig135 ag135 qg135 rg135 kg135 hg135
                              have hGg135 := kG_call hGg128 kg135 (by decide +kernel)
                              obtain ⟨hg135, og135⟩ := hg135
                              have oG136 := og135
                              have hG137 := kG_call hL87 hGg128 (by decide +kernel)
                              have hG138 := kG_call hGg81 hG137 (by decide +kernel)
                              rw [(gKn_fr hG138 (by decide +kernel) : gKn ig128 ag128 = gKn i a), (tG129 : gT ig128 ag128 = gEve ((gDm (gKn i a) (i 7424) (dRm x2 100) (gDr (gKn i a) (i 7424) (dRm x2 100) (dRm (x2 / 100) 100).toInt.toNat x3 (a 118) x1 (gR i a) l6_87.toInt.toNat).2 l7_95.toInt.toNat).2))] at oG136
                              have tG139 : gT ig135 ag135 = gIn (gKn i a) (((((l4_95 * 1103515245) + 12345).toUInt32 >>> ((8 : Int32).toUInt32 &&& Int32.toUInt32 31)).toInt32) - ((((l4_95 * 1103515245) + 12345).toUInt32 >>> ((8 : Int32).toUInt32 &&& Int32.toUInt32 31)).toInt32) / (ig128 7424) * (ig128 7424)) (gEve ((gDm (gKn i a) (i 7424) (dRm x2 100) (gDr (gKn i a) (i 7424) (dRm x2 100) (dRm (x2 / 100) 100).toInt.toNat x3 (a 118) x1 (gR i a) l6_87.toInt.toNat).2 l7_95.toInt.toNat).2)) := oG136
                              have s140 : (l7_95 + 1).toInt = l7_95.toInt + (1 : Int32).toInt := kd_add (toh16 p95_0 ktoh1) (toh49 c111 s11 ktoh1)
                              first | refine fo_goL mi_k201 fz201_85_3_91 [(7, .int (l7_95 + 1)), (4, .int ((l4_95 * 1103515245) + 12345)), (6, .int l6_87), (5, .int l5_87), (0, .ref 116), (1, .int x1), (2, .int x2), (3, .int x3)] [] (by rfl) ?_ | refine fo_goL mi_k201 fz201_148_3_91 [(7, .int (l7_95 + 1)), (4, .int ((l4_95 * 1103515245) + 12345)), (6, .int l6_87), (5, .int l5_87), (0, .ref 116), (1, .int x1), (2, .int x2), (3, .int x3)] [] (by rfl) ?_ | refine ft_go mi_k201 3 91 [(7, .int (l7_95 + 1)), (4, .int ((l4_95 * 1103515245) + 12345)), (6, .int l6_87), (5, .int l5_87), (0, .ref 116), (1, .int x1), (2, .int x2), (3, .int x3)] [] ig135 ag135 qg135 rg135 (by rfl) ?_
                              refine ko_perm [(7, .int (l7_95 + 1)), (6, .int l6_87), (5, .int l5_87), (4, .int ((l4_95 * 1103515245) + 12345)), (0, .ref 116), (1, .int x1), (2, .int x2), (3, .int x3)] (List.forall_mem_cons.mpr ⟨(List.Mem.head _), (List.forall_mem_cons.mpr ⟨(List.Mem.tail _ (List.Mem.tail _ (List.Mem.head _))), (List.forall_mem_cons.mpr ⟨(List.Mem.tail _ (List.Mem.tail _ (List.Mem.tail _ (List.Mem.head _)))), (List.forall_mem_cons.mpr ⟨(List.Mem.tail _ (List.Mem.head _)), (List.forall_mem_cons.mpr ⟨(List.Mem.tail _ (List.Mem.tail _ (List.Mem.tail _ (List.Mem.tail _ (List.Mem.head _))))), (List.forall_mem_cons.mpr ⟨(List.Mem.tail _ (List.Mem.tail _ (List.Mem.tail _ (List.Mem.tail _ (List.Mem.tail _ (List.Mem.head _)))))), (List.forall_mem_cons.mpr ⟨(List.Mem.tail _ (List.Mem.tail _ (List.Mem.tail _ (List.Mem.tail _ (List.Mem.tail _ (List.Mem.tail _ (List.Mem.head _))))))), (List.forall_mem_cons.mpr ⟨(List.Mem.tail _ (List.Mem.tail _ (List.Mem.tail _ (List.Mem.tail _ (List.Mem.tail _ (List.Mem.tail _ (List.Mem.tail _ (List.Mem.head _)))))))), (fun _ h => absurd h List.not_mem_nil)⟩)⟩)⟩)⟩)⟩)⟩)⟩)⟩) ?_
                              have efig135_7424 : (ig135 7424).toInt = (ig128 7424).toInt := kg135.ti 7424 rfl
                              exact ih95 _ _ _ _ _ _ hGg135 (toh18 p95_0 s140 ktoh1) (toh50 c111 s140 ktoh1) (toh90 efi87_7424 efi95_7424 efig128_7424 efig135_7424 efig81_7424) (congrArg Prod.fst (gD_yes (n1 := (ig128 7424)) (((((kg128.fi 7424 rfl).trans (hL95.fi 7424 rfl)).trans (hL87.fi 7424 rfl)).trans (kg81.fi 7424 rfl)) : (ig128 7424) = i 7424) O95_0 (toh10 p95_0) (toh21 s140 ktoh1) (toh73 c127))).symm (gT_c tG139 (congrArg Prod.snd (gD_yes (n1 := (ig128 7424)) (((((kg128.fi 7424 rfl).trans (hL95.fi 7424 rfl)).trans (hL87.fi 7424 rfl)).trans (kg81.fi 7424 rfl)) : (ig128 7424) = i 7424) O95_0 (toh10 p95_0) (toh21 s140 ktoh1) (toh73 c127)))) (by first | rfl | (simp only [kg135.fa 139 rfl, kg128.fa 139 rfl, O95_2, sMn, sMx]; done) | (simp only [kg135.fa 139 rfl, kg128.fa 139 rfl, O95_2, sMn, sMx]; rfl)) (kj_meas (toh52 s140 ktoh1) (toh53 c111 s11) hm95)
                      exact lp95 _ _ _ _ _ _ _ (kG_self _ hL87.I hL87.R) (toh24 ktoh0) (toh74 z13.1 ktoh1 ktoh0) (toh75 efi87_7424 efig81_7424) (O87_0.trans (congrArg Prod.fst (gDm_0 ktoh0)).symm) (gT_c O87_2 (congrArg Prod.snd (gDm_0 ktoh0))) (by first | rfl | (simp only [O87_4, sMn, sMx]; done) | (simp only [O87_4, sMn, sMx]; rfl)) (Nat.lt_succ_self _)
              have efig81_7424 : (ig81 7424).toInt = (i 7424).toInt := kg81.ti 7424 rfl
              exact lp87 _ _ _ _ _ _ _ _ (kG_self _ hGg81.I hGg81.R) (toh24 ktoh0) (toh76 s7 z9.1 ktoh1 ktoh0) (toh77 ktoh0) (toh78 efig81_7424) (congrArg (fun z => z.2.1) (gDr_0 ktoh0)).symm (congrArg Prod.fst (gDr_0 ktoh0)).symm (gT_c tG82 (congrArg (fun z => z.2.2) (gDr_0 ktoh0))) (by first | rfl | (simp only [q84, sMn, sMx]; done) | (simp only [q84, sMn, sMx]; rfl)) (by first | rfl | (simp only [q83, sMn, sMx]; done) | (simp only [q83, sMn, sMx]; rfl)) (Nat.lt_succ_self _)
            ·
              subst eg79
              have z141 : ¬ (((0 : Int) ≤ x3.toInt) ∧ (x3.toInt < (i 7424).toInt)) := hg79
              first | refine fo_goS mi_k201 fz201_1_2_57 [.int (-1)] (by rfl) ?_ | refine fo_goS mi_k201 fz201_15_2_57 [.int (-1)] (by rfl) ?_ | refine fo_goS mi_k201 fz201_31_2_57 [.int (-1)] (by rfl) ?_ | refine fo_goS mi_k201 fz201_53_2_57 [.int (-1)] (by rfl) ?_ | refine ft_goS mi_k201 2 57 [.int (-1)] (by rfl) ?_ | refine ft_go mi_k201 2 57 [(0, .ref 116), (1, .int x1), (2, .int x2), (3, .int x3)] [.int (-1)] i a q r (by rfl) ?_
              exact ft_ret mi_k201 (by rfl) (hP (-1) _ _ _ _ hG ⟨trivial, ⟨(show a 118 = a 118 from rfl), (Or.inl ⟨(toh91 c78 z141 ktohm1), rfl⟩)⟩⟩)
      ·
        subst eg12
        have z142 : ¬ (((1 : Int32).toInt ≤ ((x2 / 100) - (x2 / 100) / 100 * 100).toInt) ∧ (((x2 / 100) - (x2 / 100) / 100 * 100).toInt ≤ (60 : Int32).toInt)) := hg12
        first | refine fo_goS mi_k201 fz201_1_2_57 [.int (-1)] (by rfl) ?_ | refine fo_goS mi_k201 fz201_15_2_57 [.int (-1)] (by rfl) ?_ | refine fo_goS mi_k201 fz201_31_2_57 [.int (-1)] (by rfl) ?_ | refine fo_goS mi_k201 fz201_53_2_57 [.int (-1)] (by rfl) ?_ | refine ft_goS mi_k201 2 57 [.int (-1)] (by rfl) ?_ | refine ft_go mi_k201 2 57 [(0, .ref 116), (1, .int x1), (2, .int x2), (3, .int x3)] [.int (-1)] i a q r (by rfl) ?_
        have s143 : (x2 - x2 / 100 * 100).toInt = (x2.toInt % 100) := kd_rem 100 ktoh100 (by decide) (toh1 c6 ktoh0)
        exact ft_ret mi_k201 (by rfl) (hP (-1) _ _ _ _ hG ⟨trivial, ⟨(show a 118 = a 118 from rfl), (Or.inl ⟨(toh92 z142 ktoh1 ktoh60), rfl⟩)⟩⟩)
    ·
      subst eg8
      have z144 : ¬ (((1 : Int32).toInt ≤ (x2 / 10000).toInt) ∧ ((x2 / 10000).toInt ≤ (30 : Int32).toInt)) := hg8
      first | refine fo_goS mi_k201 fz201_1_2_57 [.int (-1)] (by rfl) ?_ | refine fo_goS mi_k201 fz201_15_2_57 [.int (-1)] (by rfl) ?_ | refine fo_goS mi_k201 fz201_31_2_57 [.int (-1)] (by rfl) ?_ | refine fo_goS mi_k201 fz201_53_2_57 [.int (-1)] (by rfl) ?_ | refine ft_goS mi_k201 2 57 [.int (-1)] (by rfl) ?_ | refine ft_go mi_k201 2 57 [(0, .ref 116), (1, .int x1), (2, .int x2), (3, .int x3)] [.int (-1)] i a q r (by rfl) ?_
      have s145 : (x2 / 100).toInt = (x2.toInt / 100) := kd_div 100 ktoh100 (by decide) (toh1 c6 ktoh0)
      have s146 : ((x2 / 100) - (x2 / 100) / 100 * 100).toInt = ((x2 / 100).toInt % 100) := kd_rem 100 ktoh100 (by decide) (toh5 c6 s145 ktoh0)
      have s147 : (x2 - x2 / 100 * 100).toInt = (x2.toInt % 100) := kd_rem 100 ktoh100 (by decide) (toh1 c6 ktoh0)
      exact ft_ret mi_k201 (by rfl) (hP (-1) _ _ _ _ hG ⟨trivial, ⟨(show a 118 = a 118 from rfl), (Or.inl ⟨(toh93 z144 ktoh1 ktoh30), rfl⟩)⟩⟩)
end
section
/-! what the contracts say, by names -/
end
section
/-! what the contracts say, by names -/
end
section
/-! what the contracts say, by names -/
def pt_ke101_0 (x1 : Int32) (x2 : Int32) (x3 : Int32) (v : Int32) (i : Nat → Int32) (a : Nat → List Int32) (q : Nat → List Int64) (r : Nat → Nat) (i1 : Nat → Int32) (a1 : Nat → List Int32) (q1 : Nat → List Int64) (r1 : Nat → Nat) : Prop := (True) ∧ cDw ((0 : Int) ≤ x2.toInt ∧ ((1 : Int) ≤ (x2 / 10000).toInt ∧ (x2 / 10000).toInt ≤ 30) ∧ ((1 : Int) ≤ (x2 / 100 - x2 / 100 / 100 * 100).toInt ∧ (x2 / 100 - x2 / 100 / 100 * 100).toInt ≤ 60) ∧ (x2 - x2 / 100 * 100).toInt ≤ 12 ∧ (x3.toInt = -1 ∨ ((0 : Int) ≤ x3.toInt ∧ x3.toInt < (i 64).toInt))) v (v = (gDc (gKn i a) (i 64) (dRm x2 100) (gM (i 64) (dRm (x2 / 100) 100)) x3 (gB i a) x1 (x2 / 10000).toInt.toNat).1)
def pt_kz201_116 (x1 : Int32) (x2 : Int32) (x3 : Int32) (v : Int32) (i : Nat → Int32) (a : Nat → List Int32) (q : Nat → List Int64) (r : Nat → Nat) (i1 : Nat → Int32) (a1 : Nat → List Int32) (q1 : Nat → List Int64) (r1 : Nat → Nat) : Prop := (True) ∧ (a1 118 = a 118 ∧ cDw ((0 : Int) ≤ x2.toInt ∧ ((1 : Int) ≤ (x2 / 10000).toInt ∧ (x2 / 10000).toInt ≤ 30) ∧ ((1 : Int) ≤ (x2 / 100 - x2 / 100 / 100 * 100).toInt ∧ (x2 / 100 - x2 / 100 / 100 * 100).toInt ≤ 60) ∧ (x2 - x2 / 100 * 100).toInt ≤ 12 ∧ (x3.toInt = -1 ∨ ((0 : Int) ≤ x3.toInt ∧ x3.toInt < (i 7424).toInt))) v (dV (i 7424) x3 v (gDr (gKn i a) (i 7424) (dRm x2 100) (dRm (x2 / 100) 100).toInt.toNat x3 (a 118) x1 (gR i a)) (x2 / 10000).toInt.toNat))
end
section
/-! ROWS IN THOUGHT: class and reference answer alike -/
section ST98
variable {i i1 i2 : Nat → Int32} {a a1 a2 : Nat → List Int32} {q q1 q2 : Nat → List Int64} {r r1 r2 : Nat → Nat} {u1 u2 x1 x2 x3 x4 : Int32}
end ST98
end
section
/-! ROWS IN THOUGHT: class and reference answer alike -/
section ST98
variable {i i1 i2 : Nat → Int32} {a a1 a2 : Nat → List Int32} {q q1 q2 : Nat → List Int64} {r r1 r2 : Nat → Nat} {u1 u2 x1 x2 x3 x4 : Int32}
end ST98
end
section
/-! DRAWN: class and reference answer alike -/
theorem st_drawn {i i1 i2 : Nat → Int32} {a a1 a2 : Nat → List Int32} {q q1 q2 : Nat → List Int64} {r r1 r2 : Nat → Nat} {u1 u2 x1 x2 x3 : Int32} (_ : kAll i a q r) (h : kMar i a r) (g1 : kG yw101_0 i a q r i1 a1 q1 r1) (P1 : pt_ke101_0 x1 x2 x3 u1 i a q r i1 a1 q1 r1) (P2 : pt_kz201_116 x1 x2 x3 u2 i1 a1 q1 r1 i2 a2 q2 r2) : u1 = u2 := by
  have P2 := P2.2.2
  have e := gKn_fr g1 (by decide +kernel)
  have e64 : i1 7424 = i 64 := (g1.fi 7424 rfl).trans h.1.symm
  rw [e, e64, (g1.fa 118 rfl : a1 118 = a 118)] at P2
  rcases P1.2 with ⟨n1, e1⟩ | ⟨o1, f1⟩
  · rcases P2 with ⟨n2, e2⟩ | ⟨o2, f2⟩
    · rw [e1, e2]
    · exact absurd o2 n1
  · rcases P2 with ⟨n2, e2⟩ | ⟨o2, f2⟩
    · exact absurd o1 n2
    · refine fD_same (B := gB i a) (R := gR i1 a1) (N := a 118) rfl (g1.fa 118 rfl) rfl rfl (fun hn => ?_) f1 f2
      rcases o1.2.2.2.2 with h | h
      · exact h
      · omega
end
