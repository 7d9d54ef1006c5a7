/-! A ROW IN THOUGHT, PURELY, AS THE REFERENCE HAS IT: THIRD, DOGS, told, the law, the ways; now, payer, paid, bought, lacking, flows -/
abbrev gK : Type := Int32 × Int32 × Int32 × (List Int32 → Int32) × List Int32
abbrev gS : Type := List Int32 × Int32 × Int32 × Int32 × Int32 × List Int32
def gBy (K : gK) (N N1 : List Int32) (c : Int32) : Int32 := kBuy K.2.2.1 K.2.2.2.1 (K.2.2.2.2.getD c.toNatClampNeg 0) (N.getD c.toNatClampNeg 0) (K.2.2.2.2.getD (8 + c).toNatClampNeg 0) (N1.getD (9 : Int32).toNatClampNeg 0) (N1.getD (10 + c).toNatClampNeg 0) (N1.getD (8 : Int32).toNatClampNeg 0)
def gCo (K : gK) (c : Int32) (N : List Int32) (P : kSt) : gS := (sCome c (gBy K N P.1 c) P.1, P.2.1, P.2.2.1, gBy K N P.1 c, P.2.2.2.1, P.2.2.2.2)
def gIn (K : gK) (c : Int32) (S : gS) : gS := if (K.2.2.2.2.getD (16 + c).toNatClampNeg 0).toInt = 1 ∧ K.2.1.toInt = 0 then (S.1, 8, 0, 0, S.2.2.2.2) else gCo K c S.1 (gPaid K.1 c S.1 S.2.2.2.2.1 S.2.2.2.2.2)
def gAt (K : gK) (L : List Int32) (S : gS) : Nat → gS
  | 0 => S
  | k + 1 => gIn K (L.getD k 0) (gAt K L S k)
/-- the k-th coming's payer, coins, what he buys: for all ahead of n -/
def gOp (K : gK) (L : List Int32) (S : gS) (n : Int) (A B C : List Int32) : Prop := ∀ j : Nat, (j : Int) < n → A.getD j 0 = (gAt K L S (j + 1)).2.1 ∧ B.getD j 0 = (gAt K L S (j + 1)).2.2.1 ∧ C.getD j 0 = (gAt K L S (j + 1)).2.2.2.1
section TP
variable {K : gK} {L L1 : List Int32} {S S1 : gS} {c : Int32}
theorem gAt_next {i1 : Nat → Int32} {T : gS} {x k k1 : Int32} (h : T = gIn K x (gAt K L S k.toInt.toNat)) (hx : x = L.getD k.toNatClampNeg 0) (h0 : 0 ≤ k.toInt) (h1 : k1.toInt = k.toInt + 1) (_ : i1 = i1) : T = gAt K L S k1.toInt.toNat := by
  rw [h, hx, show k1.toInt.toNat = k.toInt.toNat + 1 by omega]
  rfl
theorem gAt_k0 {k : Int32} (h : k.toInt = 0) : gAt K L S k.toInt.toNat = S := by
  rw [h]
  rfl
theorem gOp_0 {A B C : List Int32} {n : Int} (h : n = 0) : gOp K L S n A B C := fun j hj => by omega
theorem gOp_step {A B C A1 B1 C1 : List Int32} {k k1 p d b : Int32} {T : gS} {n : Nat} (h : gOp K L S k.toInt A B C) (lA : A.length = n) (lB : B.length = n) (lC : C.length = n) (h0 : 0 ≤ k.toInt) (hn : k.toInt < (n : Int)) (h1 : k1.toInt = k.toInt + 1) (hT : T = gAt K L S k1.toInt.toNat) (eA : A1 = A.set k.toNatClampNeg p) (eB : B1 = B.set k.toNatClampNeg d) (eC : C1 = C.set k.toNatClampNeg b) (ep : p = T.2.1) (ed : d = T.2.2.1) (eb : b = T.2.2.2.1) : gOp K L S k1.toInt A1 B1 C1 := by
  have tk := Int32.toNat_toInt k
  subst eA
  subst eB
  subst eC
  intro j hj
  rw [kset_gI (by omega), kset_gI (by omega), kset_gI (by omega)]
  by_cases e : j = k.toNatClampNeg
  · rw [if_pos e, if_pos e, if_pos e, ep, ed, eb, hT, show k1.toInt.toNat = j + 1 by omega]
    exact ⟨rfl, rfl, rfl⟩
  · rw [if_neg e, if_neg e, if_neg e]
    exact h j (by omega)
end TP
/-! CLASS AND REFERENCE: what both know now; the class's market in thought beside what the reference has -/
def kNoW (i : Nat → Int32) (a : Nat → List Int32) (r : Nat → Nat) : Prop := i 64 = i 7424 ∧ kMk i a ∧ kNr i a ∧ kLaw i a r
def gKn (i : Nat → Int32) (a : Nat → List Int32) : gK := (i 7426, i 7427, i 7431, wl i a, a 117)
def gN (S : gS) : kSt := (S.1, S.2.1, S.2.2.1, S.2.2.2.2.1, S.2.2.2.2.2)
def kThC (i : Nat → Int32) (a : Nat → List Int32) (r : Nat → Nat) : Prop := i 3200 = i 64 ∧ i 3206 = i 70 ∧ i 3207 = i 71 ∧ a 52 = a 3 ∧ a 53 = a 4 ∧ a 54 = a 5 ∧ r 1 = r 0
/-! nobody pays himself -/
def kDg (T : kCt) : Prop := ∀ u : Nat, u < 8 → (T.2.2.2.2.2.2.2 u).getD u 0 = 0
def mFd (T : kCt) (S : kSt) : Prop := mF T S ∧ kDg T
theorem getD_set_ne {l : List Int32} {j m : Nat} {x : Int32} (h : m ≠ j) : (l.set j x).getD m 0 = l.getD m 0 := by
  rw [List.getD_eq_getElem?_getD, List.getD_eq_getElem?_getD, List.getElem?_set_ne (fun e => h e.symm)]
theorem cPay_dg {b c : Int32} {T : kCt} (h0 : 0 ≤ c.toInt) (h : kDg T) : kDg (cPay b c T) := by
  unfold cPay
  by_cases q : (T.2.1.getD 0 0).toInt ≠ c.toInt ∧ 0 ≤ (T.2.1.getD 0 0).toInt ∧ (T.2.1.getD 0 0).toInt < b.toInt
  · rw [if_pos q]
    intro u hu
    have tc := Int32.toNat_toInt c
    have tw := Int32.toNat_toInt (T.2.1.getD 0 0)
    show (bif Nat.beq u (T.2.1.getD 0 0).toNatClampNeg then (T.2.2.2.2.2.2.2 u).set c.toNatClampNeg ((T.2.2.2.2.2.2.2 u).getD c.toNatClampNeg 0 + cCoin T) else T.2.2.2.2.2.2.2 u).getD u 0 = 0
    cases e : Nat.beq u (T.2.1.getD 0 0).toNatClampNeg with
    | false => exact h u hu
    | true =>
      have e := Nat.eq_of_beq_eq_true e
      show ((T.2.2.2.2.2.2.2 u).set c.toNatClampNeg ((T.2.2.2.2.2.2.2 u).getD c.toNatClampNeg 0 + cCoin T)).getD u 0 = 0
      rw [getD_set_ne (by omega)]
      exact h u hu
  · rw [if_neg q]
    exact h
theorem cPaid_dg {b t3 c : Int32} (h0 : 0 ≤ c.toInt) : ∀ (n : Nat) {T : kCt}, kDg T → kDg (cPaid b t3 c n T)
  | 0, _, h => h
  | n + 1, T, h => by
    unfold cPaid
    by_cases q : t3.toInt ≤ T.1.toInt
    · rw [if_pos q]
      exact cPaid_dg h0 n (cPay_dg h0 h)
    · rw [if_neg q]
      exact h
def kThm (i : Nat → Int32) (a : Nat → List Int32) (r : Nat → Nat) (S : gS) : Prop := kThC i a r ∧ i 3216 = S.2.2.2.1 ∧ (∃ L0 : List Int32, mP (i 64) 0 L0 (a 55) (i 3208) (i 3209) (cT 50 i a) (gN S)) ∧ mFd (cT 50 i a) (gN S)
theorem kUn_sub {w : kW} {F A R F1 A1 R1 : List Nat} (h : kUn w F A R = true) (hF : ∀ k ∈ F1, k ∈ F) (hA : ∀ k ∈ A1, k ∈ A) (hR : ∀ k ∈ R1, k ∈ R) : kUn w F1 A1 R1 = true := by
  obtain ⟨f1, f2, f3⟩ := kUn_all h
  unfold kUn
  simp only [Bool.and_eq_true, List.all_eq_true, Bool.not_eq_true']
  exact ⟨fun k hk => f1 k (hF k hk), fun k hk => f2 k (hA k hk), fun k hk => f3 k (hR k hk)⟩
def nwF : List Nat := [64, 72, 73, 450, 7424, 70, 71, 7426, 7427, 7431, 7432, 640, 643, 6400, 6403]
def nwA : List Nat := [2, 3, 4, 5, 6, 8, 9, 117, 118, 120, 121, 122, 123, 11, 12, 101, 102]
section TH
variable {w : kW} {i i1 : Nat → Int32} {a a1 : Nat → List Int32} {q q1 : Nat → List Int64} {r r1 : Nat → Nat} {S : gS} {x1 v : Int32}
theorem kNoW_fr (g : kG w i a q r i1 a1 q1 r1) (f : kUn w nwF nwA [0] = true) (hr : kr r) (h : kNoW i a r) : kNoW i1 a1 r1 :=
  ⟨kCn_fr g (kUn_sub f (by decide) (by decide) (by decide)) h.1, kMk_fr g (kUn_sub f (by decide) (by decide) (by decide)) h.2.1, kNr_fr g (kUn_sub f (by decide) (by decide) (by decide)) h.2.2.1, kLaw_fr g (kUn_sub f (by decide) (by decide) (by decide)) hr h.2.2.2⟩
theorem kNoW_mar (h : kMar i a r) : kNoW i a r := ⟨h.1, h.2.1, h.2.2.1, h.2.2.2.2.2.2.1⟩
theorem gKn_fr (g : kG w i a q r i1 a1 q1 r1) (f : kUn w [7426, 7427, 7431, 7432] [117, 120, 121, 122, 123] [] = true) : gKn i1 a1 = gKn i a := by
  obtain ⟨f1, f2, _⟩ := kUn_all f
  unfold gKn wl
  rw [g.fi 7426 (f1 _ (by decide)), g.fi 7427 (f1 _ (by decide)), g.fi 7431 (f1 _ (by decide)), g.fi 7432 (f1 _ (by decide)), g.fa 117 (f2 _ (by decide)), g.fa 120 (f2 _ (by decide)), g.fa 121 (f2 _ (by decide)), g.fa 122 (f2 _ (by decide)), g.fa 123 (f2 _ (by decide))]
theorem kThm_pu (h : kThm i a r S) {j : Nat} (hj : j < 8) : (a 51).getD j 0 = S.1.getD j 0 := by
  obtain ⟨_, _, ⟨L0, hP⟩, _⟩ := h
  exact hP.1.1 j hj
theorem kl_51 (hI : kI i a q) : (a 51).length = 8 := hI.2.1 51
theorem kl_55 (hI : kI i a q) : (a 55).length = 8 := hI.2.1 55
theorem kl_57 (hI : kI i a q) : (a 57).length = 5 := hI.2.1 57
theorem kl_58 (hI : kI i a q) : (a 58).length = 5 := hI.2.1 58
theorem kl_63 (hI : kI i a q) : (a 63).length = 5 := hI.2.1 63
theorem kl_65 (hI : kI i a q) : ∀ u : Nat, u < 8 → (a (50 + 15 + u)).length = 8
  | 0, _ => hI.2.1 65
  | 1, _ => hI.2.1 66
  | 2, _ => hI.2.1 67
  | 3, _ => hI.2.1 68
  | 4, _ => hI.2.1 69
  | 5, _ => hI.2.1 70
  | 6, _ => hI.2.1 71
  | 7, _ => hI.2.1 72
  | u + 8, h => absurd h (by omega)
theorem th_len (hI : kI i a q) : mLen (cT 50 i a) := by
  refine ⟨kl_57 hI, kl_58 hI, kl_51 hI, kl_63 hI, fun u hu => ?_⟩
  show (cRow 50 a u).length = 8
  rw [cRow_lt hu]
  exact kl_65 hI u hu
theorem th_buy {pu c o d : Int32} {N N1 : List Int32} (hI : kI i a q) (hr : kr r) (hN : kNr i a) (hL : kLaw i a r) (h0 : 0 ≤ x1.toInt) (h8 : x1.toInt < 8) (ep : pu = N.getD x1.toNatClampNeg 0) (e9 : N1.getD 9 0 = c) (e10 : N1.getD (10 + x1.toNatClampNeg) 0 = o) (e8 : N1.getD 8 0 = d) :
    cBuyV (i (64 * r 0)) (a (r 0 + 1)) (a (r 0 + 2)) (a (r 0 + 3)) (i (64 * r 0 + 3)) ((a 3).getD x1.toNatClampNeg 0) pu ((a 4).getD x1.toNatClampNeg 0) c o d = gBy (gKn i a) N N1 x1 := by
  have t0 := Int32.toNat_toInt x1
  obtain ⟨q1, q2, q3⟩ := ix_16 h0 h8
  obtain ⟨w1, w2, _⟩ := hN.2.1 x1.toNatClampNeg (by omega)
  have w1 : (a 3).getD x1.toNatClampNeg 0 = (a 117).getD x1.toNatClampNeg 0 := w1
  have w2 : (a 4).getD x1.toNatClampNeg 0 = (a 117).getD (8 + x1.toNatClampNeg) 0 := w2
  have hs : (a (r 0 + 3)).length = 121 := by
    rcases hr.1 with ⟨hz, _⟩ | ⟨hz, _⟩
    · rw [hz]; exact hI.2.1 13
    · rw [hz]; exact hI.2.1 103
  rw [kBuy_c (LV := wl i a) (fun z => hL.2 (by rw [← hL.1]; exact z)) hs]
  unfold gBy gKn
  dsimp only
  rw [hL.1, (by decide : (9 : Int32).toNatClampNeg = 9), (by decide : (8 : Int32).toNatClampNeg = 8), q2, q3, e8, e9, e10, w1, w2, ep]
end TH
/-! what a purse of flows says in thought -/
/-! rows of flow made nothing -/
def kFz (a : Nat → List Int32) (m : Int) : Prop := ∀ u c : Nat, u < 8 → c < 8 → (8 * (u : Int) + (c : Int)) < m → (a (50 + 15 + u)).getD c 0 = 0
def kZ8 (a : Nat → List Int32) : Prop := ∀ u : Nat, u < 8 → a (50 + 15 + u) = List.replicate 8 0
theorem kFz_0 {a : Nat → List Int32} {m : Int} (h : m ≤ 0) : kFz a m := fun u c _ _ hm => by omega
theorem kFz_le {a : Nat → List Int32} {m m1 : Int} (h : kFz a m) (hm : m1 ≤ m) : kFz a m1 := fun u c hu hc h1 => h u c hu hc (by omega)
theorem kFz_step {a a1 : Nat → List Int32} {x y y1 : Int32} {m n : Nat} (h : kFz a (8 * x.toInt + y.toInt)) (hl : (a (50 + 15 + m)).length = n) (hn : n = 8) (hx : x.toInt = (m : Int)) (h0 : 0 ≤ y.toInt) (h8 : y.toInt < 8) (h1 : y1.toInt = y.toInt + 1) (e : a1 (50 + 15 + m) = (a (50 + 15 + m)).set y.toNatClampNeg 0) (f : ∀ k, k ≠ 50 + 15 + m → a1 k = a k) : kFz a1 (8 * x.toInt + y1.toInt) := by
  have ty := Int32.toNat_toInt y
  intro u c hu hc hm
  by_cases cu : u = m
  · subst cu
    rw [e, kset_gI (by omega)]
    by_cases cc : c = y.toNatClampNeg
    · rw [if_pos cc]
    · rw [if_neg cc]
      exact h u c hu hc (by omega)
  · rw [f (50 + 15 + u) (by omega)]
    exact h u c hu hc (by omega)
theorem kFz_all {a : Nat → List Int32} {m : Int} (h : kFz a m) (hm : 64 ≤ m) (hl : ∀ u : Nat, u < 8 → (a (50 + 15 + u)).length = 8) : kZ8 a := by
  intro u hu
  refine List.ext_getElem (by rw [hl u hu, List.length_replicate]) (fun j h1 h2 => ?_)
  rw [hl u hu] at h1
  have := h u j hu h1 (by omega)
  rw [List.getD_eq_getElem?_getD, List.getElem?_eq_getElem (by rw [hl u hu]; exact h1)] at this
  rw [List.getElem_replicate]
  exact this
theorem cpy_alw {l g : List Int32} {n : Nat} (hl : l.length = n) (hg : g.length = n) : mi_cpy l g 0 0 n = l := by
  refine List.ext_getElem (by rw [mi_cpy_len (by omega) (by omega)]; omega) (fun j h1 h2 => ?_)
  have := cpy_g (l := l) (g := g) (sp := 0) (dp := 0) (n := n) (j := j) (by omega) (by omega)
  rw [if_pos (by omega), List.getD_eq_getElem?_getD, List.getD_eq_getElem?_getD, List.getElem?_eq_getElem h1, List.getElem?_eq_getElem (by omega)] at this
  have e : 0 + (j - 0) = j := by omega
  simp only [e] at this
  exact this

