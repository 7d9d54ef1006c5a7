/-! CLASS AND REFERENCE READ ALIKE: what a code of the reference is in the class; what is added to both -/
def eSg (x : Int32) : Int32 := if x.toInt = 6 then 124 else if x.toInt = 7 then 38 else if x.toInt = 8 then 60 else if x.toInt = 9 then 61 else if x.toInt = 10 then 62 else if x.toInt = 11 then 43 else if x.toInt = 12 then 45 else if x.toInt = 13 then 42 else if x.toInt = 14 then 47 else if x.toInt = 15 then 37 else if x.toInt = 16 then 33 else 126
def eSt (x : Int32) : Int32 := if 18 ≤ x.toInt then 0 else if x.toInt ≤ 5 then 1 else eSg x
def eWi (x : Int32) : Int32 := if 18 ≤ x.toInt then x - 18 else if x.toInt ≤ 5 then x else 0
def cAt (st wi : List Int32) (p : Nat) (d : List Int32) : Prop := ∀ j : Nat, j < d.length → st.getD (p + j) 0 = eSt (d.getD j 0) ∧ wi.getD (p + j) 0 = eWi (d.getD j 0)
def rAt (L : List Int32) (p : Nat) (d : List Int32) : Prop := ∀ j : Nat, j < d.length → L.getD (p + j) 0 = d.getD j 0
def cSeg (A A1 : cA) (d : List Int32) : Prop := A1.1.length = 121 ∧ A1.2.1.length = 121 ∧ A1.2.2.toInt = A.2.2.toInt + d.length ∧ (∀ j : Nat, (j : Int) < A.2.2.toInt → A1.1.getD j 0 = A.1.getD j 0 ∧ A1.2.1.getD j 0 = A.2.1.getD j 0) ∧ cAt A1.1 A1.2.1 A.2.2.toInt.toNat d
def rSeg (A A1 : Int32 × List Int32) (d : List Int32) : Prop := A1.2.length = 200 ∧ A1.1.toInt = A.1.toInt + d.length ∧ (∀ j : Nat, (j : Int) < A.1.toInt → A1.2.getD j 0 = A.2.getD j 0) ∧ rAt A1.2 A.1.toInt.toNat d
theorem gD_l {d e : List Int32} {j : Nat} (h : j < d.length) : (d ++ e).getD j 0 = d.getD j 0 := by
  rw [List.getD_eq_getElem?_getD, List.getD_eq_getElem?_getD, List.getElem?_append_left h]
theorem gD_r {d e : List Int32} {j : Nat} (h : d.length ≤ j) : (d ++ e).getD j 0 = e.getD (j - d.length) 0 := by
  rw [List.getD_eq_getElem?_getD, List.getD_eq_getElem?_getD, List.getElem?_append_right h]
theorem cSeg_app {A A1 A2 : cA} {d e : List Int32} (h0 : 0 ≤ A.2.2.toInt) (h : cSeg A A1 d) (g : cSeg A1 A2 e) : cSeg A A2 (d ++ e) := by
  obtain ⟨h1, h2, h3, h4, h5⟩ := h
  obtain ⟨g1, g2, g3, g4, g5⟩ := g
  refine ⟨g1, g2, by rw [List.length_append]; omega, fun j hj => ?_, fun j hj => ?_⟩
  · have a := g4 j (by omega)
    have b := h4 j hj
    exact ⟨a.1.trans b.1, a.2.trans b.2⟩
  · rw [List.length_append] at hj
    by_cases c : j < d.length
    · have a := g4 (A.2.2.toInt.toNat + j) (by omega)
      have b := h5 j c
      rw [gD_l c]
      exact ⟨a.1.trans b.1, a.2.trans b.2⟩
    · have a := g5 (j - d.length) (by omega)
      rw [show A1.2.2.toInt.toNat + (j - d.length) = A.2.2.toInt.toNat + j by omega] at a
      rw [gD_r (by omega)]
      exact a
theorem rSeg_app {A A1 A2 : Int32 × List Int32} {d e : List Int32} (h0 : 0 ≤ A.1.toInt) (h : rSeg A A1 d) (g : rSeg A1 A2 e) : rSeg A A2 (d ++ e) := by
  obtain ⟨h1, h3, h4, h5⟩ := h
  obtain ⟨g1, g3, g4, g5⟩ := g
  refine ⟨g1, by rw [List.length_append]; omega, fun j hj => (g4 j (by omega)).trans (h4 j hj), fun j hj => ?_⟩
  rw [List.length_append] at hj
  by_cases c : j < d.length
  · rw [gD_l c]
    exact (g4 (A.1.toInt.toNat + j) (by omega)).trans (h5 j c)
  · have a := g5 (j - d.length) (by omega)
    rw [show A1.1.toInt.toNat + (j - d.length) = A.1.toInt.toNat + j by omega] at a
    rw [gD_r (by omega)]
    exact a
theorem gD_set {l : List Int32} {j m : Nat} {x : Int32} (h : j < l.length) : (l.set j x).getD m 0 = if m = j then x else l.getD m 0 := kset_gI h
theorem cSeg_one {A : cA} {o w x : Int32} (h0 : 0 ≤ A.2.2.toInt) (h1 : A.2.2.toInt ≤ 120) (hl : A.1.length = 121) (hl2 : A.2.1.length = 121) (ho : o = eSt x) (hw : w = eWi x) : cSeg A (lAdd o w A) [x] := by
  have e : lAdd o w A = (A.1.set A.2.2.toNatClampNeg o, A.2.1.set A.2.2.toNatClampNeg w, A.2.2 + 1) := if_pos h1
  have t := Int32.toNat_toInt A.2.2
  have k1 : (1 : Int32).toInt = 1 := by decide
  have ea : (A.2.2 + 1).toInt = A.2.2.toInt + 1 := by rw [kd_add (by omega) (by omega), k1]
  rw [e]
  refine ⟨by simpa using hl, by simpa using hl2, ea, fun j hj => ?_, fun j hj => ?_⟩
  · dsimp only
    rw [gD_set (by omega), gD_set (by omega), if_neg (by omega), if_neg (by omega)]
    exact ⟨rfl, rfl⟩
  · have hj : j < 1 := hj
    have hz : j = 0 := by omega
    subst hz
    dsimp only
    rw [gD_set (by omega), gD_set (by omega), if_pos (by omega), if_pos (by omega), ho, hw]
    exact ⟨rfl, rfl⟩
theorem rSeg_one {A : Int32 × List Int32} {x : Int32} (h0 : 0 ≤ A.1.toInt) (h1 : A.1.toInt ≤ 199) (hl : A.2.length = 200) : rSeg A (A.1 + 1, A.2.set A.1.toNatClampNeg x) [x] := by
  have t := Int32.toNat_toInt A.1
  have k1 : (1 : Int32).toInt = 1 := by decide
  have ea : (A.1 + 1).toInt = A.1.toInt + 1 := by rw [kd_add (by omega) (by omega), k1]
  refine ⟨by simpa using hl, ea, fun j hj => ?_, fun j hj => ?_⟩
  · dsimp only
    rw [gD_set (by omega), if_neg (by omega)]
  · have hj : j < 1 := hj
    have hz : j = 0 := by omega
    subst hz
    dsimp only
    rw [gD_set (by omega), if_pos (by omega)]
    rfl
/-- how high the stack is behind a code -/
def dHt : List Int32 → Nat → Option Nat
  | [], k => some k
  | x :: d, k => (kEff x k).bind (dHt d)
theorem dHt_app : ∀ (d e : List Int32) (k : Nat), dHt (d ++ e) k = (dHt d k).bind (dHt e)
  | [], e, k => rfl
  | x :: d, e, k => by
    show (kEff x k).bind (dHt (d ++ e)) = ((kEff x k).bind (dHt d)).bind (dHt e)
    cases kEff x k with
    | none => rfl
    | some z => exact dHt_app d e z
theorem dHt_shift (h : Nat) : ∀ {d : List Int32} {k k1 : Nat}, dHt d k = some k1 → dHt d (h + k) = some (h + k1)
  | [], k, k1, e => by cases e; rfl
  | x :: d, k, k1, e => by
    have e : (kEff x k).bind (dHt d) = some k1 := e
    show (kEff x (h + k)).bind (dHt d) = some (h + k1)
    cases e1 : kEff x k with
    | none => rw [e1] at e; cases e
    | some z =>
      rw [e1] at e
      rw [kEff_shift h e1]
      exact dHt_shift h e
theorem dHt_bin {d e : List Int32} {x : Int32} (hd : dHt d 0 = some 1) (he : dHt e 0 = some 1) (h0 : 6 ≤ x.toInt) (h1 : x.toInt ≤ 15) : dHt (d ++ (e ++ [x])) 0 = some 1 := by
  rw [dHt_app, hd, Option.bind_some, dHt_app, dHt_shift 1 he, Option.bind_some]
  show (kEff x (1 + 1)).bind (dHt []) = some 1
  rw [kEff_bin h0 h1 (by decide)]
  rfl
theorem dHt_un {d : List Int32} {x : Int32} (hd : dHt d 0 = some 1) (h : x.toInt = 16 ∨ x.toInt = 17) : dHt (d ++ [x]) 0 = some 1 := by
  rw [dHt_app, hd, Option.bind_some]
  show (kEff x 1).bind (dHt []) = some 1
  rw [kEff_un h (by decide)]
  rfl
theorem dHt_push {x : Int32} (h : 18 ≤ x.toInt ∨ (0 ≤ x.toInt ∧ x.toInt ≤ 5)) : dHt [x] 0 = some 1 := by
  show (kEff x 0).bind (dHt []) = some 1
  rw [kEff_push 0 h]
  rfl
/-- both stand alike, and neither has more code than it has read -/
def sI (n : Int32) (S : cS) (Z : rS) : Prop := S.1 = Z.1 ∧ S.2.1.toInt = 0 ∧ (0 ≤ S.1.toInt ∧ S.1.toInt ≤ n.toInt) ∧ (0 ≤ S.2.2.2.2.toInt ∧ S.2.2.2.2.toInt ≤ S.1.toInt) ∧ (0 ≤ Z.2.1.toInt ∧ Z.2.1.toInt ≤ S.1.toInt) ∧ S.2.2.1.length = 121 ∧ S.2.2.2.1.length = 121 ∧ Z.2.2.length = 200
/-- from S, Z both came to T, Y, and added d -/
def sG (n : Int32) (S : cS) (Z : rS) (T : cS) (Y : rS) (d : List Int32) : Prop := sI n T Y ∧ S.1.toInt + d.length ≤ T.1.toInt ∧ S.1.toInt < T.1.toInt ∧ cSeg S.2.2 T.2.2 d ∧ rSeg Z.2 Y.2 d ∧ dHt d 0 = some 1
/-- faulty there -/
def sB (T : cS) (Y : rS) : Prop := T.1 = Y.1 ∧ T.2.1.toInt ≠ 0
def sR (n : Int32) (S : cS) (Z : rS) (T : cS) (X : Int32 × rS) : Prop := (X.1.toInt = 0 ∧ sB T X.2) ∨ (¬ (X.1.toInt = 0) ∧ ∃ d, sG n S Z T X.2 d)
def Sim (n : Int32) (f : cS → cS) (g : rS → Int32 × rS) : Prop := ∀ S Z, sI n S Z → sR n S Z (f S) (g Z)
theorem cHr_0 {t : List Int32} {n p f : Int32} (h : f.toInt = 0) : cHr t n p f = cHr t n p 0 := by
  have k0 : (0 : Int32).toInt = 0 := by decide
  unfold cHr
  rw [h, k0]
theorem cHr_1 {t : List Int32} {n p f : Int32} (h : f.toInt ≠ 0) : cHr t n p f = -1 := if_neg (fun z => h z.1)
theorem kp1 {p n : Int32} (h0 : 0 ≤ p.toInt) (h : p.toInt < n.toInt) : (p + 1).toInt = p.toInt + 1 := by
  have k1 : (1 : Int32).toInt = 1 := by decide
  have := kd_bd n
  rw [kd_add (by omega) (by omega), k1]
theorem sI_step {n : Int32} {S : cS} {Z : rS} (h : sI n S Z) (hp : S.1.toInt < n.toInt) : sI n (cAt1 S) (rAt1 Z) := by
  obtain ⟨h1, h2, h3, h4, h5, h6⟩ := h
  have e := kp1 h3.1 hp
  refine ⟨?_, h2, ⟨?_, ?_⟩, ⟨h4.1, ?_⟩, ⟨h5.1, ?_⟩, h6⟩
  · show S.1 + 1 = Z.1 + 1
    rw [h1]
  · show 0 ≤ (S.1 + 1).toInt
    omega
  · show (S.1 + 1).toInt ≤ n.toInt
    omega
  · show S.2.2.2.2.toInt ≤ (S.1 + 1).toInt
    omega
  · show Z.2.1.toInt ≤ (S.1 + 1).toInt
    omega
theorem sG_at1 {n : Int32} {S : cS} {Z : rS} {T : cS} {Y : rS} {d : List Int32} (h3 : 0 ≤ S.1.toInt) (hp : S.1.toInt < n.toInt) (h : sG n (cAt1 S) (rAt1 Z) T Y d) : sI n T Y ∧ S.1.toInt + 1 + d.length ≤ T.1.toInt ∧ S.1.toInt + 1 < T.1.toInt ∧ cSeg S.2.2 T.2.2 d ∧ rSeg Z.2 Y.2 d ∧ dHt d 0 = some 1 := by
  obtain ⟨a, b, c, r⟩ := h
  have e := kp1 h3 hp
  have b : (S.1 + 1).toInt + d.length ≤ T.1.toInt := b
  have c : (S.1 + 1).toInt < T.1.toInt := c
  exact ⟨a, by omega, by omega, r⟩
/-- one code more, where something was read -/
theorem sI_add {n : Int32} {T : cS} {Y : rS} {o w x : Int32} (hn : n.toInt ≤ 120) (h : sI n T Y) (hc : T.2.2.2.2.toInt + 1 ≤ T.1.toInt) (hr : Y.2.1.toInt + 1 ≤ T.1.toInt) (ho : o = eSt x) (hw : w = eWi x) : sI n (cAdd o w T) (rCod x Y) ∧ cSeg T.2.2 (cAdd o w T).2.2 [x] ∧ rSeg Y.2 (rCod x Y).2 [x] := by
  obtain ⟨h1, h2, h3, h4, h5, h6, h7, h8⟩ := h
  have c1 : cSeg T.2.2 (cAdd o w T).2.2 [x] := cSeg_one h4.1 (by omega) h6 h7 ho hw
  have r1 : rSeg Y.2 (rCod x Y).2 [x] := rSeg_one h5.1 (by omega) h8
  refine ⟨⟨h1, h2, h3, ⟨?_, ?_⟩, ⟨?_, ?_⟩, c1.1, c1.2.1, r1.1⟩, c1, r1⟩
  · rw [c1.2.2.1]; simp; omega
  · rw [c1.2.2.1]; simp; exact hc
  · rw [r1.2.1]; simp; omega
  · rw [r1.2.1]; simp; exact hr
/-- d, then behind a sign e, then an operation of two -/
theorem sG_bin {n : Int32} {S : cS} {Z : rS} {T : cS} {Y : rS} {U : cS} {V : rS} {d e : List Int32} {o x : Int32} (hn : n.toInt ≤ 120) (hS : sI n S Z) (h : sG n S Z T Y d) (hp : T.1.toInt < n.toInt) (g : sG n (cAt1 T) (rAt1 Y) U V e) (h0 : 6 ≤ x.toInt) (h1 : x.toInt ≤ 15) (ho : o = eSt x) (hw : 0 = eWi x) : sG n S Z (cAdd o 0 U) (rCod x V) (d ++ (e ++ [x])) := by
  obtain ⟨a1, a2, a3, a4, a5, a6⟩ := h
  obtain ⟨b1, b2, b3, b4, b5, b6⟩ := sG_at1 a1.2.2.1.1 hp g
  have hs := hS.2.2.2.1
  have hz := hS.2.2.2.2.1
  have l1 := a4.2.2.1
  have l2 := b4.2.2.1
  have l3 := a5.2.1
  have l4 := b5.2.1
  obtain ⟨i1, c1, r1⟩ := sI_add hn b1 (o := o) (w := 0) (x := x) (by omega) (by omega) ho hw
  have e1 : (cAdd o 0 U).1 = U.1 := rfl
  refine ⟨i1, ?_, ?_, cSeg_app hs.1 a4 (cSeg_app (by omega) b4 c1), rSeg_app hz.1 a5 (rSeg_app (by omega) b5 r1), dHt_bin a6 b6 h0 h1⟩
  · rw [e1, List.length_append, List.length_append]
    simp
    omega
  · rw [e1]; omega

