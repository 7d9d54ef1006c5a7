/-! WHAT AN ACT GIVES, AND WHAT IT LEAVES IN THE TRACE -/
def trW (l : List Int32) (n : Nat) : List Int32 → List Int32
  | [] => l
  | c :: cs => trW (if n < 24 then l.set n c else l) (n + 1) cs
theorem trW_app (l : List Int32) (n : Nat) (cs ds : List Int32) : trW l n (cs ++ ds) = trW (trW l n cs) (n + cs.length) ds := by
  induction cs generalizing l n with
  | nil => rfl
  | cons c cs ih =>
    rw [List.cons_append]
    unfold trW
    rw [ih, List.length_cons]
    rw [show n + 1 + cs.length = n + (cs.length + 1) by omega]
    cases ds <;> rfl
def trS (l : List Int32) (n : Int32) (l1 : List Int32) (n1 : Int32) (cs : List Int32) : Prop := 0 ≤ n.toInt ∧ n1.toInt = n.toInt + (cs.length : Int) ∧ l1 = trW l n.toInt.toNat cs
theorem tr_st {l l1 : List Int32} {n n1 c : Int32} (h0 : 0 ≤ n.toInt) (h : n.toInt < 24) (e : l1 = l.set n.toNatClampNeg c) (en : n1.toInt = n.toInt + 1) : trS l n l1 n1 [c] := by
  refine ⟨h0, en, ?_⟩
  have t := Int32.toNat_toInt n
  have hn : n.toInt.toNat = n.toNatClampNeg := by omega
  rw [e]
  show _ = if n.toInt.toNat < 24 then l.set n.toInt.toNat c else l
  rw [if_pos (by omega), hn]
theorem tr_no {l l1 : List Int32} {n n1 c : Int32} (h0 : 0 ≤ n.toInt) (h : 24 ≤ n.toInt) (e : l1 = l) (en : n1.toInt = n.toInt + 1) : trS l n l1 n1 [c] := by
  refine ⟨h0, en, ?_⟩
  rw [e]
  show _ = if n.toInt.toNat < 24 then l.set n.toInt.toNat c else l
  rw [if_neg (by omega)]
theorem tr_nil {l : List Int32} {n : Int32} (h0 : 0 ≤ n.toInt) : trS l n l n [] := ⟨h0, (Int.add_zero _).symm, rfl⟩
theorem tr_app {l l1 l2 : List Int32} {n n1 n2 : Int32} {cs ds es : List Int32} (h : trS l n l1 n1 cs) (g : trS l1 n1 l2 n2 ds) (e : cs ++ ds = es) : trS l n l2 n2 es := by
  obtain ⟨a1, a2, a3⟩ := h
  obtain ⟨b1, b2, b3⟩ := g
  subst e
  refine ⟨a1, by rw [List.length_append]; omega, ?_⟩
  rw [trW_app, b3, a3]
  rw [show n1.toInt.toNat = n.toInt.toNat + cs.length by omega]
def av0_0_0 (b x : Int32) : Int32 := x + b
def av0_1_0 (b x : Int32) : Int32 := (av0_0_0 b x) * 2
def av0_2_0 (b x : Int32) : Int32 := x ^^^ b
def av0_3_0 (b x : Int32) : Int32 := (av0_1_0 b x) - (av0_2_0 b 1)
def av0_0_1 (b x : Int32) : Int32 := x + b
def av1_0_1 (b x : Int32) : Int32 := (av0_0_1 b x) + 3
def av0_1_1 (b x : Int32) : Int32 := (av1_0_1 b x) * 2
def av0_2_1 (b x : Int32) : Int32 := x ^^^ b
def av0_3_1 (b x : Int32) : Int32 := (av0_1_1 b x) - (av0_2_1 b 1)
def av0_0_2 (b x : Int32) : Int32 := x + b
def av0_1_2 (b x : Int32) : Int32 := (av0_0_2 b x) * 2
def av2_1_2 (b x : Int32) : Int32 := (-(av0_1_2 b x))
def av0_2_2 (b x : Int32) : Int32 := x ^^^ b
def av0_3_2 (b x : Int32) : Int32 := (av2_1_2 b x) - (av0_2_2 b 1)
def av0_0_3 (b x : Int32) : Int32 := x + b
def av0_1_3 (b x : Int32) : Int32 := (av0_0_3 b x) * 2
def av2_1_3 (b x : Int32) : Int32 := (-(av0_1_3 b x))
def av3_1_3 (b x : Int32) : Int32 := av2_1_3 b (x + 1)
def av0_2_3 (b x : Int32) : Int32 := x ^^^ b
def av3_2_3 (b x : Int32) : Int32 := (av0_2_3 b x) * 3
def av0_3_3 (b x : Int32) : Int32 := (av3_1_3 b x) - (av3_2_3 b 1)
def av0_0_4 (b x : Int32) : Int32 := x + b
def av1_0_4 (b x : Int32) : Int32 := (av0_0_4 b x) + 3
def av0_1_4 (b x : Int32) : Int32 := (av1_0_4 b x) * 2
def av0_2_4 (b x : Int32) : Int32 := x ^^^ b
def av4_2_4 (b x : Int32) : Int32 := (av0_2_4 b x) - (av1_0_4 b 2)
def av0_3_4 (b x : Int32) : Int32 := (av0_1_4 b x) - (av4_2_4 b 1)
def av0_0_5 (b x : Int32) : Int32 := x + b
def av0_1_5 (b x : Int32) : Int32 := (av0_0_5 b x) * 2
def av2_1_5 (b x : Int32) : Int32 := (-(av0_1_5 b x))
def av3_1_5 (b x : Int32) : Int32 := av2_1_5 b (x + 1)
def av0_2_5 (b x : Int32) : Int32 := x ^^^ b
def av3_2_5 (b x : Int32) : Int32 := (av0_2_5 b x) * 3
def av0_3_5 (b x : Int32) : Int32 := (av3_1_5 b x) - (av3_2_5 b 1)
def av5_3_5 (b x : Int32) : Int32 := (av0_3_5 b x) ^^^ 5
def av0_0_6 (b x : Int32) : Int32 := x + b
def av6_0_6 (b x : Int32) : Int32 := (av0_0_6 b x) * 2
def av0_1_6 (b x : Int32) : Int32 := (av6_0_6 b x) * 2
def av0_2_6 (b x : Int32) : Int32 := x ^^^ b
def av0_3_6 (b x : Int32) : Int32 := (av0_1_6 b x) - (av0_2_6 b 1)
def av0_0_7 (b x : Int32) : Int32 := x + b
def av1_0_7 (b x : Int32) : Int32 := (av0_0_7 b x) + 3
def av0_1_7 (b x : Int32) : Int32 := (av1_0_7 b x) * 2
def av0_2_7 (b x : Int32) : Int32 := x ^^^ b
def av4_2_7 (b x : Int32) : Int32 := (av0_2_7 b x) - (av1_0_7 b 2)
def av7_1_7 (b x : Int32) : Int32 := (av0_1_7 b x) + (av4_2_7 b 2)
def av0_3_7 (b x : Int32) : Int32 := (av7_1_7 b x) - (av4_2_7 b 1)
def av7_3_7 (b x : Int32) : Int32 := (av0_3_7 b x) - 1
def avV (K A b x : Int32) : Int32 := match K.toInt.toNat, A.toInt.toNat with
  | 0, 0 => av0_0_0 b x
  | 0, 1 => av0_1_0 b x
  | 0, 2 => av0_2_0 b x
  | 0, 3 => av0_3_0 b x
  | 1, 0 => av1_0_1 b x
  | 1, 1 => av0_1_1 b x
  | 1, 2 => av0_2_1 b x
  | 1, 3 => av0_3_1 b x
  | 2, 0 => av0_0_2 b x
  | 2, 1 => av2_1_2 b x
  | 2, 2 => av0_2_2 b x
  | 2, 3 => av0_3_2 b x
  | 3, 0 => av0_0_3 b x
  | 3, 1 => av3_1_3 b x
  | 3, 2 => av3_2_3 b x
  | 3, 3 => av0_3_3 b x
  | 4, 0 => av1_0_4 b x
  | 4, 1 => av0_1_4 b x
  | 4, 2 => av4_2_4 b x
  | 4, 3 => av0_3_4 b x
  | 5, 0 => av0_0_5 b x
  | 5, 1 => av3_1_5 b x
  | 5, 2 => av3_2_5 b x
  | 5, 3 => av5_3_5 b x
  | 6, 0 => av6_0_6 b x
  | 6, 1 => av0_1_6 b x
  | 6, 2 => av0_2_6 b x
  | 6, 3 => av0_3_6 b x
  | 7, 0 => av1_0_7 b x
  | 7, 1 => av7_1_7 b x
  | 7, 2 => av4_2_7 b x
  | 7, 3 => av7_3_7 b x
  | _, _ => 0
def trC (K A : Int32) : List Int32 := match K.toInt.toNat, A.toInt.toNat with
  | 0, 0 => [1]
  | 0, 1 => [10, 1]
  | 0, 2 => [11]
  | 0, 3 => [2, 10, 1, 11]
  | 1, 0 => [20, 1]
  | 1, 1 => [10, 20, 1]
  | 1, 2 => [11]
  | 1, 3 => [2, 10, 20, 1, 11]
  | 2, 0 => [1]
  | 2, 1 => [30, 10, 1]
  | 2, 2 => [11]
  | 2, 3 => [2, 30, 10, 1, 11]
  | 3, 0 => [1]
  | 3, 1 => [41, 30, 10, 1]
  | 3, 2 => [40, 11]
  | 3, 3 => [2, 41, 30, 10, 1, 40, 11]
  | 4, 0 => [20, 1]
  | 4, 1 => [10, 20, 1]
  | 4, 2 => [50, 11, 20, 1]
  | 4, 3 => [2, 10, 20, 1, 50, 11, 20, 1]
  | 5, 0 => [1]
  | 5, 1 => [41, 30, 10, 1]
  | 5, 2 => [40, 11]
  | 5, 3 => [60, 2, 41, 30, 10, 1, 40, 11]
  | 6, 0 => [70, 1]
  | 6, 1 => [10, 70, 1]
  | 6, 2 => [11]
  | 6, 3 => [2, 10, 70, 1, 11]
  | 7, 0 => [20, 1]
  | 7, 1 => [80, 10, 20, 1, 50, 11, 20, 1]
  | 7, 2 => [50, 11, 20, 1]
  | 7, 3 => [81, 2, 80, 10, 20, 1, 50, 11, 20, 1, 50, 11, 20, 1]
  | _, _ => []
theorem avV_0_0 {K A b x : Int32} (hK : K.toInt = 0) (hA : A.toInt = 0) : avV K A b x = av0_0_0 b x := by unfold avV; rw [hK, hA]; rfl
theorem trC_0_0 {K A : Int32} (hK : K.toInt = 0) (hA : A.toInt = 0) : trC K A = [1] := by unfold trC; rw [hK, hA]; rfl
theorem avV_0_1 {K A b x : Int32} (hK : K.toInt = 0) (hA : A.toInt = 1) : avV K A b x = av0_1_0 b x := by unfold avV; rw [hK, hA]; rfl
theorem trC_0_1 {K A : Int32} (hK : K.toInt = 0) (hA : A.toInt = 1) : trC K A = [10, 1] := by unfold trC; rw [hK, hA]; rfl
theorem avV_0_2 {K A b x : Int32} (hK : K.toInt = 0) (hA : A.toInt = 2) : avV K A b x = av0_2_0 b x := by unfold avV; rw [hK, hA]; rfl
theorem trC_0_2 {K A : Int32} (hK : K.toInt = 0) (hA : A.toInt = 2) : trC K A = [11] := by unfold trC; rw [hK, hA]; rfl
theorem avV_0_3 {K A b x : Int32} (hK : K.toInt = 0) (hA : A.toInt = 3) : avV K A b x = av0_3_0 b x := by unfold avV; rw [hK, hA]; rfl
theorem trC_0_3 {K A : Int32} (hK : K.toInt = 0) (hA : A.toInt = 3) : trC K A = [2, 10, 1, 11] := by unfold trC; rw [hK, hA]; rfl
theorem avV_1_0 {K A b x : Int32} (hK : K.toInt = 1) (hA : A.toInt = 0) : avV K A b x = av1_0_1 b x := by unfold avV; rw [hK, hA]; rfl
theorem trC_1_0 {K A : Int32} (hK : K.toInt = 1) (hA : A.toInt = 0) : trC K A = [20, 1] := by unfold trC; rw [hK, hA]; rfl
theorem avV_1_1 {K A b x : Int32} (hK : K.toInt = 1) (hA : A.toInt = 1) : avV K A b x = av0_1_1 b x := by unfold avV; rw [hK, hA]; rfl
theorem trC_1_1 {K A : Int32} (hK : K.toInt = 1) (hA : A.toInt = 1) : trC K A = [10, 20, 1] := by unfold trC; rw [hK, hA]; rfl
theorem avV_1_2 {K A b x : Int32} (hK : K.toInt = 1) (hA : A.toInt = 2) : avV K A b x = av0_2_1 b x := by unfold avV; rw [hK, hA]; rfl
theorem trC_1_2 {K A : Int32} (hK : K.toInt = 1) (hA : A.toInt = 2) : trC K A = [11] := by unfold trC; rw [hK, hA]; rfl
theorem avV_1_3 {K A b x : Int32} (hK : K.toInt = 1) (hA : A.toInt = 3) : avV K A b x = av0_3_1 b x := by unfold avV; rw [hK, hA]; rfl
theorem trC_1_3 {K A : Int32} (hK : K.toInt = 1) (hA : A.toInt = 3) : trC K A = [2, 10, 20, 1, 11] := by unfold trC; rw [hK, hA]; rfl
theorem avV_2_0 {K A b x : Int32} (hK : K.toInt = 2) (hA : A.toInt = 0) : avV K A b x = av0_0_2 b x := by unfold avV; rw [hK, hA]; rfl
theorem trC_2_0 {K A : Int32} (hK : K.toInt = 2) (hA : A.toInt = 0) : trC K A = [1] := by unfold trC; rw [hK, hA]; rfl
theorem avV_2_1 {K A b x : Int32} (hK : K.toInt = 2) (hA : A.toInt = 1) : avV K A b x = av2_1_2 b x := by unfold avV; rw [hK, hA]; rfl
theorem trC_2_1 {K A : Int32} (hK : K.toInt = 2) (hA : A.toInt = 1) : trC K A = [30, 10, 1] := by unfold trC; rw [hK, hA]; rfl
theorem avV_2_2 {K A b x : Int32} (hK : K.toInt = 2) (hA : A.toInt = 2) : avV K A b x = av0_2_2 b x := by unfold avV; rw [hK, hA]; rfl
theorem trC_2_2 {K A : Int32} (hK : K.toInt = 2) (hA : A.toInt = 2) : trC K A = [11] := by unfold trC; rw [hK, hA]; rfl
theorem avV_2_3 {K A b x : Int32} (hK : K.toInt = 2) (hA : A.toInt = 3) : avV K A b x = av0_3_2 b x := by unfold avV; rw [hK, hA]; rfl
theorem trC_2_3 {K A : Int32} (hK : K.toInt = 2) (hA : A.toInt = 3) : trC K A = [2, 30, 10, 1, 11] := by unfold trC; rw [hK, hA]; rfl
theorem avV_3_0 {K A b x : Int32} (hK : K.toInt = 3) (hA : A.toInt = 0) : avV K A b x = av0_0_3 b x := by unfold avV; rw [hK, hA]; rfl
theorem trC_3_0 {K A : Int32} (hK : K.toInt = 3) (hA : A.toInt = 0) : trC K A = [1] := by unfold trC; rw [hK, hA]; rfl
theorem avV_3_1 {K A b x : Int32} (hK : K.toInt = 3) (hA : A.toInt = 1) : avV K A b x = av3_1_3 b x := by unfold avV; rw [hK, hA]; rfl
theorem trC_3_1 {K A : Int32} (hK : K.toInt = 3) (hA : A.toInt = 1) : trC K A = [41, 30, 10, 1] := by unfold trC; rw [hK, hA]; rfl
theorem avV_3_2 {K A b x : Int32} (hK : K.toInt = 3) (hA : A.toInt = 2) : avV K A b x = av3_2_3 b x := by unfold avV; rw [hK, hA]; rfl
theorem trC_3_2 {K A : Int32} (hK : K.toInt = 3) (hA : A.toInt = 2) : trC K A = [40, 11] := by unfold trC; rw [hK, hA]; rfl
theorem avV_3_3 {K A b x : Int32} (hK : K.toInt = 3) (hA : A.toInt = 3) : avV K A b x = av0_3_3 b x := by unfold avV; rw [hK, hA]; rfl
theorem trC_3_3 {K A : Int32} (hK : K.toInt = 3) (hA : A.toInt = 3) : trC K A = [2, 41, 30, 10, 1, 40, 11] := by unfold trC; rw [hK, hA]; rfl
theorem avV_4_0 {K A b x : Int32} (hK : K.toInt = 4) (hA : A.toInt = 0) : avV K A b x = av1_0_4 b x := by unfold avV; rw [hK, hA]; rfl
theorem trC_4_0 {K A : Int32} (hK : K.toInt = 4) (hA : A.toInt = 0) : trC K A = [20, 1] := by unfold trC; rw [hK, hA]; rfl
theorem avV_4_1 {K A b x : Int32} (hK : K.toInt = 4) (hA : A.toInt = 1) : avV K A b x = av0_1_4 b x := by unfold avV; rw [hK, hA]; rfl
theorem trC_4_1 {K A : Int32} (hK : K.toInt = 4) (hA : A.toInt = 1) : trC K A = [10, 20, 1] := by unfold trC; rw [hK, hA]; rfl
theorem avV_4_2 {K A b x : Int32} (hK : K.toInt = 4) (hA : A.toInt = 2) : avV K A b x = av4_2_4 b x := by unfold avV; rw [hK, hA]; rfl
theorem trC_4_2 {K A : Int32} (hK : K.toInt = 4) (hA : A.toInt = 2) : trC K A = [50, 11, 20, 1] := by unfold trC; rw [hK, hA]; rfl
theorem avV_4_3 {K A b x : Int32} (hK : K.toInt = 4) (hA : A.toInt = 3) : avV K A b x = av0_3_4 b x := by unfold avV; rw [hK, hA]; rfl
theorem trC_4_3 {K A : Int32} (hK : K.toInt = 4) (hA : A.toInt = 3) : trC K A = [2, 10, 20, 1, 50, 11, 20, 1] := by unfold trC; rw [hK, hA]; rfl
theorem avV_5_0 {K A b x : Int32} (hK : K.toInt = 5) (hA : A.toInt = 0) : avV K A b x = av0_0_5 b x := by unfold avV; rw [hK, hA]; rfl
theorem trC_5_0 {K A : Int32} (hK : K.toInt = 5) (hA : A.toInt = 0) : trC K A = [1] := by unfold trC; rw [hK, hA]; rfl
theorem avV_5_1 {K A b x : Int32} (hK : K.toInt = 5) (hA : A.toInt = 1) : avV K A b x = av3_1_5 b x := by unfold avV; rw [hK, hA]; rfl
theorem trC_5_1 {K A : Int32} (hK : K.toInt = 5) (hA : A.toInt = 1) : trC K A = [41, 30, 10, 1] := by unfold trC; rw [hK, hA]; rfl
theorem avV_5_2 {K A b x : Int32} (hK : K.toInt = 5) (hA : A.toInt = 2) : avV K A b x = av3_2_5 b x := by unfold avV; rw [hK, hA]; rfl
theorem trC_5_2 {K A : Int32} (hK : K.toInt = 5) (hA : A.toInt = 2) : trC K A = [40, 11] := by unfold trC; rw [hK, hA]; rfl
theorem avV_5_3 {K A b x : Int32} (hK : K.toInt = 5) (hA : A.toInt = 3) : avV K A b x = av5_3_5 b x := by unfold avV; rw [hK, hA]; rfl
theorem trC_5_3 {K A : Int32} (hK : K.toInt = 5) (hA : A.toInt = 3) : trC K A = [60, 2, 41, 30, 10, 1, 40, 11] := by unfold trC; rw [hK, hA]; rfl
theorem avV_6_0 {K A b x : Int32} (hK : K.toInt = 6) (hA : A.toInt = 0) : avV K A b x = av6_0_6 b x := by unfold avV; rw [hK, hA]; rfl
theorem trC_6_0 {K A : Int32} (hK : K.toInt = 6) (hA : A.toInt = 0) : trC K A = [70, 1] := by unfold trC; rw [hK, hA]; rfl
theorem avV_6_1 {K A b x : Int32} (hK : K.toInt = 6) (hA : A.toInt = 1) : avV K A b x = av0_1_6 b x := by unfold avV; rw [hK, hA]; rfl
theorem trC_6_1 {K A : Int32} (hK : K.toInt = 6) (hA : A.toInt = 1) : trC K A = [10, 70, 1] := by unfold trC; rw [hK, hA]; rfl
theorem avV_6_2 {K A b x : Int32} (hK : K.toInt = 6) (hA : A.toInt = 2) : avV K A b x = av0_2_6 b x := by unfold avV; rw [hK, hA]; rfl
theorem trC_6_2 {K A : Int32} (hK : K.toInt = 6) (hA : A.toInt = 2) : trC K A = [11] := by unfold trC; rw [hK, hA]; rfl
theorem avV_6_3 {K A b x : Int32} (hK : K.toInt = 6) (hA : A.toInt = 3) : avV K A b x = av0_3_6 b x := by unfold avV; rw [hK, hA]; rfl
theorem trC_6_3 {K A : Int32} (hK : K.toInt = 6) (hA : A.toInt = 3) : trC K A = [2, 10, 70, 1, 11] := by unfold trC; rw [hK, hA]; rfl
theorem avV_7_0 {K A b x : Int32} (hK : K.toInt = 7) (hA : A.toInt = 0) : avV K A b x = av1_0_7 b x := by unfold avV; rw [hK, hA]; rfl
theorem trC_7_0 {K A : Int32} (hK : K.toInt = 7) (hA : A.toInt = 0) : trC K A = [20, 1] := by unfold trC; rw [hK, hA]; rfl
theorem avV_7_1 {K A b x : Int32} (hK : K.toInt = 7) (hA : A.toInt = 1) : avV K A b x = av7_1_7 b x := by unfold avV; rw [hK, hA]; rfl
theorem trC_7_1 {K A : Int32} (hK : K.toInt = 7) (hA : A.toInt = 1) : trC K A = [80, 10, 20, 1, 50, 11, 20, 1] := by unfold trC; rw [hK, hA]; rfl
theorem avV_7_2 {K A b x : Int32} (hK : K.toInt = 7) (hA : A.toInt = 2) : avV K A b x = av4_2_7 b x := by unfold avV; rw [hK, hA]; rfl
theorem trC_7_2 {K A : Int32} (hK : K.toInt = 7) (hA : A.toInt = 2) : trC K A = [50, 11, 20, 1] := by unfold trC; rw [hK, hA]; rfl
theorem avV_7_3 {K A b x : Int32} (hK : K.toInt = 7) (hA : A.toInt = 3) : avV K A b x = av7_3_7 b x := by unfold avV; rw [hK, hA]; rfl
theorem trC_7_3 {K A : Int32} (hK : K.toInt = 7) (hA : A.toInt = 3) : trC K A = [81, 2, 80, 10, 20, 1, 50, 11, 20, 1, 50, 11, 20, 1] := by unfold trC; rw [hK, hA]; rfl
theorem tr_cs {l l1 : List Int32} {n n1 : Int32} {cs ds : List Int32} (h : trS l n l1 n1 cs) (e : ds = cs) : trS l n l1 n1 ds := by subst e; exact h
