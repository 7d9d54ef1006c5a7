/-! STEPS BY SIGNS: a straight run as a list of small steps, which cost little to work out -/
abbrev fo_T : Type := mi_L × List Value × (Nat → Int32) × (Nat → List Int32) × (Nat → List Int64) × (Nat → Nat)
abbrev fo_C : Type := Nat × Nat × Nat × Int32
noncomputable def fo_lk (ls : mi_L) (k : Nat) : Option Value := List.rec (motive := fun _ => Option Value) none (fun q _ ih => cond (Nat.beq q.1 k) (some q.2) ih) ls
theorem fo_lk_eq : ∀ (ls : mi_L) (k : Nat), fo_lk ls k = mi_lk ls k
  | [], _ => rfl
  | q :: r, k => by
    show cond (Nat.beq q.1 k) (some q.2) (fo_lk r k) = (match Nat.beq q.1 k with
      | true => some q.2
      | false => mi_lk r k)
    cases Nat.beq q.1 k
    · exact fo_lk_eq r k
    · rfl
theorem fo_beq (a b : Nat) : (a == b) = Nat.beq a b := by
  cases h : Nat.beq a b
  · exact beq_false_of_ne (Nat.ne_of_beq_eq_false h)
  · rw [Nat.eq_of_beq_eq_true h]
    exact beq_self_eq_true b
noncomputable def fo_fl (ls : mi_L) (k : Nat) : mi_L := List.rec (motive := fun _ => mi_L) [] (fun q _ ih => cond (Nat.beq q.1 k) ih (cond (Nat.beq (q.1 + 1) k) (cond (q.2.category == 2) ih (q :: ih)) (q :: ih))) ls
theorem fo_fl_eq : ∀ (ls : mi_L) (k : Nat), fo_fl ls k = ls.filter (fun q => !(q.1 == k) && !(q.1 + 1 == k && q.2.category == 2))
  | [], _ => rfl
  | q :: r, k => by
    rw [List.filter_cons, ← fo_fl_eq r k]
    show cond (Nat.beq q.1 k) (fo_fl r k) (cond (Nat.beq (q.1 + 1) k) (cond (q.2.category == 2) (fo_fl r k) (q :: fo_fl r k)) (q :: fo_fl r k)) = _
    rw [fo_beq q.1 k, fo_beq (q.1 + 1) k]
    cases Nat.beq q.1 k <;> cases Nat.beq (q.1 + 1) k <;> cases (q.2.category == 2) <;> rfl
noncomputable def fo_li (k : Nat) (x : fo_T) : Option fo_T := match fo_lk x.1 k with
  | some (.int u) => some (x.1, .int u :: x.2.1, x.2.2)
  | _ => none
noncomputable def fo_la (k : Nat) (x : fo_T) : Option fo_T := match fo_lk x.1 k with
  | some (.ref u) => some (x.1, .ref u :: x.2.1, x.2.2)
  | _ => none
noncomputable def fo_ll (k : Nat) (x : fo_T) : Option fo_T := match fo_lk x.1 k with
  | some (.long u) => some (x.1, .long u :: x.2.1, x.2.2)
  | _ => none
def fo_ci (v : Int32) (x : fo_T) : Option fo_T := some (x.1, .int v :: x.2.1, x.2.2)
noncomputable def fo_si (k : Nat) (x : fo_T) : Option fo_T := match x.2.1 with
  | .int u :: r => some ((k, .int u) :: fo_fl x.1 k, r, x.2.2)
  | _ => none
noncomputable def fo_sa (k : Nat) (x : fo_T) : Option fo_T := match x.2.1 with
  | .ref u :: r => some ((k, .ref u) :: fo_fl x.1 k, r, x.2.2)
  | _ => none
noncomputable def fo_in (k : Nat) (v : Int32) (x : fo_T) : Option fo_T := match fo_lk x.1 k with
  | some (.int u) => some ((k, .int (u + v)) :: fo_fl x.1 k, x.2.1, x.2.2)
  | _ => none
def fo_ad (x : fo_T) : Option fo_T := match x.2.1 with
  | .int y :: .int u :: r => some (x.1, .int (u + y) :: r, x.2.2)
  | _ => none
def fo_su (x : fo_T) : Option fo_T := match x.2.1 with
  | .int y :: .int u :: r => some (x.1, .int (u - y) :: r, x.2.2)
  | _ => none
def fo_mu (x : fo_T) : Option fo_T := match x.2.1 with
  | .int y :: .int u :: r => some (x.1, .int (u * y) :: r, x.2.2)
  | _ => none
def fo_xo (x : fo_T) : Option fo_T := match x.2.1 with
  | .int y :: .int u :: r => some (x.1, .int (u ^^^ y) :: r, x.2.2)
  | _ => none
def fo_an (x : fo_T) : Option fo_T := match x.2.1 with
  | .int y :: .int u :: r => some (x.1, .int (u &&& y) :: r, x.2.2)
  | _ => none
def fo_di (x : fo_T) : Option fo_T := match x.2.1 with
  | .int y :: .int u :: r => cond (y == 0) none (some (x.1, .int (u / y) :: r, x.2.2))
  | _ => none
def fo_re (x : fo_T) : Option fo_T := match x.2.1 with
  | .int y :: .int u :: r => cond (y == 0) none (some (x.1, .int (u - u / y * y) :: r, x.2.2))
  | _ => none
def fo_ne (x : fo_T) : Option fo_T := match x.2.1 with
  | .int u :: r => some (x.1, .int (-u) :: r, x.2.2)
  | _ => none
def fo_du (x : fo_T) : Option fo_T := match x.2.1 with
  | .int u :: r => some (x.1, .int u :: .int u :: r, x.2.2)
  | .ref u :: r => some (x.1, .ref u :: .ref u :: r, x.2.2)
  | _ => none
def fo_d2 (x : fo_T) : Option fo_T := match x.2.1 with
  | .int u :: .ref w :: r => some (x.1, .int u :: .ref w :: .int u :: .ref w :: r, x.2.2)
  | _ => none
def fo_po (x : fo_T) : Option fo_T := match x.2.1 with
  | .int _ :: r => some (x.1, r, x.2.2)
  | .ref _ :: r => some (x.1, r, x.2.2)
  | _ => none
def fo_l2 (x : fo_T) : Option fo_T := match x.2.1 with
  | .long u :: r => some (x.1, .int (u.toInt32) :: r, x.2.2)
  | _ => none
def fo_i2 (x : fo_T) : Option fo_T := match x.2.1 with
  | .int u :: r => some (x.1, .long (u.toInt64) :: r, x.2.2)
  | _ => none
def fo_lc (x : fo_T) : Option fo_T := match x.2.1 with
  | .long y :: .long u :: r => some (x.1, .int (lg_cmp u y) :: r, x.2.2)
  | _ => none
def fo_t0 (b : Nat) (u : Int32) : Bool := match b with
  | 0 => u == 0
  | 1 => u != 0
  | 2 => decide (u < 0)
  | 3 => decide (0 ≤ u)
  | 4 => decide (0 < u)
  | _ => decide (u ≤ 0)
/-- a comparison with 0 that is known: a 1 the way that is taken -/
def fo_if (a b : Nat) (x : fo_T) : Option fo_T := match x.2.1 with
  | .int u :: r => cond (fo_t0 b u) (cond (Nat.beq a 1) (some (x.1, r, x.2.2)) none) (cond (Nat.beq a 1) none (some (x.1, r, x.2.2)))
  | _ => none
def fo_hv (z : Nat) : Option (Nat × Nat × Nat) := (cond (Nat.blt z 5699) (cond (Nat.blt z 1616) (cond (Nat.blt z 81) (cond (Nat.blt z 68) (cond (Nat.blt z 6) (cond (Nat.blt z 3) (cond (Nat.blt z 1) (cond (Nat.beq z 0) (some (8, 1, 1)) none) (cond (Nat.blt z 2) (cond (Nat.beq z 1) (some (8, 1, 25)) none) (cond (Nat.beq z 2) (some (8, 3, 2)) none))) (cond (Nat.blt z 4) (cond (Nat.beq z 3) (some (8, 1, 49)) none) (cond (Nat.blt z 5) (cond (Nat.beq z 4) (some (8, 1, 89)) none) (cond (Nat.beq z 5) (some (8, 1, 94)) none)))) (cond (Nat.blt z 65) (cond (Nat.blt z 7) (cond (Nat.beq z 6) (some (8, 1, 97)) none) (cond (Nat.blt z 64) (cond (Nat.beq z 7) (some (8, 1, 98)) none) (cond (Nat.beq z 64) (some (4, 0, 64)) none))) (cond (Nat.blt z 66) (cond (Nat.beq z 65) (some (4, 1, 2)) none) (cond (Nat.blt z 67) (cond (Nat.beq z 66) (some (4, 1, 3)) none) (cond (Nat.beq z 67) (some (4, 1, 4)) none))))) (cond (Nat.blt z 74) (cond (Nat.blt z 71) (cond (Nat.blt z 69) (cond (Nat.beq z 68) (some (4, 1, 5)) none) (cond (Nat.blt z 70) (cond (Nat.beq z 69) (some (4, 1, 6)) none) (cond (Nat.beq z 70) (some (4, 0, 70)) none))) (cond (Nat.blt z 72) (cond (Nat.beq z 71) (some (4, 0, 71)) none) (cond (Nat.blt z 73) (cond (Nat.beq z 72) (some (4, 0, 72)) none) (cond (Nat.beq z 73) (some (4, 0, 73)) none)))) (cond (Nat.blt z 77) (cond (Nat.blt z 75) (cond (Nat.beq z 74) (some (4, 1, 7)) none) (cond (Nat.blt z 76) (cond (Nat.beq z 75) (some (4, 2, 0)) none) (cond (Nat.beq z 76) (some (4, 1, 14)) none))) (cond (Nat.blt z 79) (cond (Nat.blt z 78) (cond (Nat.beq z 77) (some (4, 1, 15)) none) (cond (Nat.beq z 78) (some (4, 0, 78)) none)) (cond (Nat.blt z 80) (cond (Nat.beq z 79) (some (4, 0, 79)) none) (cond (Nat.beq z 80) (some (4, 0, 80)) none)))))) (cond (Nat.blt z 1603) (cond (Nat.blt z 642) (cond (Nat.blt z 450) (cond (Nat.blt z 448) (cond (Nat.beq z 81) (some (4, 1, 24)) none) (cond (Nat.blt z 449) (cond (Nat.beq z 448) (some (0, 1, 8)) none) (cond (Nat.beq z 449) (some (0, 1, 9)) none))) (cond (Nat.blt z 640) (cond (Nat.beq z 450) (some (0, 0, 450)) none) (cond (Nat.blt z 641) (cond (Nat.beq z 640) (some (3, 3, 640)) none) (cond (Nat.beq z 641) (some (3, 1, 11)) none)))) (cond (Nat.blt z 645) (cond (Nat.blt z 643) (cond (Nat.beq z 642) (some (3, 1, 12)) none) (cond (Nat.blt z 644) (cond (Nat.beq z 643) (some (3, 0, 643)) none) (cond (Nat.beq z 644) (some (3, 1, 13)) none))) (cond (Nat.blt z 1601) (cond (Nat.blt z 1600) (cond (Nat.beq z 645) (some (3, 0, 645)) none) (cond (Nat.beq z 1600) (some (4, 0, 1600)) none)) (cond (Nat.blt z 1602) (cond (Nat.beq z 1601) (some (4, 1, 26)) none) (cond (Nat.beq z 1602) (some (4, 1, 27)) none))))) (cond (Nat.blt z 1609) (cond (Nat.blt z 1606) (cond (Nat.blt z 1604) (cond (Nat.beq z 1603) (some (4, 1, 28)) none) (cond (Nat.blt z 1605) (cond (Nat.beq z 1604) (some (4, 1, 29)) none) (cond (Nat.beq z 1605) (some (4, 1, 30)) none))) (cond (Nat.blt z 1607) (cond (Nat.beq z 1606) (some (4, 0, 1606)) none) (cond (Nat.blt z 1608) (cond (Nat.beq z 1607) (some (4, 0, 1607)) none) (cond (Nat.beq z 1608) (some (4, 0, 1608)) none)))) (cond (Nat.blt z 1612) (cond (Nat.blt z 1610) (cond (Nat.beq z 1609) (some (4, 0, 1609)) none) (cond (Nat.blt z 1611) (cond (Nat.beq z 1610) (some (4, 1, 31)) none) (cond (Nat.beq z 1611) (some (4, 1, 34)) none))) (cond (Nat.blt z 1614) (cond (Nat.blt z 1613) (cond (Nat.beq z 1612) (some (4, 1, 38)) none) (cond (Nat.beq z 1613) (some (4, 1, 39)) none)) (cond (Nat.blt z 1615) (cond (Nat.beq z 1614) (some (4, 0, 1614)) none) (cond (Nat.beq z 1615) (some (4, 0, 1615)) none))))))) (cond (Nat.blt z 3204) (cond (Nat.blt z 3137) (cond (Nat.blt z 2177) (cond (Nat.blt z 1985) (cond (Nat.blt z 1617) (cond (Nat.beq z 1616) (some (4, 0, 1616)) none) (cond (Nat.blt z 1984) (cond (Nat.beq z 1617) (some (4, 1, 48)) none) (cond (Nat.beq z 1984) (some (0, 1, 32)) none))) (cond (Nat.blt z 1986) (cond (Nat.beq z 1985) (some (0, 1, 33)) none) (cond (Nat.blt z 2176) (cond (Nat.beq z 1986) (some (0, 0, 1986)) none) (cond (Nat.beq z 2176) (some (3, 3, 2176)) none)))) (cond (Nat.blt z 2180) (cond (Nat.blt z 2178) (cond (Nat.beq z 2177) (some (3, 1, 35)) none) (cond (Nat.blt z 2179) (cond (Nat.beq z 2178) (some (3, 1, 36)) none) (cond (Nat.beq z 2179) (some (3, 0, 2179)) none))) (cond (Nat.blt z 2181) (cond (Nat.beq z 2180) (some (3, 1, 37)) none) (cond (Nat.blt z 3136) (cond (Nat.beq z 2181) (some (3, 0, 2181)) none) (cond (Nat.beq z 3136) (some (7, 1, 50)) none))))) (cond (Nat.blt z 3143) (cond (Nat.blt z 3140) (cond (Nat.blt z 3138) (cond (Nat.beq z 3137) (some (7, 1, 74)) none) (cond (Nat.blt z 3139) (cond (Nat.beq z 3138) (some (7, 0, 3138)) none) (cond (Nat.beq z 3139) (some (7, 1, 75)) none))) (cond (Nat.blt z 3141) (cond (Nat.beq z 3140) (some (7, 1, 76)) none) (cond (Nat.blt z 3142) (cond (Nat.beq z 3141) (some (7, 1, 77)) none) (cond (Nat.beq z 3142) (some (7, 0, 3142)) none)))) (cond (Nat.blt z 3200) (cond (Nat.blt z 3144) (cond (Nat.beq z 3143) (some (7, 1, 78)) none) (cond (Nat.blt z 3145) (cond (Nat.beq z 3144) (some (7, 1, 79)) none) (cond (Nat.beq z 3145) (some (7, 1, 80)) none))) (cond (Nat.blt z 3202) (cond (Nat.blt z 3201) (cond (Nat.beq z 3200) (some (4, 0, 3200)) none) (cond (Nat.beq z 3201) (some (4, 1, 51)) none)) (cond (Nat.blt z 3203) (cond (Nat.beq z 3202) (some (4, 1, 52)) none) (cond (Nat.beq z 3203) (some (4, 1, 53)) none)))))) (cond (Nat.blt z 3217) (cond (Nat.blt z 3210) (cond (Nat.blt z 3207) (cond (Nat.blt z 3205) (cond (Nat.beq z 3204) (some (4, 1, 54)) none) (cond (Nat.blt z 3206) (cond (Nat.beq z 3205) (some (4, 1, 55)) none) (cond (Nat.beq z 3206) (some (4, 0, 3206)) none))) (cond (Nat.blt z 3208) (cond (Nat.beq z 3207) (some (4, 0, 3207)) none) (cond (Nat.blt z 3209) (cond (Nat.beq z 3208) (some (4, 0, 3208)) none) (cond (Nat.beq z 3209) (some (4, 0, 3209)) none)))) (cond (Nat.blt z 3213) (cond (Nat.blt z 3211) (cond (Nat.beq z 3210) (some (4, 1, 56)) none) (cond (Nat.blt z 3212) (cond (Nat.beq z 3211) (some (4, 2, 1)) none) (cond (Nat.beq z 3212) (some (4, 1, 63)) none))) (cond (Nat.blt z 3215) (cond (Nat.blt z 3214) (cond (Nat.beq z 3213) (some (4, 1, 64)) none) (cond (Nat.beq z 3214) (some (4, 0, 3214)) none)) (cond (Nat.blt z 3216) (cond (Nat.beq z 3215) (some (4, 0, 3215)) none) (cond (Nat.beq z 3216) (some (4, 0, 3216)) none))))) (cond (Nat.blt z 3778) (cond (Nat.blt z 3586) (cond (Nat.blt z 3584) (cond (Nat.beq z 3217) (some (4, 1, 73)) none) (cond (Nat.blt z 3585) (cond (Nat.beq z 3584) (some (0, 1, 57)) none) (cond (Nat.beq z 3585) (some (0, 1, 58)) none))) (cond (Nat.blt z 3776) (cond (Nat.beq z 3586) (some (0, 0, 3586)) none) (cond (Nat.blt z 3777) (cond (Nat.beq z 3776) (some (3, 3, 3776)) none) (cond (Nat.beq z 3777) (some (3, 1, 60)) none)))) (cond (Nat.blt z 3781) (cond (Nat.blt z 3779) (cond (Nat.beq z 3778) (some (3, 1, 61)) none) (cond (Nat.blt z 3780) (cond (Nat.beq z 3779) (some (3, 0, 3779)) none) (cond (Nat.beq z 3780) (some (3, 1, 62)) none))) (cond (Nat.blt z 5697) (cond (Nat.blt z 5696) (cond (Nat.beq z 3781) (some (3, 0, 3781)) none) (cond (Nat.beq z 5696) (some (1, 1, 90)) none)) (cond (Nat.blt z 5698) (cond (Nat.beq z 5697) (some (1, 1, 91)) none) (cond (Nat.beq z 5698) (some (1, 1, 92)) none)))))))) (cond (Nat.blt z 7427) (cond (Nat.blt z 6786) (cond (Nat.blt z 6400) (cond (Nat.blt z 6019) (cond (Nat.blt z 6016) (cond (Nat.blt z 5700) (cond (Nat.beq z 5699) (some (1, 1, 93)) none) (cond (Nat.blt z 5701) (cond (Nat.beq z 5700) (some (1, 0, 5700)) none) (cond (Nat.beq z 5701) (some (1, 0, 5701)) none))) (cond (Nat.blt z 6017) (cond (Nat.beq z 6016) (some (2, 1, 95)) none) (cond (Nat.blt z 6018) (cond (Nat.beq z 6017) (some (2, 0, 6017)) none) (cond (Nat.beq z 6018) (some (2, 1, 96)) none)))) (cond (Nat.blt z 6274) (cond (Nat.blt z 6272) (cond (Nat.beq z 6019) (some (2, 0, 6019)) none) (cond (Nat.blt z 6273) (cond (Nat.beq z 6272) (some (6, 1, 99)) none) (cond (Nat.beq z 6273) (some (6, 0, 6273)) none))) (cond (Nat.blt z 6275) (cond (Nat.beq z 6274) (some (6, 0, 6274)) none) (cond (Nat.blt z 6276) (cond (Nat.beq z 6275) (some (6, 3, 6275)) none) (cond (Nat.beq z 6276) (some (6, 2, 2)) none))))) (cond (Nat.blt z 6656) (cond (Nat.blt z 6403) (cond (Nat.blt z 6401) (cond (Nat.beq z 6400) (some (3, 3, 6400)) none) (cond (Nat.blt z 6402) (cond (Nat.beq z 6401) (some (3, 1, 101)) none) (cond (Nat.beq z 6402) (some (3, 1, 102)) none))) (cond (Nat.blt z 6404) (cond (Nat.beq z 6403) (some (3, 0, 6403)) none) (cond (Nat.blt z 6405) (cond (Nat.beq z 6404) (some (3, 1, 103)) none) (cond (Nat.beq z 6405) (some (3, 0, 6405)) none)))) (cond (Nat.blt z 6659) (cond (Nat.blt z 6657) (cond (Nat.beq z 6656) (some (5, 0, 6656)) none) (cond (Nat.blt z 6658) (cond (Nat.beq z 6657) (some (5, 0, 6657)) none) (cond (Nat.beq z 6658) (some (5, 0, 6658)) none))) (cond (Nat.blt z 6784) (cond (Nat.blt z 6660) (cond (Nat.beq z 6659) (some (5, 0, 6659)) none) (cond (Nat.beq z 6660) (some (5, 1, 105)) none)) (cond (Nat.blt z 6785) (cond (Nat.beq z 6784) (some (5, 0, 6784)) none) (cond (Nat.beq z 6785) (some (5, 0, 6785)) none)))))) (cond (Nat.blt z 7168) (cond (Nat.blt z 6915) (cond (Nat.blt z 6912) (cond (Nat.blt z 6787) (cond (Nat.beq z 6786) (some (5, 0, 6786)) none) (cond (Nat.blt z 6788) (cond (Nat.beq z 6787) (some (5, 0, 6787)) none) (cond (Nat.beq z 6788) (some (5, 1, 107)) none))) (cond (Nat.blt z 6913) (cond (Nat.beq z 6912) (some (5, 0, 6912)) none) (cond (Nat.blt z 6914) (cond (Nat.beq z 6913) (some (5, 0, 6913)) none) (cond (Nat.beq z 6914) (some (5, 0, 6914)) none)))) (cond (Nat.blt z 7041) (cond (Nat.blt z 6916) (cond (Nat.beq z 6915) (some (5, 0, 6915)) none) (cond (Nat.blt z 7040) (cond (Nat.beq z 6916) (some (5, 1, 109)) none) (cond (Nat.beq z 7040) (some (5, 0, 7040)) none))) (cond (Nat.blt z 7043) (cond (Nat.blt z 7042) (cond (Nat.beq z 7041) (some (5, 0, 7041)) none) (cond (Nat.beq z 7042) (some (5, 0, 7042)) none)) (cond (Nat.blt z 7044) (cond (Nat.beq z 7043) (some (5, 0, 7043)) none) (cond (Nat.beq z 7044) (some (5, 1, 111)) none))))) (cond (Nat.blt z 7297) (cond (Nat.blt z 7171) (cond (Nat.blt z 7169) (cond (Nat.beq z 7168) (some (5, 0, 7168)) none) (cond (Nat.blt z 7170) (cond (Nat.beq z 7169) (some (5, 0, 7169)) none) (cond (Nat.beq z 7170) (some (5, 0, 7170)) none))) (cond (Nat.blt z 7172) (cond (Nat.beq z 7171) (some (5, 0, 7171)) none) (cond (Nat.blt z 7296) (cond (Nat.beq z 7172) (some (5, 1, 113)) none) (cond (Nat.beq z 7296) (some (5, 0, 7296)) none)))) (cond (Nat.blt z 7300) (cond (Nat.blt z 7298) (cond (Nat.beq z 7297) (some (5, 0, 7297)) none) (cond (Nat.blt z 7299) (cond (Nat.beq z 7298) (some (5, 0, 7298)) none) (cond (Nat.beq z 7299) (some (5, 0, 7299)) none))) (cond (Nat.blt z 7425) (cond (Nat.blt z 7424) (cond (Nat.beq z 7300) (some (5, 1, 115)) none) (cond (Nat.beq z 7424) (some (9, 0, 7424)) none)) (cond (Nat.blt z 7426) (cond (Nat.beq z 7425) (some (9, 1, 117)) none) (cond (Nat.beq z 7426) (some (9, 0, 7426)) none))))))) (cond (Nat.blt z 7452) (cond (Nat.blt z 7439) (cond (Nat.blt z 7433) (cond (Nat.blt z 7430) (cond (Nat.blt z 7428) (cond (Nat.beq z 7427) (some (9, 0, 7427)) none) (cond (Nat.blt z 7429) (cond (Nat.beq z 7428) (some (9, 1, 118)) none) (cond (Nat.beq z 7429) (some (9, 0, 7429)) none))) (cond (Nat.blt z 7431) (cond (Nat.beq z 7430) (some (9, 1, 119)) none) (cond (Nat.blt z 7432) (cond (Nat.beq z 7431) (some (9, 3, 7431)) none) (cond (Nat.beq z 7432) (some (9, 0, 7432)) none)))) (cond (Nat.blt z 7436) (cond (Nat.blt z 7434) (cond (Nat.beq z 7433) (some (9, 1, 120)) none) (cond (Nat.blt z 7435) (cond (Nat.beq z 7434) (some (9, 1, 121)) none) (cond (Nat.beq z 7435) (some (9, 1, 122)) none))) (cond (Nat.blt z 7437) (cond (Nat.beq z 7436) (some (9, 1, 123)) none) (cond (Nat.blt z 7438) (cond (Nat.beq z 7437) (some (9, 0, 7437)) none) (cond (Nat.beq z 7438) (some (9, 0, 7438)) none))))) (cond (Nat.blt z 7445) (cond (Nat.blt z 7442) (cond (Nat.blt z 7440) (cond (Nat.beq z 7439) (some (9, 0, 7439)) none) (cond (Nat.blt z 7441) (cond (Nat.beq z 7440) (some (9, 0, 7440)) none) (cond (Nat.beq z 7441) (some (9, 1, 124)) none))) (cond (Nat.blt z 7443) (cond (Nat.beq z 7442) (some (9, 1, 125)) none) (cond (Nat.blt z 7444) (cond (Nat.beq z 7443) (some (9, 1, 126)) none) (cond (Nat.beq z 7444) (some (9, 1, 127)) none)))) (cond (Nat.blt z 7448) (cond (Nat.blt z 7446) (cond (Nat.beq z 7445) (some (9, 1, 128)) none) (cond (Nat.blt z 7447) (cond (Nat.beq z 7446) (some (9, 1, 129)) none) (cond (Nat.beq z 7447) (some (9, 1, 130)) none))) (cond (Nat.blt z 7450) (cond (Nat.blt z 7449) (cond (Nat.beq z 7448) (some (9, 3, 7448)) none) (cond (Nat.beq z 7449) (some (9, 0, 7449)) none)) (cond (Nat.blt z 7451) (cond (Nat.beq z 7450) (some (9, 1, 131)) none) (cond (Nat.beq z 7451) (some (9, 1, 132)) none)))))) (cond (Nat.blt z 7465) (cond (Nat.blt z 7458) (cond (Nat.blt z 7455) (cond (Nat.blt z 7453) (cond (Nat.beq z 7452) (some (9, 0, 7452)) none) (cond (Nat.blt z 7454) (cond (Nat.beq z 7453) (some (9, 0, 7453)) none) (cond (Nat.beq z 7454) (some (9, 1, 133)) none))) (cond (Nat.blt z 7456) (cond (Nat.beq z 7455) (some (9, 0, 7455)) none) (cond (Nat.blt z 7457) (cond (Nat.beq z 7456) (some (9, 1, 134)) none) (cond (Nat.beq z 7457) (some (9, 0, 7457)) none)))) (cond (Nat.blt z 7461) (cond (Nat.blt z 7459) (cond (Nat.beq z 7458) (some (9, 1, 135)) none) (cond (Nat.blt z 7460) (cond (Nat.beq z 7459) (some (9, 1, 136)) none) (cond (Nat.beq z 7460) (some (9, 1, 137)) none))) (cond (Nat.blt z 7463) (cond (Nat.blt z 7462) (cond (Nat.beq z 7461) (some (9, 1, 138)) none) (cond (Nat.beq z 7462) (some (9, 1, 139)) none)) (cond (Nat.blt z 7464) (cond (Nat.beq z 7463) (some (9, 1, 140)) none) (cond (Nat.beq z 7464) (some (9, 0, 7464)) none))))) (cond (Nat.blt z 7471) (cond (Nat.blt z 7468) (cond (Nat.blt z 7466) (cond (Nat.beq z 7465) (some (9, 0, 7465)) none) (cond (Nat.blt z 7467) (cond (Nat.beq z 7466) (some (9, 0, 7466)) none) (cond (Nat.beq z 7467) (some (9, 0, 7467)) none))) (cond (Nat.blt z 7469) (cond (Nat.beq z 7468) (some (9, 1, 141)) none) (cond (Nat.blt z 7470) (cond (Nat.beq z 7469) (some (9, 0, 7469)) none) (cond (Nat.beq z 7470) (some (9, 1, 142)) none)))) (cond (Nat.blt z 7474) (cond (Nat.blt z 7472) (cond (Nat.beq z 7471) (some (9, 1, 143)) none) (cond (Nat.blt z 7473) (cond (Nat.beq z 7472) (some (9, 1, 144)) none) (cond (Nat.beq z 7473) (some (9, 1, 145)) none))) (cond (Nat.blt z 7476) (cond (Nat.blt z 7475) (cond (Nat.beq z 7474) (some (9, 1, 146)) none) (cond (Nat.beq z 7475) (some (9, 1, 147)) none)) (cond (Nat.blt z 7477) (cond (Nat.beq z 7476) (some (9, 0, 7476)) none) (cond (Nat.beq z 7477) (some (9, 1, 148)) none)))))))))
noncomputable def fo_lfB (z : Nat) (o : Nat × Nat × Nat) : Bool := match ft_find ft_heap (z / 64) with
  | some e => Nat.beq e.1 o.1 && decide (e.2[z % 64]? = some o.2)
  | none => false
theorem fo_lf {z K : Nat} {o w : Nat × Nat × Nat} (h : fo_lfB K w = true) (e : cond (Nat.beq z K) (some w) none = some o) : fo_lfB z o = true := by
  cases hb : Nat.beq z K with
  | true =>
    rw [hb] at e
    have e : some w = some o := e
    cases e
    rw [Nat.eq_of_beq_eq_true hb]
    exact h
  | false =>
    rw [hb] at e
    have e : none = some o := e
    cases e
theorem fo_br {z : Nat} {b : Bool} {A B : Option (Nat × Nat × Nat)} {o : Nat × Nat × Nat} (hA : A = some o → fo_lfB z o = true) (hB : B = some o → fo_lfB z o = true) (e : cond b A B = some o) : fo_lfB z o = true := by
  cases b
  · exact hB e
  · exact hA e
set_option maxRecDepth 100000 in
theorem fo_hv_ok {z : Nat} {o : Nat × Nat × Nat} (e : fo_hv z = some o) : fo_lfB z o = true := (fo_br (fo_br (fo_br (fo_br (fo_br (fo_br (fo_br (fo_lf (by decide +kernel)) (fo_br (fo_lf (by decide +kernel)) (fo_lf (by decide +kernel)))) (fo_br (fo_lf (by decide +kernel)) (fo_br (fo_lf (by decide +kernel)) (fo_lf (by decide +kernel))))) (fo_br (fo_br (fo_lf (by decide +kernel)) (fo_br (fo_lf (by decide +kernel)) (fo_lf (by decide +kernel)))) (fo_br (fo_lf (by decide +kernel)) (fo_br (fo_lf (by decide +kernel)) (fo_lf (by decide +kernel)))))) (fo_br (fo_br (fo_br (fo_lf (by decide +kernel)) (fo_br (fo_lf (by decide +kernel)) (fo_lf (by decide +kernel)))) (fo_br (fo_lf (by decide +kernel)) (fo_br (fo_lf (by decide +kernel)) (fo_lf (by decide +kernel))))) (fo_br (fo_br (fo_lf (by decide +kernel)) (fo_br (fo_lf (by decide +kernel)) (fo_lf (by decide +kernel)))) (fo_br (fo_br (fo_lf (by decide +kernel)) (fo_lf (by decide +kernel))) (fo_br (fo_lf (by decide +kernel)) (fo_lf (by decide +kernel))))))) (fo_br (fo_br (fo_br (fo_br (fo_lf (by decide +kernel)) (fo_br (fo_lf (by decide +kernel)) (fo_lf (by decide +kernel)))) (fo_br (fo_lf (by decide +kernel)) (fo_br (fo_lf (by decide +kernel)) (fo_lf (by decide +kernel))))) (fo_br (fo_br (fo_lf (by decide +kernel)) (fo_br (fo_lf (by decide +kernel)) (fo_lf (by decide +kernel)))) (fo_br (fo_br (fo_lf (by decide +kernel)) (fo_lf (by decide +kernel))) (fo_br (fo_lf (by decide +kernel)) (fo_lf (by decide +kernel)))))) (fo_br (fo_br (fo_br (fo_lf (by decide +kernel)) (fo_br (fo_lf (by decide +kernel)) (fo_lf (by decide +kernel)))) (fo_br (fo_lf (by decide +kernel)) (fo_br (fo_lf (by decide +kernel)) (fo_lf (by decide +kernel))))) (fo_br (fo_br (fo_lf (by decide +kernel)) (fo_br (fo_lf (by decide +kernel)) (fo_lf (by decide +kernel)))) (fo_br (fo_br (fo_lf (by decide +kernel)) (fo_lf (by decide +kernel))) (fo_br (fo_lf (by decide +kernel)) (fo_lf (by decide +kernel)))))))) (fo_br (fo_br (fo_br (fo_br (fo_br (fo_lf (by decide +kernel)) (fo_br (fo_lf (by decide +kernel)) (fo_lf (by decide +kernel)))) (fo_br (fo_lf (by decide +kernel)) (fo_br (fo_lf (by decide +kernel)) (fo_lf (by decide +kernel))))) (fo_br (fo_br (fo_lf (by decide +kernel)) (fo_br (fo_lf (by decide +kernel)) (fo_lf (by decide +kernel)))) (fo_br (fo_lf (by decide +kernel)) (fo_br (fo_lf (by decide +kernel)) (fo_lf (by decide +kernel)))))) (fo_br (fo_br (fo_br (fo_lf (by decide +kernel)) (fo_br (fo_lf (by decide +kernel)) (fo_lf (by decide +kernel)))) (fo_br (fo_lf (by decide +kernel)) (fo_br (fo_lf (by decide +kernel)) (fo_lf (by decide +kernel))))) (fo_br (fo_br (fo_lf (by decide +kernel)) (fo_br (fo_lf (by decide +kernel)) (fo_lf (by decide +kernel)))) (fo_br (fo_br (fo_lf (by decide +kernel)) (fo_lf (by decide +kernel))) (fo_br (fo_lf (by decide +kernel)) (fo_lf (by decide +kernel))))))) (fo_br (fo_br (fo_br (fo_br (fo_lf (by decide +kernel)) (fo_br (fo_lf (by decide +kernel)) (fo_lf (by decide +kernel)))) (fo_br (fo_lf (by decide +kernel)) (fo_br (fo_lf (by decide +kernel)) (fo_lf (by decide +kernel))))) (fo_br (fo_br (fo_lf (by decide +kernel)) (fo_br (fo_lf (by decide +kernel)) (fo_lf (by decide +kernel)))) (fo_br (fo_br (fo_lf (by decide +kernel)) (fo_lf (by decide +kernel))) (fo_br (fo_lf (by decide +kernel)) (fo_lf (by decide +kernel)))))) (fo_br (fo_br (fo_br (fo_lf (by decide +kernel)) (fo_br (fo_lf (by decide +kernel)) (fo_lf (by decide +kernel)))) (fo_br (fo_lf (by decide +kernel)) (fo_br (fo_lf (by decide +kernel)) (fo_lf (by decide +kernel))))) (fo_br (fo_br (fo_lf (by decide +kernel)) (fo_br (fo_lf (by decide +kernel)) (fo_lf (by decide +kernel)))) (fo_br (fo_br (fo_lf (by decide +kernel)) (fo_lf (by decide +kernel))) (fo_br (fo_lf (by decide +kernel)) (fo_lf (by decide +kernel))))))))) (fo_br (fo_br (fo_br (fo_br (fo_br (fo_br (fo_lf (by decide +kernel)) (fo_br (fo_lf (by decide +kernel)) (fo_lf (by decide +kernel)))) (fo_br (fo_lf (by decide +kernel)) (fo_br (fo_lf (by decide +kernel)) (fo_lf (by decide +kernel))))) (fo_br (fo_br (fo_lf (by decide +kernel)) (fo_br (fo_lf (by decide +kernel)) (fo_lf (by decide +kernel)))) (fo_br (fo_lf (by decide +kernel)) (fo_br (fo_lf (by decide +kernel)) (fo_lf (by decide +kernel)))))) (fo_br (fo_br (fo_br (fo_lf (by decide +kernel)) (fo_br (fo_lf (by decide +kernel)) (fo_lf (by decide +kernel)))) (fo_br (fo_lf (by decide +kernel)) (fo_br (fo_lf (by decide +kernel)) (fo_lf (by decide +kernel))))) (fo_br (fo_br (fo_lf (by decide +kernel)) (fo_br (fo_lf (by decide +kernel)) (fo_lf (by decide +kernel)))) (fo_br (fo_br (fo_lf (by decide +kernel)) (fo_lf (by decide +kernel))) (fo_br (fo_lf (by decide +kernel)) (fo_lf (by decide +kernel))))))) (fo_br (fo_br (fo_br (fo_br (fo_lf (by decide +kernel)) (fo_br (fo_lf (by decide +kernel)) (fo_lf (by decide +kernel)))) (fo_br (fo_lf (by decide +kernel)) (fo_br (fo_lf (by decide +kernel)) (fo_lf (by decide +kernel))))) (fo_br (fo_br (fo_lf (by decide +kernel)) (fo_br (fo_lf (by decide +kernel)) (fo_lf (by decide +kernel)))) (fo_br (fo_br (fo_lf (by decide +kernel)) (fo_lf (by decide +kernel))) (fo_br (fo_lf (by decide +kernel)) (fo_lf (by decide +kernel)))))) (fo_br (fo_br (fo_br (fo_lf (by decide +kernel)) (fo_br (fo_lf (by decide +kernel)) (fo_lf (by decide +kernel)))) (fo_br (fo_lf (by decide +kernel)) (fo_br (fo_lf (by decide +kernel)) (fo_lf (by decide +kernel))))) (fo_br (fo_br (fo_lf (by decide +kernel)) (fo_br (fo_lf (by decide +kernel)) (fo_lf (by decide +kernel)))) (fo_br (fo_br (fo_lf (by decide +kernel)) (fo_lf (by decide +kernel))) (fo_br (fo_lf (by decide +kernel)) (fo_lf (by decide +kernel)))))))) (fo_br (fo_br (fo_br (fo_br (fo_br (fo_lf (by decide +kernel)) (fo_br (fo_lf (by decide +kernel)) (fo_lf (by decide +kernel)))) (fo_br (fo_lf (by decide +kernel)) (fo_br (fo_lf (by decide +kernel)) (fo_lf (by decide +kernel))))) (fo_br (fo_br (fo_lf (by decide +kernel)) (fo_br (fo_lf (by decide +kernel)) (fo_lf (by decide +kernel)))) (fo_br (fo_lf (by decide +kernel)) (fo_br (fo_lf (by decide +kernel)) (fo_lf (by decide +kernel)))))) (fo_br (fo_br (fo_br (fo_lf (by decide +kernel)) (fo_br (fo_lf (by decide +kernel)) (fo_lf (by decide +kernel)))) (fo_br (fo_lf (by decide +kernel)) (fo_br (fo_lf (by decide +kernel)) (fo_lf (by decide +kernel))))) (fo_br (fo_br (fo_lf (by decide +kernel)) (fo_br (fo_lf (by decide +kernel)) (fo_lf (by decide +kernel)))) (fo_br (fo_br (fo_lf (by decide +kernel)) (fo_lf (by decide +kernel))) (fo_br (fo_lf (by decide +kernel)) (fo_lf (by decide +kernel))))))) (fo_br (fo_br (fo_br (fo_br (fo_lf (by decide +kernel)) (fo_br (fo_lf (by decide +kernel)) (fo_lf (by decide +kernel)))) (fo_br (fo_lf (by decide +kernel)) (fo_br (fo_lf (by decide +kernel)) (fo_lf (by decide +kernel))))) (fo_br (fo_br (fo_lf (by decide +kernel)) (fo_br (fo_lf (by decide +kernel)) (fo_lf (by decide +kernel)))) (fo_br (fo_br (fo_lf (by decide +kernel)) (fo_lf (by decide +kernel))) (fo_br (fo_lf (by decide +kernel)) (fo_lf (by decide +kernel)))))) (fo_br (fo_br (fo_br (fo_lf (by decide +kernel)) (fo_br (fo_lf (by decide +kernel)) (fo_lf (by decide +kernel)))) (fo_br (fo_lf (by decide +kernel)) (fo_br (fo_lf (by decide +kernel)) (fo_lf (by decide +kernel))))) (fo_br (fo_br (fo_lf (by decide +kernel)) (fo_br (fo_lf (by decide +kernel)) (fo_lf (by decide +kernel)))) (fo_br (fo_br (fo_lf (by decide +kernel)) (fo_lf (by decide +kernel))) (fo_br (fo_lf (by decide +kernel)) (fo_lf (by decide +kernel)))))))))) e
theorem fo_hv_at {p b : Nat} {o : Nat × Nat × Nat} (hb : Nat.blt b 64 = true) (e : fo_hv (64 * p + b) = some o) : ∃ u, ft_find ft_heap p = some u ∧ u.1 = o.1 ∧ u.2[b]? = some o.2 := by
  have h := fo_hv_ok e
  have hb : b < 64 := Nat.le_of_ble_eq_true hb
  unfold fo_lfB at h
  rw [show (64 * p + b) / 64 = p by omega, show (64 * p + b) % 64 = b by omega] at h
  split at h
  next u hu =>
    obtain ⟨h1, h2⟩ := Bool.and_eq_true_iff.mp h
    exact ⟨u, hu, Nat.eq_of_beq_eq_true h1, of_decide_eq_true h2⟩
  next => cases h
def fo_gf (a b : Nat) (x : fo_T) : Option fo_T := match x.2.1 with
  | .ref p :: st => (match fo_hv (64 * p + b) with
    | some o => cond (Nat.beq o.1 a) (some (x.1, ft_val x.2.2.1 x.2.2.2.2.2 o.2 :: st, x.2.2)) none
    | none => none)
  | _ => none
def fo_pf (a b : Nat) (x : fo_T) : Option fo_T := match x.2.1 with
  | .int v :: .ref p :: st => (match fo_hv (64 * p + b) with
    | some o => cond (Nat.beq o.1 a && Nat.beq o.2.1 0) (some (x.1, st, ku x.2.2.1 o.2.2 v, x.2.2.2)) none
    | none => none)
  | _ => none
noncomputable def fo_y (k a b : Nat) (v : Int32) (x : fo_T) : Option fo_T := (cond (Nat.blt k 13) (cond (Nat.blt k 6) (cond (Nat.blt k 3) (cond (Nat.blt k 1) (fo_li a x) (cond (Nat.blt k 2) (fo_la a x) (fo_gf a b x))) (cond (Nat.blt k 4) (fo_ci v x) (cond (Nat.blt k 5) (fo_ad x) (fo_si a x)))) (cond (Nat.blt k 9) (cond (Nat.blt k 7) (fo_pf a b x) (cond (Nat.blt k 8) (fo_su x) (fo_mu x))) (cond (Nat.blt k 11) (cond (Nat.blt k 10) (fo_du x) (fo_in a v x)) (cond (Nat.blt k 12) (fo_d2 x) (fo_re x))))) (cond (Nat.blt k 19) (cond (Nat.blt k 16) (cond (Nat.blt k 14) (fo_di x) (cond (Nat.blt k 15) (some x) (fo_if a b x))) (cond (Nat.blt k 17) (none) (cond (Nat.blt k 18) (fo_sa a x) (fo_ll a x)))) (cond (Nat.blt k 22) (cond (Nat.blt k 20) (fo_l2 x) (cond (Nat.blt k 21) (fo_i2 x) (fo_po x))) (cond (Nat.blt k 24) (cond (Nat.blt k 23) (fo_xo x) (fo_ne x)) (cond (Nat.blt k 25) (fo_lc x) (fo_an x))))))
noncomputable def fo_x (c : fo_C) (x : fo_T) : Option fo_T := fo_y c.1 c.2.1 c.2.2.1 c.2.2.2 x
def fo_ok (i : mi_I) (c : fo_C) (pc nL : Nat) : Option Nat := match i.1 with
  | .iload_n n => (match Nat.beq c.1 0 && (Nat.beq c.2.1 n) with
    | true => (some (pc + 1))
    | false => none)
  | .iload n => (match Nat.beq c.1 0 && (Nat.beq c.2.1 n) with
    | true => (some (pc + 2))
    | false => none)
  | .aload_n n => (match Nat.beq c.1 1 && (Nat.beq c.2.1 n) with
    | true => (some (pc + 1))
    | false => none)
  | .aload n => (match Nat.beq c.1 1 && (Nat.beq c.2.1 n) with
    | true => (some (pc + 2))
    | false => none)
  | .lload_n n => (match Nat.beq c.1 18 && (Nat.beq c.2.1 n) with
    | true => (some (pc + 1))
    | false => none)
  | .lload n => (match Nat.beq c.1 18 && (Nat.beq c.2.1 n) with
    | true => (some (pc + 2))
    | false => none)
  | .iconst n => (match Nat.beq c.1 3 && (decide (Int32.ofInt n = c.2.2.2)) with
    | true => (some (pc + 1))
    | false => none)
  | .bipush n => (match Nat.beq c.1 3 && (decide ((Int8.ofInt n).toInt32 = c.2.2.2)) with
    | true => (some (pc + 2))
    | false => none)
  | .sipush n => (match Nat.beq c.1 3 && (decide ((Int16.ofInt n).toInt32 = c.2.2.2)) with
    | true => (some (pc + 3))
    | false => none)
  | .istore_n n => (match Nat.beq c.1 5 && (Nat.beq c.2.1 n && Nat.blt n nL) with
    | true => (some (pc + 1))
    | false => none)
  | .istore n => (match Nat.beq c.1 5 && (Nat.beq c.2.1 n && Nat.blt n nL) with
    | true => (some (pc + 2))
    | false => none)
  | .astore_n n => (match Nat.beq c.1 17 && (Nat.beq c.2.1 n && Nat.blt n nL) with
    | true => (some (pc + 1))
    | false => none)
  | .astore n => (match Nat.beq c.1 17 && (Nat.beq c.2.1 n && Nat.blt n nL) with
    | true => (some (pc + 2))
    | false => none)
  | .iinc n w => (match Nat.beq c.1 10 && ((Nat.beq c.2.1 n && Nat.blt n nL) && decide (Int32.ofInt w = c.2.2.2)) with
    | true => (some (pc + 3))
    | false => none)
  | .iadd => (match Nat.beq c.1 4 && (true) with
    | true => (some (pc + 1))
    | false => none)
  | .isub => (match Nat.beq c.1 7 && (true) with
    | true => (some (pc + 1))
    | false => none)
  | .imul => (match Nat.beq c.1 8 && (true) with
    | true => (some (pc + 1))
    | false => none)
  | .ixor => (match Nat.beq c.1 22 && (true) with
    | true => (some (pc + 1))
    | false => none)
  | .iand => (match Nat.beq c.1 25 && (true) with
    | true => (some (pc + 1))
    | false => none)
  | .lcmp => (match Nat.beq c.1 24 && (true) with
    | true => (some (pc + 1))
    | false => none)
  | .idiv => (match Nat.beq c.1 13 && (true) with
    | true => (some (pc + 1))
    | false => none)
  | .irem => (match Nat.beq c.1 12 && (true) with
    | true => (some (pc + 1))
    | false => none)
  | .ineg => (match Nat.beq c.1 23 && (true) with
    | true => (some (pc + 1))
    | false => none)
  | .l2i => (match Nat.beq c.1 19 && (true) with
    | true => (some (pc + 1))
    | false => none)
  | .i2l => (match Nat.beq c.1 20 && (true) with
    | true => (some (pc + 1))
    | false => none)
  | .dup => (match Nat.beq c.1 9 && (true) with
    | true => (some (pc + 1))
    | false => none)
  | .dup2 => (match Nat.beq c.1 11 && (true) with
    | true => (some (pc + 1))
    | false => none)
  | .pop => (match Nat.beq c.1 21 && (true) with
    | true => (some (pc + 1))
    | false => none)
  | .goto off => (match Nat.beq c.1 14 && (true) with
    | true => (mi_to pc off)
    | false => none)
  | .ifCond .eq off => (match Nat.beq c.1 15 && (Nat.beq c.2.2.1 0) with
    | true => (match mi_to pc off with
    | some t => some (cond (Nat.beq c.2.1 1) t (pc + 3))
    | none => none)
    | false => none)
  | .ifCond .ne off => (match Nat.beq c.1 15 && (Nat.beq c.2.2.1 1) with
    | true => (match mi_to pc off with
    | some t => some (cond (Nat.beq c.2.1 1) t (pc + 3))
    | none => none)
    | false => none)
  | .ifCond .lt off => (match Nat.beq c.1 15 && (Nat.beq c.2.2.1 2) with
    | true => (match mi_to pc off with
    | some t => some (cond (Nat.beq c.2.1 1) t (pc + 3))
    | none => none)
    | false => none)
  | .ifCond .ge off => (match Nat.beq c.1 15 && (Nat.beq c.2.2.1 3) with
    | true => (match mi_to pc off with
    | some t => some (cond (Nat.beq c.2.1 1) t (pc + 3))
    | none => none)
    | false => none)
  | .ifCond .gt off => (match Nat.beq c.1 15 && (Nat.beq c.2.2.1 4) with
    | true => (match mi_to pc off with
    | some t => some (cond (Nat.beq c.2.1 1) t (pc + 3))
    | none => none)
    | false => none)
  | .ifCond .le off => (match Nat.beq c.1 15 && (Nat.beq c.2.2.1 5) with
    | true => (match mi_to pc off with
    | some t => some (cond (Nat.beq c.2.1 1) t (pc + 3))
    | none => none)
    | false => none)
  | .getfield _ => (match Nat.beq c.1 2 && ((Nat.beq c.2.1 i.2.2.1 && Nat.beq c.2.2.1 i.2.2.2.1) && (Nat.beq i.2.2.2.2.1 0 && Nat.blt c.2.2.1 64)) with
    | true => (some (pc + 3))
    | false => none)
  | .putfield _ => (match Nat.beq c.1 6 && ((Nat.beq c.2.1 i.2.2.1 && Nat.beq c.2.2.1 i.2.2.2.1) && (Nat.beq i.2.2.2.2.1 0 && Nat.blt c.2.2.1 64)) with
    | true => (some (pc + 3))
    | false => none)
  | _ => none
section FO
variable {m : mi_M} {T : List (Nat × List (Nat × mi_I))} {pc : Nat} {x y : fo_T} {i : mi_I}
theorem fo_pure {z : Nat × mi_L × List Value} (hf : ft_find T pc = some i) (h : mi_pure i.1 pc m.2.2.1 x.1 x.2.1 = some z) : ft_step m T (pc, x) = some (z.1, z.2.1, z.2.2, x.2.2) := by
  unfold ft_step
  dsimp only
  rw [hf]
  dsimp only
  rw [h]
theorem fo_pure2 {pc2 : Nat} (hf : ft_find T pc = some i) (h : mi_pure i.1 pc m.2.2.1 x.1 x.2.1 = some (pc2, y.1, y.2.1)) (hy : y.2.2 = x.2.2) : ft_step m T (pc, x) = some (pc2, y) := by
  obtain ⟨y1, y2, y3⟩ := y
  dsimp only at hy
  subst hy
  exact fo_pure (z := (pc2, y1, y2)) hf h
theorem fo_heap (hf : ft_find T pc = some i) (h : mi_pure i.1 pc m.2.2.1 x.1 x.2.1 = none) {z : ft_S} (e : ft_hp i (pc, x) = some z) : ft_step m T (pc, x) = some z := by
  unfold ft_step
  dsimp only
  rw [hf]
  dsimp only
  rw [h]
  exact e
theorem fo_li_p {k : Nat} (e : fo_li k x = some y) : ∃ u, mi_lk x.1 k = some (.int u) ∧ y = (x.1, .int u :: x.2.1, x.2.2) := by
  unfold fo_li at e
  rw [fo_lk_eq] at e
  split at e
  next u hu => cases e; exact ⟨u, hu, rfl⟩
  next => cases e
theorem fo_la_p {k : Nat} (e : fo_la k x = some y) : ∃ u, mi_lk x.1 k = some (.ref u) ∧ y = (x.1, .ref u :: x.2.1, x.2.2) := by
  unfold fo_la at e
  rw [fo_lk_eq] at e
  split at e
  next u hu => cases e; exact ⟨u, hu, rfl⟩
  next => cases e
theorem fo_ll_p {k : Nat} (e : fo_ll k x = some y) : ∃ u, mi_lk x.1 k = some (.long u) ∧ y = (x.1, .long u :: x.2.1, x.2.2) := by
  unfold fo_ll at e
  rw [fo_lk_eq] at e
  split at e
  next u hu => cases e; exact ⟨u, hu, rfl⟩
  next => cases e
theorem fo_t0_if {b : Nat} {u : Int32} {a : Nat} {r : List Value} {h : (Nat → Int32) × (Nat → List Int32) × (Nat → List Int64) × (Nat → Nat)} {ls : mi_L} {t : Nat} (e : cond (fo_t0 b u) (cond (Nat.beq a 1) (some ((ls, r, h) : fo_T)) none) (cond (Nat.beq a 1) none (some (ls, r, h))) = some y) : y = (ls, r, h) ∧ (bif fo_t0 b u then t else pc + 3) = cond (Nat.beq a 1) t (pc + 3) := by
  cases hb : fo_t0 b u <;> cases ha : Nat.beq a 1 <;> rw [hb, ha] at e
  · have e : some ((ls, r, h) : fo_T) = some y := e
    cases e
    exact ⟨rfl, rfl⟩
  · have e : none = some y := e
    cases e
  · have e : none = some y := e
    cases e
  · have e : some ((ls, r, h) : fo_T) = some y := e
    cases e
    exact ⟨rfl, rfl⟩
set_option maxHeartbeats 4000000 in
theorem fo_st {c : fo_C} {pc2 : Nat} (hf : ft_find T pc = some i) (h : fo_ok i c pc m.2.2.1 = some pc2) (e : fo_x c x = some y) : ft_step m T (pc, x) = some (pc2, y) := by
  obtain ⟨ins, ax⟩ := i
  obtain ⟨c, a, b, v⟩ := c
  unfold fo_ok at h
  dsimp only at h
  split at h
  · split at h
    · rename_i h0
      obtain ⟨h1, h2⟩ := Bool.and_eq_true_iff.mp h0
      have h1 := Nat.eq_of_beq_eq_true h1
      subst h1
      have h3 := h
      have ha := Nat.eq_of_beq_eq_true h2
      cases h3
      replace e : fo_li a x = some y := e
      obtain ⟨u, hu, rfl⟩ := fo_li_p e
      rw [ha] at hu
      exact fo_pure2 hf (show (match mi_lk x.1 _ with | some (Value.int x1) => some (pc + 1, x.1, Value.int x1 :: x.2.1) | _ => none) = _ by rw [hu]) rfl
    · cases h
  · split at h
    · rename_i h0
      obtain ⟨h1, h2⟩ := Bool.and_eq_true_iff.mp h0
      have h1 := Nat.eq_of_beq_eq_true h1
      subst h1
      have h3 := h
      have ha := Nat.eq_of_beq_eq_true h2
      cases h3
      replace e : fo_li a x = some y := e
      obtain ⟨u, hu, rfl⟩ := fo_li_p e
      rw [ha] at hu
      exact fo_pure2 hf (show (match mi_lk x.1 _ with | some (Value.int x1) => some (pc + 2, x.1, Value.int x1 :: x.2.1) | _ => none) = _ by rw [hu]) rfl
    · cases h
  · split at h
    · rename_i h0
      obtain ⟨h1, h2⟩ := Bool.and_eq_true_iff.mp h0
      have h1 := Nat.eq_of_beq_eq_true h1
      subst h1
      have h3 := h
      have ha := Nat.eq_of_beq_eq_true h2
      cases h3
      replace e : fo_la a x = some y := e
      obtain ⟨u, hu, rfl⟩ := fo_la_p e
      rw [ha] at hu
      exact fo_pure2 hf (show (match mi_lk x.1 _ with | some (Value.ref x1) => some (pc + 1, x.1, Value.ref x1 :: x.2.1) | _ => none) = _ by rw [hu]) rfl
    · cases h
  · split at h
    · rename_i h0
      obtain ⟨h1, h2⟩ := Bool.and_eq_true_iff.mp h0
      have h1 := Nat.eq_of_beq_eq_true h1
      subst h1
      have h3 := h
      have ha := Nat.eq_of_beq_eq_true h2
      cases h3
      replace e : fo_la a x = some y := e
      obtain ⟨u, hu, rfl⟩ := fo_la_p e
      rw [ha] at hu
      exact fo_pure2 hf (show (match mi_lk x.1 _ with | some (Value.ref x1) => some (pc + 2, x.1, Value.ref x1 :: x.2.1) | _ => none) = _ by rw [hu]) rfl
    · cases h
  · split at h
    · rename_i h0
      obtain ⟨h1, h2⟩ := Bool.and_eq_true_iff.mp h0
      have h1 := Nat.eq_of_beq_eq_true h1
      subst h1
      have h3 := h
      have ha := Nat.eq_of_beq_eq_true h2
      cases h3
      replace e : fo_ll a x = some y := e
      obtain ⟨u, hu, rfl⟩ := fo_ll_p e
      rw [ha] at hu
      exact fo_pure2 hf (show (match mi_lk x.1 _ with | some (Value.long x1) => some (pc + 1, x.1, Value.long x1 :: x.2.1) | _ => none) = _ by rw [hu]) rfl
    · cases h
  · split at h
    · rename_i h0
      obtain ⟨h1, h2⟩ := Bool.and_eq_true_iff.mp h0
      have h1 := Nat.eq_of_beq_eq_true h1
      subst h1
      have h3 := h
      have ha := Nat.eq_of_beq_eq_true h2
      cases h3
      replace e : fo_ll a x = some y := e
      obtain ⟨u, hu, rfl⟩ := fo_ll_p e
      rw [ha] at hu
      exact fo_pure2 hf (show (match mi_lk x.1 _ with | some (Value.long x1) => some (pc + 2, x.1, Value.long x1 :: x.2.1) | _ => none) = _ by rw [hu]) rfl
    · cases h
  · split at h
    · rename_i h0
      obtain ⟨h1, h2⟩ := Bool.and_eq_true_iff.mp h0
      have h1 := Nat.eq_of_beq_eq_true h1
      subst h1
      have h3 := h
      cases h3
      have e : some (x.1, .int v :: x.2.1, x.2.2) = some y := e
      cases e
      have h2 := of_decide_eq_true h2
      subst h2
      exact fo_pure2 hf rfl rfl
    · cases h
  · split at h
    · rename_i h0
      obtain ⟨h1, h2⟩ := Bool.and_eq_true_iff.mp h0
      have h1 := Nat.eq_of_beq_eq_true h1
      subst h1
      have h3 := h
      cases h3
      have e : some (x.1, .int v :: x.2.1, x.2.2) = some y := e
      cases e
      have h2 := of_decide_eq_true h2
      subst h2
      exact fo_pure2 hf rfl rfl
    · cases h
  · split at h
    · rename_i h0
      obtain ⟨h1, h2⟩ := Bool.and_eq_true_iff.mp h0
      have h1 := Nat.eq_of_beq_eq_true h1
      subst h1
      have h3 := h
      cases h3
      have e : some (x.1, .int v :: x.2.1, x.2.2) = some y := e
      cases e
      have h2 := of_decide_eq_true h2
      subst h2
      exact fo_pure2 hf rfl rfl
    · cases h
  · split at h
    · rename_i h0
      obtain ⟨h1, h2⟩ := Bool.and_eq_true_iff.mp h0
      have h1 := Nat.eq_of_beq_eq_true h1
      subst h1
      have h3 := h
      obtain ⟨h4, h5⟩ := Bool.and_eq_true_iff.mp h2
      have ha := Nat.eq_of_beq_eq_true h4
      cases h3
      replace e : fo_si a x = some y := e
      obtain ⟨ls, st, hh⟩ := x
      unfold fo_si at e
      dsimp only at e
      split at e
      · rename_i u r
        cases e
        rw [fo_fl_eq, ha]
        exact fo_pure2 hf (show (match Nat.blt _ m.2.2.1 with | true => some (pc + 1, mi_s1 ls _ (Value.int u), r) | false => none) = _ by rw [h5]; rfl) rfl
      · cases e
    · cases h
  · split at h
    · rename_i h0
      obtain ⟨h1, h2⟩ := Bool.and_eq_true_iff.mp h0
      have h1 := Nat.eq_of_beq_eq_true h1
      subst h1
      have h3 := h
      obtain ⟨h4, h5⟩ := Bool.and_eq_true_iff.mp h2
      have ha := Nat.eq_of_beq_eq_true h4
      cases h3
      replace e : fo_si a x = some y := e
      obtain ⟨ls, st, hh⟩ := x
      unfold fo_si at e
      dsimp only at e
      split at e
      · rename_i u r
        cases e
        rw [fo_fl_eq, ha]
        exact fo_pure2 hf (show (match Nat.blt _ m.2.2.1 with | true => some (pc + 2, mi_s1 ls _ (Value.int u), r) | false => none) = _ by rw [h5]; rfl) rfl
      · cases e
    · cases h
  · split at h
    · rename_i h0
      obtain ⟨h1, h2⟩ := Bool.and_eq_true_iff.mp h0
      have h1 := Nat.eq_of_beq_eq_true h1
      subst h1
      have h3 := h
      obtain ⟨h4, h5⟩ := Bool.and_eq_true_iff.mp h2
      have ha := Nat.eq_of_beq_eq_true h4
      cases h3
      replace e : fo_sa a x = some y := e
      obtain ⟨ls, st, hh⟩ := x
      unfold fo_sa at e
      dsimp only at e
      split at e
      · rename_i u r
        cases e
        rw [fo_fl_eq, ha]
        exact fo_pure2 hf (show (match Nat.blt _ m.2.2.1 with | true => some (pc + 1, mi_s1 ls _ (Value.ref u), r) | false => none) = _ by rw [h5]; rfl) rfl
      · cases e
    · cases h
  · split at h
    · rename_i h0
      obtain ⟨h1, h2⟩ := Bool.and_eq_true_iff.mp h0
      have h1 := Nat.eq_of_beq_eq_true h1
      subst h1
      have h3 := h
      obtain ⟨h4, h5⟩ := Bool.and_eq_true_iff.mp h2
      have ha := Nat.eq_of_beq_eq_true h4
      cases h3
      replace e : fo_sa a x = some y := e
      obtain ⟨ls, st, hh⟩ := x
      unfold fo_sa at e
      dsimp only at e
      split at e
      · rename_i u r
        cases e
        rw [fo_fl_eq, ha]
        exact fo_pure2 hf (show (match Nat.blt _ m.2.2.1 with | true => some (pc + 2, mi_s1 ls _ (Value.ref u), r) | false => none) = _ by rw [h5]; rfl) rfl
      · cases e
    · cases h
  · split at h
    · rename_i h0
      obtain ⟨h1, h2⟩ := Bool.and_eq_true_iff.mp h0
      have h1 := Nat.eq_of_beq_eq_true h1
      subst h1
      have h3 := h
      obtain ⟨h4, h6⟩ := Bool.and_eq_true_iff.mp h2
      obtain ⟨h4, h5⟩ := Bool.and_eq_true_iff.mp h4
      have ha := Nat.eq_of_beq_eq_true h4
      have h6 := of_decide_eq_true h6
      cases h3
      replace e : fo_in a v x = some y := e
      unfold fo_in at e
      rw [fo_lk_eq, fo_fl_eq, ha, ← h6] at e
      split at e
      next u hu =>
        cases e
        exact fo_pure2 hf (show (match mi_lk x.1 _ with | some (Value.int x1) => (match Nat.blt _ m.2.2.1 with | true => some (pc + 3, mi_s1 x.1 _ (Value.int (x1 + _)), x.2.1) | false => none) | _ => none) = _ by rw [hu]; dsimp only; rw [h5]; rfl) rfl
      next => cases e
    · cases h
  · split at h
    · rename_i h0
      obtain ⟨h1, h2⟩ := Bool.and_eq_true_iff.mp h0
      have h1 := Nat.eq_of_beq_eq_true h1
      subst h1
      have h3 := h
      cases h3
      replace e : fo_ad x = some y := e
      obtain ⟨ls, st, hh⟩ := x
      unfold fo_ad at e
      dsimp only at e
      split at e
      all_goals first | (cases e; exact fo_pure2 hf rfl rfl) | cases e
    · cases h
  · split at h
    · rename_i h0
      obtain ⟨h1, h2⟩ := Bool.and_eq_true_iff.mp h0
      have h1 := Nat.eq_of_beq_eq_true h1
      subst h1
      have h3 := h
      cases h3
      replace e : fo_su x = some y := e
      obtain ⟨ls, st, hh⟩ := x
      unfold fo_su at e
      dsimp only at e
      split at e
      all_goals first | (cases e; exact fo_pure2 hf rfl rfl) | cases e
    · cases h
  · split at h
    · rename_i h0
      obtain ⟨h1, h2⟩ := Bool.and_eq_true_iff.mp h0
      have h1 := Nat.eq_of_beq_eq_true h1
      subst h1
      have h3 := h
      cases h3
      replace e : fo_mu x = some y := e
      obtain ⟨ls, st, hh⟩ := x
      unfold fo_mu at e
      dsimp only at e
      split at e
      all_goals first | (cases e; exact fo_pure2 hf rfl rfl) | cases e
    · cases h
  · split at h
    · rename_i h0
      obtain ⟨h1, h2⟩ := Bool.and_eq_true_iff.mp h0
      have h1 := Nat.eq_of_beq_eq_true h1
      subst h1
      have h3 := h
      cases h3
      replace e : fo_xo x = some y := e
      obtain ⟨ls, st, hh⟩ := x
      unfold fo_xo at e
      dsimp only at e
      split at e
      all_goals first | (cases e; exact fo_pure2 hf rfl rfl) | cases e
    · cases h
  · split at h
    · rename_i h0
      obtain ⟨h1, h2⟩ := Bool.and_eq_true_iff.mp h0
      have h1 := Nat.eq_of_beq_eq_true h1
      subst h1
      have h3 := h
      cases h3
      replace e : fo_an x = some y := e
      obtain ⟨ls, st, hh⟩ := x
      unfold fo_an at e
      dsimp only at e
      split at e
      all_goals first | (cases e; exact fo_pure2 hf rfl rfl) | cases e
    · cases h
  · split at h
    · rename_i h0
      obtain ⟨h1, h2⟩ := Bool.and_eq_true_iff.mp h0
      have h1 := Nat.eq_of_beq_eq_true h1
      subst h1
      have h3 := h
      cases h3
      replace e : fo_lc x = some y := e
      obtain ⟨ls, st, hh⟩ := x
      unfold fo_lc at e
      dsimp only at e
      split at e
      all_goals first | (cases e; exact fo_pure2 hf rfl rfl) | cases e
    · cases h
  · split at h
    · rename_i h0
      obtain ⟨h1, h2⟩ := Bool.and_eq_true_iff.mp h0
      have h1 := Nat.eq_of_beq_eq_true h1
      subst h1
      have h3 := h
      cases h3
      replace e : fo_di x = some y := e
      obtain ⟨ls, st, hh⟩ := x
      unfold fo_di at e
      dsimp only at e
      split at e
      · rename_i w u r
        cases hw : (w == 0) with
        | true => rw [hw] at e; have e : none = some y := e; cases e
        | false =>
          rw [hw] at e
          have e : some _ = some y := e
          cases e
          exact fo_pure2 hf (show (match w == 0 with | true => none | false => some (pc + 1, ls, Value.int (u / w) :: r)) = _ by rw [hw]) rfl
      · cases e
    · cases h
  · split at h
    · rename_i h0
      obtain ⟨h1, h2⟩ := Bool.and_eq_true_iff.mp h0
      have h1 := Nat.eq_of_beq_eq_true h1
      subst h1
      have h3 := h
      cases h3
      replace e : fo_re x = some y := e
      obtain ⟨ls, st, hh⟩ := x
      unfold fo_re at e
      dsimp only at e
      split at e
      · rename_i w u r
        cases hw : (w == 0) with
        | true => rw [hw] at e; have e : none = some y := e; cases e
        | false =>
          rw [hw] at e
          have e : some _ = some y := e
          cases e
          exact fo_pure2 hf (show (match w == 0 with | true => none | false => some (pc + 1, ls, Value.int (u - u / w * w) :: r)) = _ by rw [hw]) rfl
      · cases e
    · cases h
  · split at h
    · rename_i h0
      obtain ⟨h1, h2⟩ := Bool.and_eq_true_iff.mp h0
      have h1 := Nat.eq_of_beq_eq_true h1
      subst h1
      have h3 := h
      cases h3
      replace e : fo_ne x = some y := e
      obtain ⟨ls, st, hh⟩ := x
      unfold fo_ne at e
      dsimp only at e
      split at e
      all_goals first | (cases e; exact fo_pure2 hf rfl rfl) | cases e
    · cases h
  · split at h
    · rename_i h0
      obtain ⟨h1, h2⟩ := Bool.and_eq_true_iff.mp h0
      have h1 := Nat.eq_of_beq_eq_true h1
      subst h1
      have h3 := h
      cases h3
      replace e : fo_l2 x = some y := e
      obtain ⟨ls, st, hh⟩ := x
      unfold fo_l2 at e
      dsimp only at e
      split at e
      all_goals first | (cases e; exact fo_pure2 hf rfl rfl) | cases e
    · cases h
  · split at h
    · rename_i h0
      obtain ⟨h1, h2⟩ := Bool.and_eq_true_iff.mp h0
      have h1 := Nat.eq_of_beq_eq_true h1
      subst h1
      have h3 := h
      cases h3
      replace e : fo_i2 x = some y := e
      obtain ⟨ls, st, hh⟩ := x
      unfold fo_i2 at e
      dsimp only at e
      split at e
      all_goals first | (cases e; exact fo_pure2 hf rfl rfl) | cases e
    · cases h
  · split at h
    · rename_i h0
      obtain ⟨h1, h2⟩ := Bool.and_eq_true_iff.mp h0
      have h1 := Nat.eq_of_beq_eq_true h1
      subst h1
      have h3 := h
      cases h3
      replace e : fo_du x = some y := e
      obtain ⟨ls, st, hh⟩ := x
      unfold fo_du at e
      dsimp only at e
      split at e
      all_goals first | (cases e; exact fo_pure2 hf rfl rfl) | cases e
    · cases h
  · split at h
    · rename_i h0
      obtain ⟨h1, h2⟩ := Bool.and_eq_true_iff.mp h0
      have h1 := Nat.eq_of_beq_eq_true h1
      subst h1
      have h3 := h
      cases h3
      replace e : fo_d2 x = some y := e
      obtain ⟨ls, st, hh⟩ := x
      unfold fo_d2 at e
      dsimp only at e
      split at e
      all_goals first | (cases e; exact fo_pure2 hf rfl rfl) | cases e
    · cases h
  · split at h
    · rename_i h0
      obtain ⟨h1, h2⟩ := Bool.and_eq_true_iff.mp h0
      have h1 := Nat.eq_of_beq_eq_true h1
      subst h1
      have h3 := h
      cases h3
      replace e : fo_po x = some y := e
      obtain ⟨ls, st, hh⟩ := x
      unfold fo_po at e
      dsimp only at e
      split at e
      all_goals first | (cases e; exact fo_pure2 hf rfl rfl) | cases e
    · cases h
  · split at h
    · rename_i h0
      obtain ⟨h1, h2⟩ := Bool.and_eq_true_iff.mp h0
      have h1 := Nat.eq_of_beq_eq_true h1
      subst h1
      have h3 := h
      have e : some x = some y := e
      cases e
      exact fo_pure2 hf (show (match mi_to pc _ with | some t => some (t, x.1, x.2.1) | none => none) = _ by rw [h3]) rfl
    · cases h
  · split at h
    · rename_i h0
      obtain ⟨h1, h2⟩ := Bool.and_eq_true_iff.mp h0
      have h1 := Nat.eq_of_beq_eq_true h1
      subst h1
      have h3 := h
      have hb := Nat.eq_of_beq_eq_true h2
      try dsimp only at hb
      subst hb
      split at h3
      next t ht =>
        cases h3
        replace e : fo_if a 0 x = some y := e
        obtain ⟨ls, st, hh⟩ := x
        unfold fo_if at e
        dsimp only at e
        split at e
        · rename_i u r
          obtain ⟨rfl, eb⟩ := fo_t0_if (pc := pc) (t := t) e
          exact fo_pure2 hf (show (match mi_to pc _ with | some t => some (bif _ then t else pc + 3, ls, r) | none => none) = _ by rw [ht]; exact congrArg (fun z => some (z, ls, r)) eb) rfl
        · cases e
      next => cases h3
    · cases h
  · split at h
    · rename_i h0
      obtain ⟨h1, h2⟩ := Bool.and_eq_true_iff.mp h0
      have h1 := Nat.eq_of_beq_eq_true h1
      subst h1
      have h3 := h
      have hb := Nat.eq_of_beq_eq_true h2
      try dsimp only at hb
      subst hb
      split at h3
      next t ht =>
        cases h3
        replace e : fo_if a 1 x = some y := e
        obtain ⟨ls, st, hh⟩ := x
        unfold fo_if at e
        dsimp only at e
        split at e
        · rename_i u r
          obtain ⟨rfl, eb⟩ := fo_t0_if (pc := pc) (t := t) e
          exact fo_pure2 hf (show (match mi_to pc _ with | some t => some (bif _ then t else pc + 3, ls, r) | none => none) = _ by rw [ht]; exact congrArg (fun z => some (z, ls, r)) eb) rfl
        · cases e
      next => cases h3
    · cases h
  · split at h
    · rename_i h0
      obtain ⟨h1, h2⟩ := Bool.and_eq_true_iff.mp h0
      have h1 := Nat.eq_of_beq_eq_true h1
      subst h1
      have h3 := h
      have hb := Nat.eq_of_beq_eq_true h2
      try dsimp only at hb
      subst hb
      split at h3
      next t ht =>
        cases h3
        replace e : fo_if a 2 x = some y := e
        obtain ⟨ls, st, hh⟩ := x
        unfold fo_if at e
        dsimp only at e
        split at e
        · rename_i u r
          obtain ⟨rfl, eb⟩ := fo_t0_if (pc := pc) (t := t) e
          exact fo_pure2 hf (show (match mi_to pc _ with | some t => some (bif _ then t else pc + 3, ls, r) | none => none) = _ by rw [ht]; exact congrArg (fun z => some (z, ls, r)) eb) rfl
        · cases e
      next => cases h3
    · cases h
  · split at h
    · rename_i h0
      obtain ⟨h1, h2⟩ := Bool.and_eq_true_iff.mp h0
      have h1 := Nat.eq_of_beq_eq_true h1
      subst h1
      have h3 := h
      have hb := Nat.eq_of_beq_eq_true h2
      try dsimp only at hb
      subst hb
      split at h3
      next t ht =>
        cases h3
        replace e : fo_if a 3 x = some y := e
        obtain ⟨ls, st, hh⟩ := x
        unfold fo_if at e
        dsimp only at e
        split at e
        · rename_i u r
          obtain ⟨rfl, eb⟩ := fo_t0_if (pc := pc) (t := t) e
          exact fo_pure2 hf (show (match mi_to pc _ with | some t => some (bif _ then t else pc + 3, ls, r) | none => none) = _ by rw [ht]; exact congrArg (fun z => some (z, ls, r)) eb) rfl
        · cases e
      next => cases h3
    · cases h
  · split at h
    · rename_i h0
      obtain ⟨h1, h2⟩ := Bool.and_eq_true_iff.mp h0
      have h1 := Nat.eq_of_beq_eq_true h1
      subst h1
      have h3 := h
      have hb := Nat.eq_of_beq_eq_true h2
      try dsimp only at hb
      subst hb
      split at h3
      next t ht =>
        cases h3
        replace e : fo_if a 4 x = some y := e
        obtain ⟨ls, st, hh⟩ := x
        unfold fo_if at e
        dsimp only at e
        split at e
        · rename_i u r
          obtain ⟨rfl, eb⟩ := fo_t0_if (pc := pc) (t := t) e
          exact fo_pure2 hf (show (match mi_to pc _ with | some t => some (bif _ then t else pc + 3, ls, r) | none => none) = _ by rw [ht]; exact congrArg (fun z => some (z, ls, r)) eb) rfl
        · cases e
      next => cases h3
    · cases h
  · split at h
    · rename_i h0
      obtain ⟨h1, h2⟩ := Bool.and_eq_true_iff.mp h0
      have h1 := Nat.eq_of_beq_eq_true h1
      subst h1
      have h3 := h
      have hb := Nat.eq_of_beq_eq_true h2
      try dsimp only at hb
      subst hb
      split at h3
      next t ht =>
        cases h3
        replace e : fo_if a 5 x = some y := e
        obtain ⟨ls, st, hh⟩ := x
        unfold fo_if at e
        dsimp only at e
        split at e
        · rename_i u r
          obtain ⟨rfl, eb⟩ := fo_t0_if (pc := pc) (t := t) e
          exact fo_pure2 hf (show (match mi_to pc _ with | some t => some (bif _ then t else pc + 3, ls, r) | none => none) = _ by rw [ht]; exact congrArg (fun z => some (z, ls, r)) eb) rfl
        · cases e
      next => cases h3
    · cases h
  · split at h
    · rename_i h0
      obtain ⟨h1, h2⟩ := Bool.and_eq_true_iff.mp h0
      have h1 := Nat.eq_of_beq_eq_true h1
      subst h1
      have h3 := h
      obtain ⟨h4, h5⟩ := Bool.and_eq_true_iff.mp h2
      obtain ⟨h6, h7⟩ := Bool.and_eq_true_iff.mp h4
      obtain ⟨h8, h9⟩ := Bool.and_eq_true_iff.mp h5
      have e1 := Nat.eq_of_beq_eq_true h6
      have e2 := Nat.eq_of_beq_eq_true h7
      try dsimp only at e1 e2 h8 h9
      cases h3
      replace e : fo_gf a b x = some y := e
      obtain ⟨ls, st, ii, hh⟩ := x
      unfold fo_gf at e
      dsimp only at e
      split at e
      · rename_i p r
        split at e
        next o ho =>
          obtain ⟨u, hu, hc, hg⟩ := fo_hv_at h9 ho
          cases hb : Nat.beq o.1 a with
          | false => rw [hb] at e; have e : none = some y := e; cases e
          | true =>
            rw [hb] at e
            have e : some _ = some y := e
            cases e
            have hcc : Nat.beq u.1 ax.2.1 = true := by rw [hc, ← e1]; exact hb
            refine fo_heap hf rfl ?_
            unfold ft_hp
            dsimp only
            unfold ft_get
            dsimp only
            rw [hu]
            dsimp only
            rw [hcc, h8]
            simp only [Bool.and_self]
            rw [← e2, hg]
        next => cases e
      · cases e
    · cases h
  · split at h
    · rename_i h0
      obtain ⟨h1, h2⟩ := Bool.and_eq_true_iff.mp h0
      have h1 := Nat.eq_of_beq_eq_true h1
      subst h1
      have h3 := h
      obtain ⟨h4, h5⟩ := Bool.and_eq_true_iff.mp h2
      obtain ⟨h6, h7⟩ := Bool.and_eq_true_iff.mp h4
      obtain ⟨h8, h9⟩ := Bool.and_eq_true_iff.mp h5
      have e1 := Nat.eq_of_beq_eq_true h6
      have e2 := Nat.eq_of_beq_eq_true h7
      try dsimp only at e1 e2 h8 h9
      cases h3
      replace e : fo_pf a b x = some y := e
      obtain ⟨ls, st, ii, hh⟩ := x
      unfold fo_pf at e
      dsimp only at e
      split at e
      · rename_i w p r
        split at e
        next o ho =>
          obtain ⟨u, hu, hc, hg⟩ := fo_hv_at h9 ho
          cases hb : Nat.beq o.1 a && Nat.beq o.2.1 0 with
          | false => rw [hb] at e; have e : none = some y := e; cases e
          | true =>
            rw [hb] at e
            have e : some _ = some y := e
            cases e
            obtain ⟨hb1, hb2⟩ := Bool.and_eq_true_iff.mp hb
            have hk := Nat.eq_of_beq_eq_true hb2
            have hcc : Nat.beq u.1 ax.2.1 = true := by rw [hc, ← e1]; exact hb1
            refine fo_heap hf rfl ?_
            unfold ft_hp
            dsimp only
            unfold ft_pt
            dsimp only
            rw [hu]
            dsimp only
            rw [hcc, h8]
            simp only [Bool.and_self]
            rw [← e2, hg]
            dsimp only
            rw [hk]
            rfl
        next => cases e
      · cases e
    · cases h
  · cases h
noncomputable def fo_chk (nL : Nat) (T : List (Nat × List (Nat × mi_I))) : Nat → List fo_C → Nat → Bool
  | pc, [], pc1 => Nat.beq pc pc1
  | pc, c :: cs, pc1 => match ft_find T pc with
    | some i => (match fo_ok i c pc nL with
      | some pc2 => fo_chk nL T pc2 cs pc1
      | none => false)
    | none => false
noncomputable def fo_run (cs : List fo_C) : fo_T → Option fo_T := List.rec (motive := fun _ => fo_T → Option fo_T) (fun x => some x) (fun c _ ih x => match fo_x c x with
  | some y => ih y
  | none => none) cs
theorem fo_run_ok {pc1 : Nat} : ∀ (cs : List fo_C) (pc : Nat) (x y : fo_T), fo_chk m.2.2.1 T pc cs pc1 = true → fo_run cs x = some y → ft_steps m T cs.length (pc, x) = some (pc1, y)
  | [], pc, x, y, h, e => by
    have h : Nat.beq pc pc1 = true := h
    have e : some x = some y := e
    cases e
    rw [Nat.eq_of_beq_eq_true h]
    rfl
  | c :: cs, pc, x, y, h, e => by
    unfold fo_chk at h
    have e : (match fo_x c x with
      | some y => fo_run cs y
      | none => none) = some y := e
    split at h
    next i hi =>
      split at h
      next pc2 h2 =>
        split at e
        next x1 hx =>
          have hs := fo_st hi h2 hx
          show (match ft_step m T (pc, x) with
            | some z => ft_steps m T cs.length z
            | none => none) = _
          rw [hs]
          exact fo_run_ok cs pc2 x1 y h e
        next => cases e
      next => cases h
    next => cases h
end FO
theorem fo_go {q : mi_M × List (Nat × mi_I)} {T : List (Nat × List (Nat × mi_I))} {P : Option Value → mi_H → Prop} {d pc pc1 : Nat} {ls : mi_L} {st : List Value} {i : Nat → Int32} {a : Nat → List Int32} {q0 : Nat → List Int64} {r : Nat → Nat} {cs : List fo_C} (hq : ft_M q T) (hc : fo_chk q.1.2.2.1 T pc cs pc1 = true) (ls1 : mi_L) (st1 : List Value) (i1 : Nat → Int32) (a1 : Nat → List Int32) (q1 : Nat → List Int64) (r1 : Nat → Nat) (e : fo_run cs (ls, st, i, a, q0, r) = some (ls1, st1, i1, a1, q1, r1)) (k : ko (d + 1) q P (pc1, ls1, st1, (0, 0), ks i1 a1 q1 r1)) : ko (d + 1) q P (pc, ls, st, (0, 0), ks i a q0 r) := ft_go hq cs.length pc1 ls1 st1 i1 a1 q1 r1 (fo_run_ok cs pc _ _ hc e) k
theorem fo_goS {q : mi_M × List (Nat × mi_I)} {T : List (Nat × List (Nat × mi_I))} {P : Option Value → mi_H → Prop} {d pc pc1 : Nat} {ls : mi_L} {st : List Value} {i : Nat → Int32} {a : Nat → List Int32} {q0 : Nat → List Int64} {r : Nat → Nat} {cs : List fo_C} (hq : ft_M q T) (hc : fo_chk q.1.2.2.1 T pc cs pc1 = true) (st1 : List Value) (e : fo_run cs (ls, st, i, a, q0, r) = some (ls, st1, i, a, q0, r)) (k : ko (d + 1) q P (pc1, ls, st1, (0, 0), ks i a q0 r)) : ko (d + 1) q P (pc, ls, st, (0, 0), ks i a q0 r) := fo_go hq hc ls st1 i a q0 r e k
theorem ft_goS {q : mi_M × List (Nat × mi_I)} {T : List (Nat × List (Nat × mi_I))} {P : Option Value → mi_H → Prop} {d pc : Nat} {ls : mi_L} {st : List Value} {i : Nat → Int32} {a : Nat → List Int32} {q0 : Nat → List Int64} {r : Nat → Nat} (hq : ft_M q T) (n : Nat) (pc1 : Nat) (st1 : List Value) (e : ft_steps q.1 T n (pc, ls, st, i, a, q0, r) = some (pc1, ls, st1, i, a, q0, r)) (k : ko (d + 1) q P (pc1, ls, st1, (0, 0), ks i a q0 r)) : ko (d + 1) q P (pc, ls, st, (0, 0), ks i a q0 r) := ft_go hq n pc1 ls st1 i a q0 r e k
theorem fo_goI {q : mi_M × List (Nat × mi_I)} {T : List (Nat × List (Nat × mi_I))} {P : Option Value → mi_H → Prop} {d pc pc1 : Nat} {ls : mi_L} {st : List Value} {i : Nat → Int32} {a : Nat → List Int32} {q0 : Nat → List Int64} {r : Nat → Nat} {cs : List fo_C} (hq : ft_M q T) (hc : fo_chk q.1.2.2.1 T pc cs pc1 = true) (st1 : List Value) (i1 : Nat → Int32) (e : fo_run cs (ls, st, i, a, q0, r) = some (ls, st1, i1, a, q0, r)) (k : ko (d + 1) q P (pc1, ls, st1, (0, 0), ks i1 a q0 r)) : ko (d + 1) q P (pc, ls, st, (0, 0), ks i a q0 r) := fo_go hq hc ls st1 i1 a q0 r e k
theorem ft_goI {q : mi_M × List (Nat × mi_I)} {T : List (Nat × List (Nat × mi_I))} {P : Option Value → mi_H → Prop} {d pc : Nat} {ls : mi_L} {st : List Value} {i : Nat → Int32} {a : Nat → List Int32} {q0 : Nat → List Int64} {r : Nat → Nat} (hq : ft_M q T) (n : Nat) (pc1 : Nat) (st1 : List Value) (i1 : Nat → Int32) (e : ft_steps q.1 T n (pc, ls, st, i, a, q0, r) = some (pc1, ls, st1, i1, a, q0, r)) (k : ko (d + 1) q P (pc1, ls, st1, (0, 0), ks i1 a q0 r)) : ko (d + 1) q P (pc, ls, st, (0, 0), ks i a q0 r) := ft_go hq n pc1 ls st1 i1 a q0 r e k
theorem fo_goL {q : mi_M × List (Nat × mi_I)} {T : List (Nat × List (Nat × mi_I))} {P : Option Value → mi_H → Prop} {d pc pc1 : Nat} {ls : mi_L} {st : List Value} {i : Nat → Int32} {a : Nat → List Int32} {q0 : Nat → List Int64} {r : Nat → Nat} {cs : List fo_C} (hq : ft_M q T) (hc : fo_chk q.1.2.2.1 T pc cs pc1 = true) (ls1 : mi_L) (st1 : List Value) (e : fo_run cs (ls, st, i, a, q0, r) = some (ls1, st1, i, a, q0, r)) (k : ko (d + 1) q P (pc1, ls1, st1, (0, 0), ks i a q0 r)) : ko (d + 1) q P (pc, ls, st, (0, 0), ks i a q0 r) := fo_go hq hc ls1 st1 i a q0 r e k
theorem ft_goL {q : mi_M × List (Nat × mi_I)} {T : List (Nat × List (Nat × mi_I))} {P : Option Value → mi_H → Prop} {d pc : Nat} {ls : mi_L} {st : List Value} {i : Nat → Int32} {a : Nat → List Int32} {q0 : Nat → List Int64} {r : Nat → Nat} (hq : ft_M q T) (n : Nat) (pc1 : Nat) (ls1 : mi_L) (st1 : List Value) (e : ft_steps q.1 T n (pc, ls, st, i, a, q0, r) = some (pc1, ls1, st1, i, a, q0, r)) (k : ko (d + 1) q P (pc1, ls1, st1, (0, 0), ks i a q0 r)) : ko (d + 1) q P (pc, ls, st, (0, 0), ks i a q0 r) := ft_go hq n pc1 ls1 st1 i a q0 r e k
theorem ft_ifS {q : mi_M × List (Nat × mi_I)} {T : List (Nat × List (Nat × mi_I))} {P : Option Value → mi_H → Prop} {d pc : Nat} {ls : mi_L} {st : List Value} {h : mi_H} (hq : ft_M q T) {cn : Nat × Nat} (cb : Bool) (t u : Nat) (st1 : List Value) (e : ft_p q.1 T pc ls st = some (bif cb then t else u, ls, st1)) (kt : cb = true → ko (d + 1) q P (t, ls, st1, cn, h)) (kf : cb = false → ko (d + 1) q P (u, ls, st1, cn, h)) : ko (d + 1) q P (pc, ls, st, cn, h) := ft_if hq cb t u ls st1 e kt kf
