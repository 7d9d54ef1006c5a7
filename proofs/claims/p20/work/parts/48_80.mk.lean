/-! TWO MARKETS ALIKE, PURELY -/
theorem cpy_g {l g : List Int32} {sp dp n j : Nat} (h1 : sp + n ≤ l.length) (h2 : dp + n ≤ g.length) : (mi_cpy l g sp dp n).getD j 0 = if dp ≤ j ∧ j < dp + n then l.getD (sp + (j - dp)) 0 else g.getD j 0 := by
  have h := congrFun (mi_cpy_get (l := l) (g := g) (sp := sp) (dp := dp) (n := n) 0 h1 h2) j
  exact h
/-- b buyers; purses P, how often O, the day, how many came, the debts of the class: as the reference's 31 numbers N -/
def mNow (b : Int32) (P O : List Int32) (dy cm op : Int32) (Wh Mu N : List Int32) : Prop :=
  (∀ j : Nat, j < 8 → P.getD j 0 = N.getD j 0) ∧ dy = N.getD 8 0 ∧ cm = N.getD 9 0 ∧ (∀ j : Nat, j < 8 → O.getD j 0 = N.getD (10 + j) 0) ∧ op = N.getD 18 0 ∧ (∀ j : Nat, (j : Int) < op.toInt → Wh.getD j 0 = N.getD (19 + j) 0 ∧ Mu.getD j 0 = N.getD (25 + j) 0 ∧ 0 ≤ (Wh.getD j 0).toInt ∧ (Wh.getD j 0).toInt < b.toInt)
def mLen (T : kCt) : Prop := T.2.1.length = 5 ∧ T.2.2.1.length = 5 ∧ T.2.2.2.1.length = 8 ∧ T.2.2.2.2.2.2.1.length = 5 ∧ ∀ u : Nat, u < 8 → (T.2.2.2.2.2.2.2 u).length = 8
/-- payments: the class's tuple as the reference's -/
def mP (b base : Int32) (L0 O : List Int32) (dy cm : Int32) (T : kCt) (S : kSt) : Prop :=
  mNow b T.2.2.2.1 O dy cm T.1 T.2.1 T.2.2.1 S.1 ∧ T.2.2.2.2.1 = S.2.1 ∧ T.2.2.2.2.2.1 = S.2.2.1 ∧ T.2.2.2.2.2.2.1.getD 2 0 = base + S.2.2.2.1 ∧ (∀ j : Nat, j ≠ 2 → T.2.2.2.2.2.2.1.getD j 0 = L0.getD j 0) ∧ mLen T ∧ S.1.length = 31 ∧ S.2.2.2.2.length = 64
def mF (T : kCt) (S : kSt) : Prop := ∀ u c : Nat, u < 8 → c < 8 → (T.2.2.2.2.2.2.2 u).getD c 0 = S.2.2.2.2.getD (8 * u + c) 0
theorem sSh_get {N : List Int32} (hN : N.length = 31) : ∀ n : Nat, n ≤ 4 → (sSh n N).length = 31 ∧ ∀ j : Nat, (sSh n N).getD j 0 = if (19 ≤ j ∧ j < 19 + n) ∨ (25 ≤ j ∧ j < 25 + n) then N.getD (j + 1) 0 else N.getD j 0
  | 0, _ => ⟨hN, fun j => by rw [if_neg (by omega)]; rfl⟩
  | n + 1, hn => by
    obtain ⟨hl, ih⟩ := sSh_get hN n (by omega)
    unfold sSh
    refine ⟨by rw [List.length_set, List.length_set]; exact hl, fun j => ?_⟩
    have e1 : ∀ m : Nat, ((sSh n N).set (19 + n) ((sSh n N).getD (20 + n) 0)).getD m 0 = if m = 19 + n then (sSh n N).getD (20 + n) 0 else (sSh n N).getD m 0 := fun m => kset_gI (by omega)
    rw [kset_gI (by rw [List.length_set]; omega), e1, e1, ih j, ih (20 + n), ih (26 + n)]
    (repeat' split) <;> first | rfl | (exfalso; omega) | (congr 1; omega)
theorem sDrop_get {N : List Int32} (hN : N.length = 31) (h1 : 1 ≤ (N.getD 18 0).toInt) (h5 : (N.getD 18 0).toInt ≤ 5) : (N.getD 18 0 - 1).toInt = (N.getD 18 0).toInt - 1 ∧ (sDrop N).length = 31 ∧ ∀ j : Nat, (sDrop N).getD j 0 = if j = 18 then N.getD 18 0 - 1 else if (19 ≤ j ∧ (j : Int) < 18 + (N.getD 18 0).toInt) ∨ (25 ≤ j ∧ (j : Int) < 24 + (N.getD 18 0).toInt) then N.getD (j + 1) 0 else N.getD j 0 := by
  have e1 : (N.getD 18 0 - 1).toInt = (N.getD 18 0).toInt - 1 := by
    have := kd_sub (x := N.getD 18 0) (y := 1) (by rw [(by decide : (1 : Int32).toInt = 1)]; omega) (by rw [(by decide : (1 : Int32).toInt = 1)]; omega)
    rw [this, (by decide : (1 : Int32).toInt = 1)]
  obtain ⟨hl, hg⟩ := sSh_get (N := N.set 18 (N.getD 18 0 - 1)) (by rw [List.length_set]; exact hN) (N.getD 18 0 - 1).toInt.toNat (by omega)
  refine ⟨e1, hl, fun j => ?_⟩
  unfold sDrop
  have e2 : ∀ m : Nat, (N.set 18 (N.getD 18 0 - 1)).getD m 0 = if m = 18 then N.getD 18 0 - 1 else N.getD m 0 := fun m => kset_gI (by omega)
  rw [hg j, e2, e2]
  (repeat' split) <;> first | rfl | (exfalso; omega) | (congr 1; omega)
theorem mNow_18 {b : Int32} {P O : List Int32} {dy cm op : Int32} {Wh Mu N : List Int32} (h : mNow b P O dy cm op Wh Mu N) : op = N.getD 18 0 := h.2.2.2.2.1
/-- the oldest debt gone -/
theorem mDrop {b : Int32} {P O : List Int32} {dy cm op : Int32} {Wh Mu N : List Int32} (h : mNow b P O dy cm op Wh Mu N) (hN : N.length = 31) (hW : Wh.length = 5) (hM : Mu.length = 5) (h1 : 1 ≤ op.toInt) (h5 : op.toInt ≤ 5) : mNow b P O dy cm (op - 1) (mi_cpy Wh Wh 1 0 (op - 1).toNatClampNeg) (mi_cpy Mu Mu 1 0 (op - 1).toNatClampNeg) (sDrop N) := by
  obtain ⟨g1, g2, g3, g4, g5, g6⟩ := h
  subst g5
  obtain ⟨e1, hl, hg⟩ := sDrop_get hN h1 h5
  have tn := Int32.toNat_toInt (N.getD 18 0 - 1)
  refine ⟨fun j hj => ?_, ?_, ?_, fun j hj => ?_, ?_, fun j hj => ?_⟩
  · rw [hg j, if_neg (by omega), if_neg (by omega)]; exact g1 j hj
  · rw [hg 8, if_neg (by omega), if_neg (by omega)]; exact g2
  · rw [hg 9, if_neg (by omega), if_neg (by omega)]; exact g3
  · rw [hg (10 + j), if_neg (by omega), if_neg (by omega)]; exact g4 j hj
  · rw [hg 18, if_pos rfl]
  · obtain ⟨q1, q2, q3, q4⟩ := g6 (j + 1) (by omega)
    rw [cpy_g (by omega) (by omega), cpy_g (by omega) (by omega), if_pos (by omega), if_pos (by omega), hg (19 + j), hg (25 + j), if_neg (by omega), if_pos (by omega), if_neg (by omega), if_pos (by omega), show 1 + (j - 0) = j + 1 by omega, show 19 + j + 1 = 19 + (j + 1) by omega, show 25 + j + 1 = 25 + (j + 1) by omega]
    exact ⟨q1, q2, q3, q4⟩
theorem mIx {w c : Int32} (h0 : 0 ≤ w.toInt) (h1 : w.toInt < 8) (h2 : 0 ≤ c.toInt) (h3 : c.toInt < 8) : (8 * w + c).toNatClampNeg = 8 * w.toNatClampNeg + c.toNatClampNeg := by
  have e0 : (8 * w).toInt = 8 * w.toInt := kd_cmul 8 (by decide) (by omega) (by omega)
  have e1 : (8 * w + c).toInt = (8 * w).toInt + c.toInt := kd_add (by omega) (by omega)
  have t1 := Int32.toNat_toInt (8 * w + c)
  have t2 := Int32.toNat_toInt w
  have t3 := Int32.toNat_toInt c
  omega
/-- the purses behind a payment -/
theorem mGive {P N : List Int32} {w c k : Nat} {x y : Int32} (hP : P.length = 8) (hN : N.length = 31) (hw : w < 8) (hc : c < 8) (h : ∀ j : Nat, j < 8 → P.getD j 0 = N.getD j 0) (_ : k = k) :
    (∀ j : Nat, j < 8 → ((P.set w (P.getD w 0 - x)).set c (sMn 999 ((P.set w (P.getD w 0 - x)).getD c 0 + y))).getD j 0 = ((N.set w (N.getD w 0 - x)).set c (sMn 999 ((N.set w (N.getD w 0 - x)).getD c 0 + y))).getD j 0) ∧ (∀ j : Nat, 8 ≤ j → ((N.set w (N.getD w 0 - x)).set c (sMn 999 ((N.set w (N.getD w 0 - x)).getD c 0 + y))).getD j 0 = N.getD j 0) := by
  constructor
  · intro j hj
    have e1 : ∀ (v z : Int32), ((P.set w v).set c z).getD j 0 = if j = c then z else if j = w then v else P.getD j 0 := fun v z => by rw [kset_gI (by rw [List.length_set]; omega), kset_gI (by omega)]
    have e2 : ∀ (v z : Int32), ((N.set w v).set c z).getD j 0 = if j = c then z else if j = w then v else N.getD j 0 := fun v z => by rw [kset_gI (by rw [List.length_set]; omega), kset_gI (by omega)]
    have e3 : ∀ (v : Int32), (P.set w v).getD c 0 = if c = w then v else P.getD c 0 := fun v => kset_gI (by omega)
    have e4 : ∀ (v : Int32), (N.set w v).getD c 0 = if c = w then v else N.getD c 0 := fun v => kset_gI (by omega)
    rw [e1, e2, e3, e4, h w hw, h c hc, h j hj]
  · intro j hj
    rw [kset_gI (by rw [List.length_set]; omega), if_neg (by omega), kset_gI (by omega), if_neg (by omega)]
theorem mNow_N {b : Int32} {P P1 O : List Int32} {dy cm op : Int32} {Wh Mu N N1 : List Int32} (h : mNow b P O dy cm op Wh Mu N) (h1 : ∀ j : Nat, j < 8 → P1.getD j 0 = N1.getD j 0) (h2 : ∀ j : Nat, 8 ≤ j → N1.getD j 0 = N.getD j 0) : mNow b P1 O dy cm op Wh Mu N1 := by
  obtain ⟨g1, g2, g3, g4, g5, g6⟩ := h
  refine ⟨h1, by rw [h2 8 (by omega)]; exact g2, by rw [h2 9 (by omega)]; exact g3, fun j hj => by rw [h2 (10 + j) (by omega)]; exact g4 j hj, by rw [h2 18 (by omega)]; exact g5, fun j hj => by rw [h2 (19 + j) (by omega), h2 (25 + j) (by omega)]; exact g6 j hj⟩
theorem pay_same {b base c : Int32} {L0 O : List Int32} {dy cm : Int32} {T : kCt} {S : kSt} (h : mP b base L0 O dy cm T S) (hb : b.toInt ≤ 8) (hc0 : 0 ≤ c.toInt) (hcb : c.toInt < b.toInt) (h1 : 1 ≤ T.1.toInt) (h5 : T.1.toInt ≤ 5) : mP b base L0 O dy cm (cPay b c T) (sPay c S) ∧ (cPay b c T).1.toInt = T.1.toInt - 1 ∧ (mF T S → mF (cPay b c T) (sPay c S)) := by
  obtain ⟨op, Wh, Mu, P, py, pd, L, F⟩ := T
  obtain ⟨N, py2, pd2, la, Fl⟩ := S
  obtain ⟨hn, e1, e2, e3, e4, ⟨l1, l2, l3, l4, l5⟩, l6, l7⟩ := h
  dsimp only at hn e1 e2 e3 e4 l1 l2 l3 l4 l5 l6 l7 h1 h5
  subst e1
  subst e2
  have hd := mDrop hn l6 l1 l2 h1 h5
  obtain ⟨q1, q2, q3, q4⟩ := hn.2.2.2.2.2 0 (by omega)
  have eop := mNow_18 hn
  obtain ⟨d1, d2, d3⟩ := sDrop_get l6 (by rw [← eop]; exact h1) (by rw [← eop]; exact h5)
  rw [← eop] at d1
  have tw := Int32.toNat_toInt (N.getD 19 0)
  have tc := Int32.toNat_toInt c
  have to := Int32.toNat_toInt (op - 1)
  have q1 : Wh.getD 0 0 = N.getD 19 0 := q1
  have q2 : Mu.getD 0 0 = N.getD 25 0 := q2
  rw [q1] at q3 q4
  have ew : (sDrop N).getD (N.getD 19 0).toNatClampNeg 0 = N.getD (N.getD 19 0).toNatClampNeg 0 := by rw [d3, if_neg (by omega), if_neg (by omega)]
  have ep : P.getD (N.getD 19 0).toNatClampNeg 0 = N.getD (N.getD 19 0).toNatClampNeg 0 := hn.1 _ (by omega)
  have ec : cCoin (op, Wh, Mu, P, py, pd, L, F) = sCoin N := by
    unfold cCoin sCoin
    dsimp only
    rw [q1, q2, ew, ep]
  by_cases cc : (N.getD 19 0).toInt = c.toInt
  · have e1 : cPay b c (op, Wh, Mu, P, py, pd, L, F) = cRest (op, Wh, Mu, P, py, pd, L, F) := if_neg (fun z => z.1 (by dsimp only; rw [q1]; exact cc))
    have e2 : sPay c (N, py, pd, la, Fl) = (sDrop N, if py.toInt = 8 then N.getD 19 0 else py, pd, la, Fl) := if_pos cc
    rw [e1, e2]
    unfold cRest
    dsimp only
    refine ⟨⟨hd, by dsimp only; rw [q1], rfl, e3, e4, ⟨?_, ?_, l3, l4, l5⟩, d2, l7⟩, d1, fun z => z⟩
    · rw [mi_cpy_len (by omega) (by omega)]; exact l1
    · rw [mi_cpy_len (by omega) (by omega)]; exact l2
  · have e1 : cPay b c (op, Wh, Mu, P, py, pd, L, F) = cGive c (op, Wh, Mu, P, py, pd, L, F) := if_pos ⟨by dsimp only; rw [q1]; exact cc, by dsimp only; rw [q1]; exact q3, by dsimp only; rw [q1]; exact q4⟩
    have e2 : sPay c (N, py, pd, la, Fl) = (sGive c N, if py.toInt = 8 then N.getD 19 0 else py, pd + sCoin N, la + (N.getD 25 0 - sCoin N), Fl.set (8 * N.getD 19 0 + c).toNatClampNeg (Fl.getD (8 * N.getD 19 0 + c).toNatClampNeg 0 + sCoin N)) := if_neg cc
    rw [e1, e2]
    unfold cGive
    rw [ec]
    unfold sGive
    dsimp only
    rw [q1, q2]
    obtain ⟨g1, g2⟩ := mGive (k := 0) (P := P) (N := sDrop N) (w := (N.getD 19 0).toNatClampNeg) (c := c.toNatClampNeg) (x := sCoin N) (y := sCoin N) l3 d2 (by omega) (by omega) (fun j hj => hd.1 j hj) rfl
    have ix := mIx (w := N.getD 19 0) (c := c) q3 (by omega) hc0 (by omega)
    refine ⟨⟨mNow_N hd g1 g2, rfl, rfl, ?_, ?_, ⟨?_, ?_, ?_, ?_, ?_⟩, ?_, ?_⟩, d1, ?_⟩
    · dsimp only
      rw [kset_gI (by omega), if_pos rfl, e3, Int32.add_assoc]
    · intro j hj
      dsimp only
      rw [kset_gI (by omega), if_neg hj]
      exact e4 j hj
    · dsimp only; rw [mi_cpy_len (by omega) (by omega)]; exact l1
    · dsimp only; rw [mi_cpy_len (by omega) (by omega)]; exact l2
    · dsimp only; rw [List.length_set, List.length_set]; exact l3
    · dsimp only; rw [List.length_set]; exact l4
    · intro u hu
      dsimp only
      cases Nat.beq u (N.getD 19 0).toNatClampNeg with
      | true => exact List.length_set.trans (l5 u hu)
      | false => exact l5 u hu
    · dsimp only; rw [List.length_set, List.length_set]; exact d2
    · dsimp only; rw [List.length_set]; exact l7
    · intro hF u v hu hv
      dsimp only
      rw [ix, kset_gI (by omega)]
      have hF := hF u v hu hv
      dsimp only at hF
      cases eb : Nat.beq u (N.getD 19 0).toNatClampNeg with
      | true =>
        have eu := Nat.eq_of_beq_eq_true eb
        show ((F u).set c.toNatClampNeg ((F u).getD c.toNatClampNeg 0 + sCoin N)).getD v 0 = _
        rw [kset_gI (by rw [l5 u hu]; omega)]
        by_cases cv : v = c.toNatClampNeg
        · rw [if_pos cv, if_pos (by omega), ← eu, ← cv, hF]
        · rw [if_neg cv, if_neg (by omega), hF]
      | false =>
        have eu : u ≠ (N.getD 19 0).toNatClampNeg := fun z => by rw [z, Nat.beq_refl] at eb; cases eb
        show (F u).getD v 0 = _
        rw [if_neg (by omega), hF]
theorem paid_same {b base c t3 : Int32} {L0 O : List Int32} {dy cm : Int32} (hb : b.toInt ≤ 8) (hc0 : 0 ≤ c.toInt) (hcb : c.toInt < b.toInt) (ht : 1 ≤ t3.toInt) : ∀ (n m : Nat) (T : kCt) (S : kSt), mP b base L0 O dy cm T S → T.1.toInt ≤ n → T.1.toInt ≤ m → T.1.toInt ≤ 5 → 0 ≤ T.1.toInt → mP b base L0 O dy cm (cPaid b t3 c n T) (sPaid t3 c m S) ∧ ((cPaid b t3 c n T).1.toInt < t3.toInt ∧ 0 ≤ (cPaid b t3 c n T).1.toInt) ∧ (mF T S → mF (cPaid b t3 c n T) (sPaid t3 c m S))
  | 0, m, T, S, h, hn, hm, h5, h0 => by
    rw [cPaid_done (by omega), sPaid_done (by rw [← mNow_18 h.1]; omega)]
    exact ⟨h, ⟨by omega, h0⟩, fun z => z⟩
  | n + 1, m, T, S, h, hn, hm, h5, h0 => by
    by_cases cc : t3.toInt ≤ T.1.toInt
    · obtain ⟨g1, g2, g3⟩ := pay_same h hb hc0 hcb (by omega) h5
      cases m with
      | zero => omega
      | succ m =>
        rw [cPaid_more cc, show sPaid t3 c (m + 1) S = sPaid t3 c m (sPay c S) from if_pos (by rw [← mNow_18 h.1]; exact cc)]
        obtain ⟨k1, k2, k3⟩ := paid_same hb hc0 hcb ht n m _ _ g1 (by omega) (by omega) (by omega) (by omega)
        exact ⟨k1, k2, fun z => k3 (g3 z)⟩
    · rw [cPaid_done (by omega), sPaid_done (by rw [← mNow_18 h.1]; omega)]
      exact ⟨h, ⟨by omega, h0⟩, fun z => z⟩
/-- one has come in -/
theorem come_now {b c bu : Int32} {P O : List Int32} {dy cm op : Int32} {Wh Mu N : List Int32} (h : mNow b P O dy cm op Wh Mu N) (hb : b.toInt ≤ 8) (hc0 : 0 ≤ c.toInt) (hcb : c.toInt < b.toInt) (h0 : 0 ≤ op.toInt) (h4 : op.toInt ≤ 4) (hO : O.length = 8) (hW : Wh.length = 5) (hM : Mu.length = 5) (hN : N.length = 31) : mNow b P (O.set c.toNatClampNeg (O.getD c.toNatClampNeg 0 + 1)) dy (cm + 1) (op + 1) (Wh.set op.toNatClampNeg c) (Mu.set op.toNatClampNeg bu) (sCome c bu N) ∧ (sCome c bu N).length = 31 ∧ (op + 1).toInt = op.toInt + 1 := by
  obtain ⟨g1, g2, g3, g4, g5, g6⟩ := h
  have k18 : (18 : Int32).toNatClampNeg = 18 := by decide
  have k9 : (9 : Int32).toNatClampNeg = 9 := by decide
  have tc := Int32.toNat_toInt c
  have to := Int32.toNat_toInt op
  have e1 : (op + 1).toInt = op.toInt + 1 := by
    have := kd_add (x := op) (y := 1) (by rw [(by decide : (1 : Int32).toInt = 1)]; omega) (by rw [(by decide : (1 : Int32).toInt = 1)]; omega)
    rw [this, (by decide : (1 : Int32).toInt = 1)]
  have i1 : (19 + op).toNatClampNeg = 19 + op.toNatClampNeg := by
    have e : (19 + op).toInt = (19 : Int32).toInt + op.toInt := kd_add (by rw [(by decide : (19 : Int32).toInt = 19)]; omega) (by rw [(by decide : (19 : Int32).toInt = 19)]; omega)
    rw [(by decide : (19 : Int32).toInt = 19)] at e
    have := Int32.toNat_toInt (19 + op)
    omega
  have i2 : (25 + op).toNatClampNeg = 25 + op.toNatClampNeg := by
    have e : (25 + op).toInt = (25 : Int32).toInt + op.toInt := kd_add (by rw [(by decide : (25 : Int32).toInt = 25)]; omega) (by rw [(by decide : (25 : Int32).toInt = 25)]; omega)
    rw [(by decide : (25 : Int32).toInt = 25)] at e
    have := Int32.toNat_toInt (25 + op)
    omega
  have i3 : (10 + c).toNatClampNeg = 10 + c.toNatClampNeg := by
    have e : (10 + c).toInt = (10 : Int32).toInt + c.toInt := kd_add (by rw [(by decide : (10 : Int32).toInt = 10)]; omega) (by rw [(by decide : (10 : Int32).toInt = 10)]; omega)
    rw [(by decide : (10 : Int32).toInt = 10)] at e
    have := Int32.toNat_toInt (10 + c)
    omega
  -- the five stores
  have s1 : sC1 c N = N.set (19 + op.toNatClampNeg) c := by unfold sC1; rw [k18, ← g5, i1]
  have f1 : (N.set (19 + op.toNatClampNeg) c).getD 18 0 = op := by rw [kset_gI (by omega), if_neg (by omega), ← g5]
  have s2 : sC2 bu (sC1 c N) = (N.set (19 + op.toNatClampNeg) c).set (25 + op.toNatClampNeg) bu := by rw [s1]; unfold sC2; rw [k18, f1, i2]
  have f2 : ((N.set (19 + op.toNatClampNeg) c).set (25 + op.toNatClampNeg) bu).getD 18 0 = op := by rw [kset_gI (by rw [List.length_set]; omega), if_neg (by omega), f1]
  have s3 : sC3 (sC2 bu (sC1 c N)) = ((N.set (19 + op.toNatClampNeg) c).set (25 + op.toNatClampNeg) bu).set 18 (op + 1) := by rw [s2]; unfold sC3; rw [k18, f2]
  have f3 : (((N.set (19 + op.toNatClampNeg) c).set (25 + op.toNatClampNeg) bu).set 18 (op + 1)).getD 9 0 = cm := by
    rw [kset_gI (by rw [List.length_set, List.length_set]; omega), if_neg (by omega), kset_gI (by rw [List.length_set]; omega), if_neg (by omega), kset_gI (by omega), if_neg (by omega), ← g3]
  have s4 : sC4 (sC3 (sC2 bu (sC1 c N))) = (((N.set (19 + op.toNatClampNeg) c).set (25 + op.toNatClampNeg) bu).set 18 (op + 1)).set 9 (cm + 1) := by rw [s3]; unfold sC4; rw [k9, f3]
  have f4 : ((((N.set (19 + op.toNatClampNeg) c).set (25 + op.toNatClampNeg) bu).set 18 (op + 1)).set 9 (cm + 1)).getD (10 + c.toNatClampNeg) 0 = O.getD c.toNatClampNeg 0 := by
    rw [kset_gI (by rw [List.length_set, List.length_set, List.length_set]; omega), if_neg (by omega), kset_gI (by rw [List.length_set, List.length_set]; omega), if_neg (by omega), kset_gI (by rw [List.length_set]; omega), if_neg (by omega), kset_gI (by omega), if_neg (by omega), g4 _ (by omega)]
  have s5 : sCome c bu N = ((((N.set (19 + op.toNatClampNeg) c).set (25 + op.toNatClampNeg) bu).set 18 (op + 1)).set 9 (cm + 1)).set (10 + c.toNatClampNeg) (O.getD c.toNatClampNeg 0 + 1) := by
    unfold sCome
    rw [s4]
    unfold sC5
    rw [i3, f4]
  have G : ∀ j : Nat, (sCome c bu N).getD j 0 = if j = 10 + c.toNatClampNeg then O.getD c.toNatClampNeg 0 + 1 else if j = 9 then cm + 1 else if j = 18 then op + 1 else if j = 25 + op.toNatClampNeg then bu else if j = 19 + op.toNatClampNeg then c else N.getD j 0 := fun j => by
    rw [s5, kset_gI (by rw [List.length_set, List.length_set, List.length_set, List.length_set]; omega), kset_gI (by rw [List.length_set, List.length_set, List.length_set]; omega), kset_gI (by rw [List.length_set, List.length_set]; omega), kset_gI (by rw [List.length_set]; omega), kset_gI (by omega)]
  refine ⟨⟨fun j hj => ?_, ?_, ?_, fun j hj => ?_, ?_, fun j hj => ?_⟩, by rw [s5, List.length_set, List.length_set, List.length_set, List.length_set, List.length_set]; exact hN, e1⟩
  · rw [G j, if_neg (by omega), if_neg (by omega), if_neg (by omega), if_neg (by omega), if_neg (by omega)]; exact g1 j hj
  · rw [G 8, if_neg (by omega), if_neg (by omega), if_neg (by omega), if_neg (by omega), if_neg (by omega)]; exact g2
  · rw [G 9, if_neg (by omega), if_pos rfl]
  · rw [G (10 + j), kset_gI (by omega)]
    by_cases cj : j = c.toNatClampNeg
    · rw [if_pos cj, if_pos (by omega)]
    · rw [if_neg cj, if_neg (by omega), if_neg (by omega), if_neg (by omega), if_neg (by omega), if_neg (by omega)]; exact g4 j hj
  · rw [G 18, if_neg (by omega), if_neg (by omega), if_pos rfl]
  · rw [kset_gI (by omega), kset_gI (by omega), G (19 + j), G (25 + j)]
    by_cases cj : j = op.toNatClampNeg
    · rw [if_pos cj, if_pos cj, if_neg (by omega), if_neg (by omega), if_neg (by omega), if_neg (by omega), if_pos (by omega), if_neg (by omega), if_neg (by omega), if_neg (by omega), if_pos (by omega)]
      exact ⟨rfl, rfl, hc0, hcb⟩
    · rw [if_neg cj, if_neg cj, if_neg (by omega), if_neg (by omega), if_neg (by omega), if_neg (by omega), if_neg (by omega), if_neg (by omega), if_neg (by omega), if_neg (by omega), if_neg (by omega), if_neg (by omega)]
      exact g6 j (by omega)
/-- an evening -/
theorem sZ_get {M : List Int32} (hM : M.length = 31) : ∀ n : Nat, n ≤ 9 → (sZ n M).length = 31 ∧ ∀ j : Nat, (sZ n M).getD j 0 = if 9 ≤ j ∧ j < 9 + n then 0 else M.getD j 0
  | 0, _ => ⟨hM, fun j => by rw [if_neg (by omega)]; rfl⟩
  | n + 1, hn => by
    obtain ⟨hl, ih⟩ := sZ_get hM n (by omega)
    unfold sZ
    refine ⟨by rw [List.length_set]; exact hl, fun j => ?_⟩
    rw [kset_gI (by omega), ih j]
    by_cases c : j = 9 + n
    · rw [if_pos c, if_pos (by omega)]
    · rw [if_neg c]
      by_cases c2 : 9 ≤ j ∧ j < 9 + n
      · rw [if_pos c2, if_pos (by omega)]
      · rw [if_neg c2, if_neg (by omega)]
theorem ends_now {b : Int32} {P O : List Int32} {dy cm op : Int32} {Wh Mu N : List Int32} (h : mNow b P O dy cm op Wh Mu N) (hN : N.length = 31) : mNow b P (List.replicate 8 0) (sMn 99 (dy + 1)) 0 op Wh Mu (sEnds N) ∧ (sEnds N).length = 31 := by
  obtain ⟨g1, g2, g3, g4, g5, g6⟩ := h
  have k8 : (8 : Int32).toNatClampNeg = 8 := by decide
  obtain ⟨hl, hg⟩ := sZ_get (M := N.set 8 (sMn 99 (N.getD 8 0 + 1))) (by rw [List.length_set]; exact hN) 9 (Nat.le_refl _)
  have e : sEnds N = sZ 9 (N.set 8 (sMn 99 (N.getD 8 0 + 1))) := by unfold sEnds; rw [k8]
  rw [e]
  have G : ∀ j : Nat, (sZ 9 (N.set 8 (sMn 99 (N.getD 8 0 + 1)))).getD j 0 = if 9 ≤ j ∧ j < 18 then 0 else if j = 8 then sMn 99 (N.getD 8 0 + 1) else N.getD j 0 := fun j => by
    rw [hg j, kset_gI (by omega)]
  refine ⟨⟨fun j hj => ?_, ?_, ?_, fun j hj => ?_, ?_, fun j hj => ?_⟩, hl⟩
  · rw [G j, if_neg (by omega), if_neg (by omega)]; exact g1 j hj
  · rw [G 8, if_neg (by omega), if_pos rfl, ← g2]
  · rw [G 9, if_pos (by omega)]
  · rw [G (10 + j), if_pos (by omega), List.getD_eq_getElem?_getD, List.getElem?_replicate]
    by_cases c : j < 8
    · rw [if_pos c]; rfl
    · rw [if_neg c]; rfl
  · rw [G 18, if_neg (by omega), if_neg (by omega)]; exact g5
  · rw [G (19 + j), G (25 + j), if_neg (by omega), if_neg (by omega), if_neg (by omega), if_neg (by omega)]
    exact g6 j hj
/-- a gift; any purses set alike -/
theorem gift_now {b c d v : Int32} {P O : List Int32} {dy cm op : Int32} {Wh Mu N : List Int32} (h : mNow b P O dy cm op Wh Mu N) (hb : b.toInt ≤ 8) (hc : 0 ≤ c.toInt ∧ c.toInt < b.toInt) (hd : 0 ≤ d.toInt ∧ d.toInt < b.toInt) (hP : P.length = 8) (hN : N.length = 31) : mNow b ((P.set c.toNatClampNeg (P.getD c.toNatClampNeg 0 - v)).set d.toNatClampNeg (sMn 999 ((P.set c.toNatClampNeg (P.getD c.toNatClampNeg 0 - v)).getD d.toNatClampNeg 0 + v))) O dy cm op Wh Mu ((N.set c.toNatClampNeg (N.getD c.toNatClampNeg 0 - v)).set d.toNatClampNeg (sMn 999 ((N.set c.toNatClampNeg (N.getD c.toNatClampNeg 0 - v)).getD d.toNatClampNeg 0 + v))) := by
  have tc := Int32.toNat_toInt c
  have td := Int32.toNat_toInt d
  obtain ⟨g1, g2⟩ := mGive (k := 0) (P := P) (N := N) (w := c.toNatClampNeg) (c := d.toNatClampNeg) (x := v) (y := v) hP hN (by omega) (by omega) h.1 rfl
  exact mNow_N h g1 g2
/-! THE LAW'S VALUE: one function for both -/
def kBuy (told : Int32) (LV : List Int32 → Int32) (w pu h c o d : Int32) : Int32 := sMx 0 (sMn 99 (if told.toInt = 0 then 5 * w + h - 2 * o else LV [w, pu, h, c, o, d]))
/-- the class's law says LV, whatever lies on its stack -/
def kLv (LV : List Int32 → Int32) (st wi : List Int32) (len : Int32) : Prop := ∀ (stk : List Int32) (w pu h c o d : Int32), stk.length = 121 → lRun st wi [w, pu, h, c, o, d] len 121 0 (stk, 0) = LV [w, pu, h, c, o, d]
theorem kBuy_c {told : Int32} {LV : List Int32 → Int32} {st wi stk : List Int32} {len w pu h c o d : Int32} (H : told.toInt ≠ 0 → kLv LV st wi len) (hs : stk.length = 121) : cBuyV told st wi stk len w pu h c o d = kBuy told LV w pu h c o d := by
  unfold cBuyV kBuy
  by_cases c0 : told.toInt = 0
  · rw [if_pos c0, if_pos c0]
  · rw [if_neg c0, if_neg c0, H c0 stk w pu h c o d hs]
theorem kBuy_r {told : Int32} {as sy en L : List Int32} {ln : Int32} {w pu h c o d : Int32} : rBuyV told (wLaw as sy en L [w, pu, h, c, o, d] ln.toInt.toNat 0) w h o = kBuy told (fun nm => wLaw as sy en L nm ln.toInt.toNat 0) w pu h c o d := rfl

