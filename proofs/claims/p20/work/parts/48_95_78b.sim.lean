section SIM
variable {t : List Int32} {n : Int32}
def OpR (o : Int32 → Bool) (q : Int32 → Int32) : Prop := ∀ x : Int32, (o x = true → 0 ≤ x.toInt ∧ 6 ≤ (q x).toInt ∧ (q x).toInt ≤ 15 ∧ x = eSt (q x) ∧ 0 = eWi (q x)) ∧ (o x = false → (q x).toInt < 0)
theorem kv42 {x : Int32} {b : Int32} (h : x.toInt = b.toInt) : x = b := Int32.toInt_inj.mp h
theorem opR_mul : OpR oMul opMul := fun x => by
  refine ⟨fun h => ?_, fun h => ?_⟩
  · rcases of_decide_eq_true h with h | h | h
    · have e : x = 42 := kv42 (h.trans (by decide)); subst e; decide
    · have e : x = 47 := kv42 (h.trans (by decide)); subst e; decide
    · have e : x = 37 := kv42 (h.trans (by decide)); subst e; decide
  · have h := of_decide_eq_false h
    unfold opMul
    rw [if_neg (fun z => h (Or.inl z)), if_neg (fun z => h (Or.inr (Or.inl z))), if_neg (fun z => h (Or.inr (Or.inr z)))]
    decide
theorem opR_sum : OpR oSum opSum := fun x => by
  refine ⟨fun h => ?_, fun h => ?_⟩
  · rcases of_decide_eq_true h with h | h
    · have e : x = 43 := kv42 (h.trans (by decide)); subst e; decide
    · have e : x = 45 := kv42 (h.trans (by decide)); subst e; decide
  · have h := of_decide_eq_false h
    unfold opSum
    rw [if_neg (fun z => h (Or.inl z)), if_neg (fun z => h (Or.inr z))]
    decide
theorem opR_cmp : OpR oCmp opCmp := fun x => by
  refine ⟨fun h => ?_, fun h => ?_⟩
  · rcases of_decide_eq_true h with h | h | h
    · have e : x = 60 := kv42 (h.trans (by decide)); subst e; decide
    · have e : x = 61 := kv42 (h.trans (by decide)); subst e; decide
    · have e : x = 62 := kv42 (h.trans (by decide)); subst e; decide
  · have h := of_decide_eq_false h
    unfold opCmp
    rw [if_neg (fun z => h (Or.inl z)), if_neg (fun z => h (Or.inr (Or.inl z))), if_neg (fun z => h (Or.inr (Or.inr z)))]
    decide
theorem cOf_t {o : Int32 → Bool} {S : cS} (h : o (cHr t n S.1 S.2.1) = true) : cOf t n o S = (cHr t n S.1 S.2.1, cAt1 S) := by
  unfold cOf cOfP
  rw [if_pos h]
  rfl
theorem cOf_f {o : Int32 → Bool} {S : cS} (h : o (cHr t n S.1 S.2.1) = false) : cOf t n o S = (-1, S) := by
  unfold cOf cOfP
  rw [if_neg (by rw [h]; exact Bool.false_ne_true)]
theorem cTk_t {c : Int32} {S : cS} (h : (cHr t n S.1 S.2.1).toInt = c.toInt) : cTk t n c S = (1, cAt1 S) := by
  unfold cTk cTkP
  rw [if_pos h]
  rfl
theorem cTk_f {c : Int32} {S : cS} (h : ¬ ((cHr t n S.1 S.2.1).toInt = c.toInt)) : cTk t n c S = (0, S) := by
  unfold cTk cTkP
  rw [if_neg h]
theorem rTk_t {c : Int32} {Z : rS} (h : (rHr t n Z).toInt = c.toInt) : rTk t n c Z = (1, rAt1 Z) := by
  have h : (cHr t n Z.1 0).toInt = c.toInt := h
  unfold rTk cTkP
  rw [if_pos h]
  rfl
theorem rTk_f {c : Int32} {Z : rS} (h : ¬ ((rHr t n Z).toInt = c.toInt)) : rTk t n c Z = (0, Z) := by
  have h : ¬ ((cHr t n Z.1 0).toInt = c.toInt) := h
  unfold rTk cTkP
  rw [if_neg h]
theorem sI_hr {S : cS} {Z : rS} (h : sI n S Z) : rHr t n Z = cHr t n S.1 S.2.1 := by
  unfold rHr
  rw [← h.1]
  exact (cHr_0 h.2.1).symm
theorem opR_m1 {o : Int32 → Bool} {q : Int32 → Int32} (ho : OpR o q) : o (-1) = false := by
  cases e : o (-1) with
  | false => rfl
  | true => exact absurd ((ho (-1)).1 e).1 (by decide)
theorem cLpS_no (sub : cS → cS) (o : Int32 → Bool) (k : Nat) (S : cS) : cLpS t n sub o k (-1, S) = S := by
  cases k with
  | zero => rfl
  | succ k => exact if_pos (by decide : (-1 : Int32).toInt = -1)
theorem cLpS_b {sub : cS → cS} {o : Int32 → Bool} {q : Int32 → Int32} (ho : OpR o q) (k : Nat) {U : cS} (hb : U.2.1.toInt ≠ 0) : cLpS t n sub o k (cOf t n o U) = U := by
  rw [cOf_f (by rw [cHr_1 hb]; exact opR_m1 ho), cLpS_no]
theorem sim_out {sub : cS → cS} {sub' : rS → Int32 × rS} {o : Int32 → Bool} {q : Int32 → Int32} (ho : OpR o q) {S : cS} {Z : rS} (k k' : Nat) {T : cS} {Y : rS} {d : List Int32} (h : sG n S Z T Y d) (e : o (cHr t n T.1 T.2.1) = false) : sR n S Z (cLpS t n sub o k (cOf t n o T)) (rLpS t n sub' q k' Y) := by
  have hx := sI_hr (t := t) h.1
  have e2 : rLpS t n sub' q k' Y = (1, Y) := by
    cases k' with
    | zero => rfl
    | succ k' =>
      unfold rLpS
      rw [hx, if_pos ((ho _).2 e)]
  rw [cOf_f e, cLpS_no, e2]
  exact Or.inr ⟨(by decide : ¬ ((1 : Int32).toInt = 0)), d, h⟩
theorem sim_loop {sub : cS → cS} {sub' : rS → Int32 × rS} {o : Int32 → Bool} {q : Int32 → Int32} (hn : n.toInt ≤ 120) (ho : OpR o q) (hs : Sim n sub sub') {S : cS} {Z : rS} (hS : sI n S Z) (k : Nat) : ∀ (k' : Nat) (T : cS) (Y : rS) (d : List Int32), sG n S Z T Y d → (n.toInt - T.1.toInt).toNat ≤ k → (n.toInt - T.1.toInt).toNat ≤ k' → sR n S Z (cLpS t n sub o k (cOf t n o T)) (rLpS t n sub' q k' Y) := by
  induction k with
  | zero =>
    intro k' T Y d h hk hk'
    cases e : o (cHr t n T.1 T.2.1) with
    | false => exact sim_out ho _ _ h e
    | true =>
      have hp := (cHr_at ((ho _).1 e).1).2
      omega
  | succ k ih =>
    intro k' T Y d h hk hk'
    cases e : o (cHr t n T.1 T.2.1) with
    | false => exact sim_out ho _ _ h e
    | true =>
      obtain ⟨hx0, q6, q15, es, ew⟩ := (ho _).1 e
      have hp := (cHr_at hx0).2
      have hx := sI_hr (t := t) h.1
      cases k' with
      | zero => omega
      | succ k' =>
        have e1 : cLpS t n sub o (k + 1) (cHr t n T.1 T.2.1, cAt1 T) = (if (cHr t n T.1 T.2.1).toInt = -1 then cAt1 T else cLpS t n sub o k (cOf t n o (cAdd (cHr t n T.1 T.2.1) 0 (sub (cAt1 T))))) := rfl
        have e2 : rLpS t n sub' q (k' + 1) Y = (if (q (rHr t n Y)).toInt < 0 then (1, Y) else if (sub' (rAt1 Y)).1.toInt = 0 then (0, (sub' (rAt1 Y)).2) else rLpS t n sub' q k' (rCod (q (rHr t n Y)) (sub' (rAt1 Y)).2)) := rfl
        rw [cOf_t e, e1, if_neg (by omega), e2, hx, if_neg (by omega)]
        rcases hs (cAt1 T) (rAt1 Y) (sI_step h.1 hp) with ⟨hz, hb⟩ | ⟨hnz, d2, hg⟩
        · rw [if_pos hz, cLpS_b ho k (U := cAdd (cHr t n T.1 T.2.1) 0 (sub (cAt1 T))) hb.2]
          exact Or.inl ⟨(by decide : (0 : Int32).toInt = 0), hb⟩
        · rw [if_neg hnz]
          have hu := (sG_at1 h.1.2.2.1.1 hp hg).2.2.1
          have hu1 : (cAdd (cHr t n T.1 T.2.1) 0 (sub (cAt1 T))).1 = (sub (cAt1 T)).1 := rfl
          exact ih k' _ _ _ (sG_bin hn hS h hp hg q6 q15 es ew) (by rw [hu1]; omega) (by rw [hu1]; omega)
theorem sim_mul {sub : cS → cS} {sub' : rS → Int32 × rS} {o : Int32 → Bool} {q : Int32 → Int32} (hn : n.toInt ≤ 120) (ho : OpR o q) (hs : Sim n sub sub') : Sim n (cMul t n sub o) (rMul t n sub' q) := fun S Z hS => by
  unfold cMul rMul
  rcases hs S Z hS with ⟨hz, hb⟩ | ⟨hnz, d, hg⟩
  · rw [if_pos hz, cLpS_b ho _ hb.2]
    exact Or.inl ⟨(by decide : (0 : Int32).toInt = 0), hb⟩
  · rw [if_neg hnz]
    have := hg.1.2.2.1.1
    exact sim_loop hn ho hs hS _ _ _ _ d hg (by omega) (by omega)
theorem sim_cmp {sub : cS → cS} {sub' : rS → Int32 × rS} {o : Int32 → Bool} {q : Int32 → Int32} (hn : n.toInt ≤ 120) (ho : OpR o q) (hs : Sim n sub sub') : Sim n (cCmp t n sub o) (rCmp t n sub' q) := fun S Z hS => by
  unfold cCmp rCmp
  rcases hs S Z hS with ⟨hz, hb⟩ | ⟨hnz, d, hg⟩
  · rw [if_pos hz, cOf_f (by rw [cHr_1 hb.2]; exact opR_m1 ho), if_pos (by decide : (-1 : Int32).toInt = -1)]
    exact Or.inl ⟨(by decide : (0 : Int32).toInt = 0), hb⟩
  · have hx := sI_hr (t := t) hg.1
    rw [if_neg hnz, hx]
    cases e : o (cHr t n (sub S).1 (sub S).2.1) with
    | false =>
      rw [cOf_f e, if_pos (by decide : (-1 : Int32).toInt = -1), if_pos ((ho _).2 e)]
      exact Or.inr ⟨(by decide : ¬ ((1 : Int32).toInt = 0)), d, hg⟩
    | true =>
      obtain ⟨hx0, q6, q15, es, ew⟩ := (ho _).1 e
      have hp := (cHr_at hx0).2
      rw [cOf_t e]
      dsimp only
      rw [if_neg (by omega), if_neg (by omega)]
      unfold rCm2
      rcases hs (cAt1 (sub S)) (rAt1 (sub' Z).2) (sI_step hg.1 hp) with ⟨hz, hb⟩ | ⟨hnz2, d2, hg2⟩
      · rw [if_pos hz]
        exact Or.inl ⟨(by decide : (0 : Int32).toInt = 0), hb⟩
      · rw [if_neg hnz2]
        exact Or.inr ⟨(by decide : ¬ ((1 : Int32).toInt = 0)), _, sG_bin hn hS hg hp hg2 q6 q15 es ew⟩
theorem cLpB_b {sub : cS → cS} {c : Int32} (hc : 0 ≤ c.toInt) (k : Nat) {U : cS} (hb : U.2.1.toInt ≠ 0) : cLpB t n sub c k U = U := by
  cases k with
  | zero => rfl
  | succ k =>
    have k1 : (-1 : Int32).toInt = -1 := by decide
    have e1 : cLpB t n sub c (k + 1) U = (if (cTk t n c U).1.toInt = 0 then (cTk t n c U).2 else cLpB t n sub c k (cAdd c 0 (sub (cTk t n c U).2))) := rfl
    rw [e1, cTk_f (by rw [cHr_1 hb]; omega)]
    exact if_pos (by decide : (0 : Int32).toInt = 0)
theorem sim_outB {sub : cS → cS} {sub' : rS → Int32 × rS} {c x : Int32} {S : cS} {Z : rS} (k k' : Nat) {T : cS} {Y : rS} {d : List Int32} (h : sG n S Z T Y d) (e : ¬ ((cHr t n T.1 T.2.1).toInt = c.toInt)) : sR n S Z (cLpB t n sub c k T) (rLpB t n sub' c x k' Y) := by
  have hx := sI_hr (t := t) h.1
  have e1 : cLpB t n sub c k T = T := by
    cases k with
    | zero => rfl
    | succ k =>
      unfold cLpB
      rw [cTk_f e]
      exact if_pos (by decide : (0 : Int32).toInt = 0)
  have e2 : rLpB t n sub' c x k' Y = (1, Y) := by
    cases k' with
    | zero => rfl
    | succ k' =>
      unfold rLpB
      rw [rTk_f (by rw [hx]; exact e)]
      exact if_pos (by decide : (0 : Int32).toInt = 0)
  rw [e1, e2]
  exact Or.inr ⟨(by decide : ¬ ((1 : Int32).toInt = 0)), d, h⟩
theorem sim_loopB {sub : cS → cS} {sub' : rS → Int32 × rS} {c x : Int32} (hn : n.toInt ≤ 120) (hc : 0 ≤ c.toInt) (h6 : 6 ≤ x.toInt) (h15 : x.toInt ≤ 15) (es : c = eSt x) (ew : 0 = eWi x) (hs : Sim n sub sub') {S : cS} {Z : rS} (hS : sI n S Z) (k : Nat) : ∀ (k' : Nat) (T : cS) (Y : rS) (d : List Int32), sG n S Z T Y d → (n.toInt - T.1.toInt).toNat ≤ k → (n.toInt - T.1.toInt).toNat ≤ k' → sR n S Z (cLpB t n sub c k T) (rLpB t n sub' c x k' Y) := by
  induction k with
  | zero =>
    intro k' T Y d h hk hk'
    by_cases e : (cHr t n T.1 T.2.1).toInt = c.toInt
    · have hp := (cHr_at (by rw [e]; exact hc)).2
      omega
    · exact sim_outB _ _ h e
  | succ k ih =>
    intro k' T Y d h hk hk'
    by_cases e : (cHr t n T.1 T.2.1).toInt = c.toInt
    · have hp := (cHr_at (by rw [e]; exact hc)).2
      have hx := sI_hr (t := t) h.1
      cases k' with
      | zero => omega
      | succ k' =>
        have e1 : cLpB t n sub c (k + 1) T = (if (cTk t n c T).1.toInt = 0 then (cTk t n c T).2 else cLpB t n sub c k (cAdd c 0 (sub (cTk t n c T).2))) := rfl
        have e2 : rLpB t n sub' c x (k' + 1) Y = (if (rTk t n c Y).1.toInt = 0 then (1, (rTk t n c Y).2) else if (sub' (rTk t n c Y).2).1.toInt = 0 then (0, (sub' (rTk t n c Y).2).2) else rLpB t n sub' c x k' (rCod x (sub' (rTk t n c Y).2).2)) := rfl
        rw [e1, e2, cTk_t e, rTk_t (by rw [hx]; exact e), if_neg (by decide : ¬ ((1 : Int32).toInt = 0)), if_neg (by decide : ¬ ((1 : Int32).toInt = 0))]
        dsimp only
        rcases hs (cAt1 T) (rAt1 Y) (sI_step h.1 hp) with ⟨hz, hb⟩ | ⟨hnz, d2, hg⟩
        · rw [if_pos hz, cLpB_b hc k (U := cAdd c 0 (sub (cAt1 T))) hb.2]
          exact Or.inl ⟨(by decide : (0 : Int32).toInt = 0), hb⟩
        · rw [if_neg hnz]
          have hu := (sG_at1 h.1.2.2.1.1 hp hg).2.2.1
          have hu1 : (cAdd c 0 (sub (cAt1 T))).1 = (sub (cAt1 T)).1 := rfl
          exact ih k' _ _ _ (sG_bin hn hS h hp hg h6 h15 es ew) (by rw [hu1]; omega) (by rw [hu1]; omega)
    · exact sim_outB _ _ h e
theorem sim_bin {sub : cS → cS} {sub' : rS → Int32 × rS} {c x : Int32} (hn : n.toInt ≤ 120) (hc : 0 ≤ c.toInt) (h6 : 6 ≤ x.toInt) (h15 : x.toInt ≤ 15) (es : c = eSt x) (ew : 0 = eWi x) (hs : Sim n sub sub') : Sim n (cBin t n sub c) (rBin t n sub' c x) := fun S Z hS => by
  unfold cBin rBin
  rcases hs S Z hS with ⟨hz, hb⟩ | ⟨hnz, d, hg⟩
  · rw [if_pos hz, cLpB_b hc _ hb.2]
    exact Or.inl ⟨(by decide : (0 : Int32).toInt = 0), hb⟩
  · rw [if_neg hnz]
    have := hg.1.2.2.1.1
    exact sim_loopB hn hc h6 h15 es ew hs hS _ _ _ _ d hg (by omega) (by omega)
theorem sim_eit {sub : cS → cS} {sub' : rS → Int32 × rS} (hn : n.toInt ≤ 120) (hs : Sim n sub sub') : Sim n (cEit t n sub) (rEit t n sub') :=
  sim_bin hn (by decide) (by decide) (by decide) (by decide) (by decide) (sim_bin hn (by decide) (by decide) (by decide) (by decide) (by decide) (sim_cmp hn opR_cmp (sim_mul hn opR_sum (sim_mul hn opR_mul hs))))
/-! numbers -/
theorem cDig_eq : ∀ (k : Nat) (v : Int32) (S : cS), S.2.1.toInt = 0 → cDig t n k (v, S) = ((rDig t n k (v, S.1)).1, ((rDig t n k (v, S.1)).2, S.2))
  | 0, v, S, _ => rfl
  | k + 1, v, S, h => by
    have e1 : cDig t n (k + 1) (v, S) = (if 48 ≤ (cHr t n S.1 S.2.1).toInt ∧ (cHr t n S.1 S.2.1).toInt ≤ 57 then cDig t n k (((v * 10) + cHr t n S.1 S.2.1) - 48, cAt1 S) else (v, S)) := rfl
    have e2 : rDig t n (k + 1) (v, S.1) = (if 48 ≤ (cHr t n S.1 0).toInt ∧ (cHr t n S.1 0).toInt ≤ 57 then rDig t n k (((10 * v) + cHr t n S.1 0) - 48, S.1 + 1) else (v, S.1)) := rfl
    rw [e1, e2, cHr_0 h]
    by_cases hd : 48 ≤ (cHr t n S.1 0).toInt ∧ (cHr t n S.1 0).toInt ≤ 57
    · rw [if_pos hd, if_pos hd, Int32.mul_comm v 10]
      exact cDig_eq k _ (cAt1 S) h
    · rw [if_neg hd, if_neg hd]
theorem ten_pos : ∀ k : Nat, (1 : Int) ≤ 10 ^ k
  | 0 => by decide
  | k + 1 => by
    have := ten_pos k
    rw [Int.pow_succ]
    omega
theorem rDig_rng (hn : n.toInt ≤ 120) : ∀ (k : Nat) (v p : Int32) (B : Int), 0 ≤ v.toInt → v.toInt < B → B * 10 ^ k ≤ 10000 → 0 ≤ p.toInt → p.toInt ≤ n.toInt → (0 ≤ (rDig t n k (v, p)).1.toInt ∧ (rDig t n k (v, p)).1.toInt < 10000) ∧ p.toInt ≤ (rDig t n k (v, p)).2.toInt ∧ (rDig t n k (v, p)).2.toInt ≤ n.toInt
  | 0, v, p, B, h0, h1, h2, h3, h4 => by
    have h2 : B * 1 ≤ 10000 := h2
    exact ⟨⟨h0, by show v.toInt < 10000; omega⟩, Int.le_refl _, h4⟩
  | k + 1, v, p, B, h0, h1, h2, h3, h4 => by
    have e2 : rDig t n (k + 1) (v, p) = (if 48 ≤ (cHr t n p 0).toInt ∧ (cHr t n p 0).toInt ≤ 57 then rDig t n k (((10 * v) + cHr t n p 0) - 48, p + 1) else (v, p)) := rfl
    have hB : B ≤ 10000 := by
      have hp : (1 : Int) ≤ 10 ^ (k + 1) := ten_pos _
      have := Int.mul_le_mul_of_nonneg_left hp (by omega : 0 ≤ B)
      omega
    rw [e2]
    by_cases hd : 48 ≤ (cHr t n p 0).toInt ∧ (cHr t n p 0).toInt ≤ 57
    · rw [if_pos hd]
      have hp := (cHr_at (t := t) (n := n) (p := p) (f := 0) (by omega)).2
      have ep := kp1 h3 hp
      have k10 : (10 : Int32).toInt = 10 := by decide
      have k48 : (48 : Int32).toInt = 48 := by decide
      have hpw : B * 10 ^ (k + 1) = 10 * B * 10 ^ k := by rw [Int.pow_succ]; rw [Int.mul_comm (10 ^ k) 10, ← Int.mul_assoc, Int.mul_comm B 10]
      have hB2 : 10 * B ≤ 10000 := by
        have hp : (1 : Int) ≤ 10 ^ k := ten_pos _
        have := Int.mul_le_mul_of_nonneg_left hp (by omega : 0 ≤ 10 * B)
        omega
      have m1 : (10 * v).toInt = 10 * v.toInt := kd_cmul 10 k10 (by omega) (by omega)
      have m2 : ((10 * v) + cHr t n p 0).toInt = (10 * v).toInt + (cHr t n p 0).toInt := kd_add (by omega) (by omega)
      have m3 : (((10 * v) + cHr t n p 0) - 48).toInt = ((10 * v) + cHr t n p 0).toInt - (48 : Int32).toInt := kd_sub (by omega) (by omega)
      obtain ⟨a, b, c⟩ := rDig_rng hn k (((10 * v) + cHr t n p 0) - 48) (p + 1) (10 * B) (by omega) (by omega) (by omega) (by omega) (by omega)
      exact ⟨a, by omega, c⟩
    · rw [if_neg hd]
      exact ⟨⟨h0, by show v.toInt < 10000; omega⟩, Int.le_refl _, h4⟩
theorem nam_t {x : Int32} (h : oNam x = true) : 0 ≤ x.toInt ∧ 0 ≤ (nmO x).toInt ∧ 1 = eSt (nmO x) ∧ nIdx x = eWi (nmO x) ∧ (nmO x).toInt ≤ 5 := by
  rcases of_decide_eq_true h with h | h | h | h | h | h
  · have e : x = 119 := kv42 (h.trans (by decide)); subst e; decide
  · have e : x = 112 := kv42 (h.trans (by decide)); subst e; decide
  · have e : x = 104 := kv42 (h.trans (by decide)); subst e; decide
  · have e : x = 110 := kv42 (h.trans (by decide)); subst e; decide
  · have e : x = 111 := kv42 (h.trans (by decide)); subst e; decide
  · have e : x = 100 := kv42 (h.trans (by decide)); subst e; decide
theorem nam_f {x : Int32} (h : oNam x = false) : (nmO x).toInt < 0 := by
  have h := of_decide_eq_false h
  unfold nmO
  rw [if_neg (by omega), if_neg (by omega), if_neg (by omega), if_neg (by omega), if_neg (by omega), if_neg (by omega)]
  decide
theorem sim_num {S : cS} {Z : rS} (hn : n.toInt ≤ 120) (hS : sI n S Z) (h0 : 48 ≤ (cHr t n S.1 S.2.1).toInt) (h1 : (cHr t n S.1 S.2.1).toInt ≤ 57) : ∃ d, sG n S Z (cNum t n S) (rCod (18 + (rDig t n 4 (0, Z.1)).1) ((rDig t n 4 (0, Z.1)).2, Z.2)) d := by
  have ec : cNum t n S = cAdd 0 (rDig t n 4 (0, S.1)).1 ((rDig t n 4 (0, S.1)).2, S.2) := by
    unfold cNum
    rw [cDig_eq 4 0 S hS.2.1]
  have h0' : 48 ≤ (cHr t n S.1 0).toInt := by rw [← cHr_0 hS.2.1]; exact h0
  have h1' : (cHr t n S.1 0).toInt ≤ 57 := by rw [← cHr_0 hS.2.1]; exact h1
  have hp := (cHr_at (t := t) (n := n) (p := S.1) (f := 0) (by omega)).2
  have k10 : (10 : Int32).toInt = 10 := by decide
  have k48 : (48 : Int32).toInt = 48 := by decide
  have k0 : (0 : Int32).toInt = 0 := by decide
  have k18 : (18 : Int32).toInt = 18 := by decide
  have hs0 := hS.2.2.1.1
  have e2 : rDig t n 4 (0, S.1) = rDig t n 3 (((10 * 0) + cHr t n S.1 0) - 48, S.1 + 1) := if_pos ⟨h0', h1'⟩
  have ep := kp1 hS.2.2.1.1 hp
  have m1 : ((10 : Int32) * 0).toInt = 0 := by decide
  have m2 : (((10 : Int32) * 0) + cHr t n S.1 0).toInt = ((10 : Int32) * 0).toInt + (cHr t n S.1 0).toInt := kd_add (by omega) (by omega)
  have m3 : ((((10 : Int32) * 0) + cHr t n S.1 0) - 48).toInt = (((10 : Int32) * 0) + cHr t n S.1 0).toInt - (48 : Int32).toInt := kd_sub (by omega) (by omega)
  obtain ⟨⟨a0, a1⟩, b, c⟩ := rDig_rng (t := t) hn 3 ((((10 : Int32) * 0) + cHr t n S.1 0) - 48) (S.1 + 1) 10 (by omega) (by omega) (by decide) (by omega) (by omega)
  rw [← e2] at a0 a1 b c
  rw [ec, ← hS.1]
  generalize hR : rDig t n 4 (0, S.1) = R at a0 a1 b c
  have m4 : (18 + R.1).toInt = (18 : Int32).toInt + R.1.toInt := kd_add (by omega) (by omega)
  have m5 : (18 + R.1 - 18).toInt = (18 + R.1).toInt - (18 : Int32).toInt := kd_sub (by omega) (by omega)
  obtain ⟨g1, g2, g3, g4, g5, g6⟩ := hS
  have hI : sI n (R.2, S.2) (R.2, Z.2) := ⟨rfl, g2, ⟨by show 0 ≤ R.2.toInt; omega, c⟩, ⟨g4.1, by show S.2.2.2.2.toInt ≤ R.2.toInt; omega⟩, ⟨g5.1, by show Z.2.1.toInt ≤ R.2.toInt; omega⟩, g6⟩
  have ho : (0 : Int32) = eSt (18 + R.1) := (if_pos (by omega)).symm
  have hw : R.1 = eWi (18 + R.1) := by
    unfold eWi
    rw [if_pos (by omega)]
    exact kj_v (by omega)
  obtain ⟨i1, c1, r1⟩ := sI_add hn hI (o := 0) (w := R.1) (x := 18 + R.1) (by show S.2.2.2.2.toInt + 1 ≤ R.2.toInt; omega) (by show Z.2.1.toInt + 1 ≤ R.2.toInt; omega) ho hw
  refine ⟨[18 + R.1], i1, ?_, ?_, c1, r1, dHt_push (Or.inl (by omega))⟩
  · show S.1.toInt + (1 : Nat) ≤ R.2.toInt
    omega
  · show S.1.toInt < R.2.toInt
    omega
theorem sim_un {S : cS} {Z : rS} {f : cS → cS} {g : rS → Int32 × rS} {o x : Int32} (hn : n.toInt ≤ 120) (hS : sI n S Z) (hp : S.1.toInt < n.toInt) (hs : Sim n f g) (hx : x.toInt = 16 ∨ x.toInt = 17) (ho : o = eSt x) (hw : 0 = eWi x) : sR n S Z (cAdd o 0 (f (cAt1 S))) (rCm2 x (g (rAt1 Z))) := by
  unfold rCm2
  rcases hs (cAt1 S) (rAt1 Z) (sI_step hS hp) with ⟨hz, hb⟩ | ⟨hnz, d, hg⟩
  · rw [if_pos hz]
    exact Or.inl ⟨(by decide : (0 : Int32).toInt = 0), hb⟩
  · rw [if_neg hnz]
    obtain ⟨b1, b2, b3, b4, b5, b6⟩ := sG_at1 hS.2.2.1.1 hp hg
    have hs1 := hS.2.2.2.1
    have hz1 := hS.2.2.2.2.1
    have l2 := b4.2.2.1
    have l4 := b5.2.1
    obtain ⟨i1, c1, r1⟩ := sI_add hn b1 (o := o) (w := 0) (x := x) (by omega) (by omega) ho hw
    have e1 : (cAdd o 0 (f (cAt1 S))).1 = (f (cAt1 S)).1 := rfl
    refine Or.inr ⟨(by decide : ¬ ((1 : Int32).toInt = 0)), d ++ [x], i1, ?_, ?_, cSeg_app hs1.1 b4 c1, rSeg_app hz1.1 b5 r1, dHt_un b6 hx⟩
    · rw [e1, List.length_append]
      simp
      omega
    · rw [e1]; omega
def nxR (n : Int32) (f : Option (cS → cS)) (g : Option (rS → Int32 × rS)) : Prop := (f = none ∧ g = none) ∨ ∃ f1 g1, f = some f1 ∧ g = some g1 ∧ Sim n f1 g1
theorem sim_par {S U : cS} {Z : rS} {V : Int32 × rS} (hS : sI n S Z) (hp : S.1.toInt < n.toInt) (hsim : sR n (cAt1 S) (rAt1 Z) U V) : sR n S Z (cEnd (cTk t n 41 U)) (rPar t n V) := by
  obtain ⟨v, Y⟩ := V
  rcases hsim with ⟨hz, hb⟩ | ⟨hnz, d, hg⟩
  · have e1 : cTk t n 41 U = (0, U) := cTk_f (by rw [cHr_1 hb.2]; decide)
    have e2 : rPar t n (v, Y) = (0, Y) := if_pos hz
    have e3 : cEnd (0, U) = cBad U := if_pos (by decide : (0 : Int32).toInt = 0)
    rw [e1, e2, e3]
    exact Or.inl ⟨(by decide : (0 : Int32).toInt = 0), hb.1, (by decide : (1 : Int32).toInt ≠ 0)⟩
  · have e2 : rPar t n (v, Y) = rTk t n 41 Y := if_neg hnz
    rw [e2]
    obtain ⟨b1, b2, b3, b4, b5, b6⟩ := sG_at1 hS.2.2.1.1 hp hg
    have b1 : sI n U Y := b1
    have hx2 := sI_hr (t := t) b1
    by_cases h41 : (cHr t n U.1 U.2.1).toInt = (41 : Int32).toInt
    · have hp2 := (cHr_at (by rw [h41]; decide)).2
      have ep2 := kp1 b1.2.2.1.1 hp2
      have e3 : cEnd (1, cAt1 U) = cAt1 U := if_neg (by decide : ¬ ((1 : Int32).toInt = 0))
      rw [cTk_t h41, rTk_t (by rw [hx2]; exact h41), e3]
      refine Or.inr ⟨(by decide : ¬ ((1 : Int32).toInt = 0)), d, sI_step b1 hp2, ?_, ?_, b4, b5, b6⟩
      · show S.1.toInt + d.length ≤ (U.1 + 1).toInt
        omega
      · show S.1.toInt < (U.1 + 1).toInt
        omega
    · have e3 : cEnd (0, U) = cBad U := if_pos (by decide : (0 : Int32).toInt = 0)
      rw [cTk_f h41, rTk_f (by rw [hx2]; exact h41), e3]
      exact Or.inl ⟨(by decide : (0 : Int32).toInt = 0), b1.1, (by decide : (1 : Int32).toInt ≠ 0)⟩
theorem sim_part {f : Option (cS → cS)} {g : Option (rS → Int32 × rS)} (hn : n.toInt ≤ 120) (hs : nxR n f g) : Sim n (cPart t n f) (rPart t n g) := fun S Z hS => by
  have hx := sI_hr (t := t) hS
  have k1 : (-1 : Int32).toInt = -1 := by decide
  unfold cPart rPart
  rw [hx]
  by_cases hd : 48 ≤ (cHr t n S.1 S.2.1).toInt ∧ (cHr t n S.1 S.2.1).toInt ≤ 57
  · rw [if_pos hd, if_pos hd]
    exact Or.inr ⟨(by decide : ¬ ((1 : Int32).toInt = 0)), sim_num hn hS hd.1 hd.2⟩
  · rw [if_neg hd, if_neg hd]
    cases e : oNam (cHr t n S.1 S.2.1) with
    | true =>
      obtain ⟨n0, n1, n2, n3, n4⟩ := nam_t e
      have hp := (cHr_at n0).2
      rw [cOf_t e]
      dsimp only
      rw [if_pos (by omega), if_pos n1]
      have hI := sI_step hS hp
      have ep := kp1 hS.2.2.1.1 hp
      have hs1 := hS.2.2.2.1
      have hz1 := hS.2.2.2.2.1
      obtain ⟨i1, c1, r1⟩ := sI_add hn hI (o := 1) (w := nIdx (cHr t n S.1 S.2.1)) (x := nmO (cHr t n S.1 S.2.1)) (by show S.2.2.2.2.toInt + 1 ≤ (S.1 + 1).toInt; omega) (by show Z.2.1.toInt + 1 ≤ (S.1 + 1).toInt; omega) n2 n3
      refine Or.inr ⟨(by decide : ¬ ((1 : Int32).toInt = 0)), [nmO (cHr t n S.1 S.2.1)], i1, ?_, ?_, c1, r1, dHt_push (Or.inr ⟨n1, n4⟩)⟩
      · show S.1.toInt + (1 : Nat) ≤ (S.1 + 1).toInt
        omega
      · show S.1.toInt < (S.1 + 1).toInt
        omega
    | false =>
      have hm := nam_f e
      have hA : ¬ ((cOf t n oNam S).1.toInt ≠ -1) := by rw [cOf_f e]; exact fun z => z k1
      have hB : ¬ (0 ≤ (nmO (cHr t n S.1 S.2.1)).toInt) := by omega
      rw [if_neg hA, if_neg hB]
      rcases hs with ⟨hf, hg⟩ | ⟨f1, g1, hf, hg, hs⟩
      · subst hf
        subst hg
        exact Or.inl ⟨(by decide : (0 : Int32).toInt = 0), hS.1, (by decide : (1 : Int32).toInt ≠ 0)⟩
      · subst hf
        subst hg
        dsimp only
        cases e2 : oOpn (cHr t n S.1 S.2.1) with
        | false =>
          have h2 := of_decide_eq_false e2
          have hC : (cOf t n oOpn S).1.toInt = -1 := by rw [cOf_f e2]; exact k1
          have h40 : ¬ ((cHr t n S.1 S.2.1).toInt = 40) := fun z => h2 (Or.inl z)
          have h33 : ¬ ((cHr t n S.1 S.2.1).toInt = 33) := fun z => h2 (Or.inr (Or.inl z))
          have h45 : ¬ ((cHr t n S.1 S.2.1).toInt = 45) := fun z => h2 (Or.inr (Or.inr z))
          rw [if_pos hC, if_neg h33, if_neg h45, if_neg h40]
          exact Or.inl ⟨(by decide : (0 : Int32).toInt = 0), hS.1, (by decide : (1 : Int32).toInt ≠ 0)⟩
        | true =>
          have h2 := of_decide_eq_true e2
          have hp := (cHr_at (t := t) (n := n) (p := S.1) (f := S.2.1) (by omega)).2
          have hE : (cOf t n oOpn S).1 = cHr t n S.1 S.2.1 := by rw [cOf_t e2]
          have hF : (cOf t n oOpn S).2 = cAt1 S := by rw [cOf_t e2]
          rw [hE, hF]
          have hC : ¬ ((cHr t n S.1 S.2.1).toInt = -1) := by omega
          rw [if_neg hC]
          rcases h2 with h2 | h2 | h2
          · have h33 : ¬ ((cHr t n S.1 S.2.1).toInt = 33) := by omega
            have h45 : ¬ ((cHr t n S.1 S.2.1).toInt = 45) := by omega
            rw [if_neg h33, if_pos h2, if_pos h2, if_neg h45]
            have hsim := sim_eit (t := t) hn hs (cAt1 S) (rAt1 Z) (sI_step hS hp)
            generalize cEit t n f1 (cAt1 S) = U at hsim ⊢
            generalize rEit t n g1 (rAt1 Z) = V at hsim ⊢
            exact sim_par hS hp hsim
          · have ex : cHr t n S.1 S.2.1 = 33 := kv42 (h2.trans (by decide))
            have h40 : ¬ ((cHr t n S.1 S.2.1).toInt = 40) := by omega
            have h45 : ¬ ((cHr t n S.1 S.2.1).toInt = 45) := by omega
            rw [if_pos h2, if_neg h40, if_neg h45, ex]
            exact sim_un hn hS hp hs (Or.inl (by decide)) (by decide) (by decide)
          · have h33 : ¬ ((cHr t n S.1 S.2.1).toInt = 33) := by omega
            have h40 : ¬ ((cHr t n S.1 S.2.1).toInt = 40) := by omega
            rw [if_neg h33, if_pos h2, if_pos h2, if_neg h40]
            exact sim_un hn hS hp hs (Or.inr (by decide)) (by decide) (by decide)
theorem sim_O (hn : n.toInt ≤ 120) : ∀ m : Nat, Sim n (cO t n m) (rO t n m)
  | 0 => sim_part hn (Or.inl ⟨rfl, rfl⟩)
  | m + 1 => sim_part hn (Or.inr ⟨_, _, rfl, rfl, sim_O hn m⟩)
theorem sim_E (hn : n.toInt ≤ 120) (m : Nat) : Sim n (cE t n m) (rE t n m) := sim_eit hn (sim_O hn m)
end SIM
