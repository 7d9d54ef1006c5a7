/-! THE SMALLEST RING, PURELY: ways of the least length, whatever stands for 'no way' -/
def wSt (k : Nat) (d : Nat → Nat → Int) : Nat → Nat → Int := fun a b => if d a k + d k b < d a b then d a k + d k b else d a b
def wIn (F : Int) (E : Nat → Nat → Bool) : Nat → Nat → Int := fun a b => if E a b = true then 1 else F
def wAll (F : Int) (E : Nat → Nat → Bool) : Nat → Nat → Nat → Int
  | 0 => wIn F E
  | k + 1 => wSt k (wAll F E k)
theorem wPg : ∀ (k n : Nat) (g : Nat → Int), (∀ m : Nat, 1 ≤ m → m ≤ n → ∃ v, v < k ∧ g v = (m : Int)) → n ≤ k
  | 0, n, g, h => by
    rcases Nat.eq_zero_or_pos n with e | e
    · omega
    · obtain ⟨v, hv, _⟩ := h 1 (by omega) (by omega)
      omega
  | k + 1, n, g, h => by
    by_cases c : 1 ≤ g k ∧ g k ≤ (n : Int)
    · have := wPg k (n - 1) (fun v => if g k < g v then g v - 1 else g v) (fun m h1 h2 => by
        by_cases q : (m : Int) < g k
        · obtain ⟨v, hv, e⟩ := h m h1 (by omega)
          have hk : v ≠ k := fun z => by
            subst z
            omega
          refine ⟨v, by omega, ?_⟩
          show (if g k < g v then g v - 1 else g v) = (m : Int)
          rw [if_neg (by omega)]
          exact e
        · obtain ⟨v, hv, e⟩ := h (m + 1) (by omega) (by omega)
          have hk : v ≠ k := fun z => by
            subst z
            omega
          refine ⟨v, by omega, ?_⟩
          show (if g k < g v then g v - 1 else g v) = (m : Int)
          rw [if_pos (by omega)]
          omega)
      omega
    · have := wPg k n g (fun m h1 h2 => by
        obtain ⟨v, hv, e⟩ := h m h1 h2
        have hk : v ≠ k := fun z => by
          subst z
          omega
        exact ⟨v, by omega, e⟩)
      omega
def wI (F : Int) (E : Nat → Nat → Bool) (k : Nat) (d : Nat → Nat → Int) : Prop := (∀ a b, (1 ≤ d a b ∧ d a b ≤ (k : Int) + 1) ∨ d a b = F) ∧ (∀ a b, E a b = true → d a b ≤ 1) ∧ (∀ a b v, v < k → E v b = true → d a b ≤ d a v + 1) ∧ (∀ a b, d a b ≠ F → (d a b = 1 ∧ E a b = true) ∨ ∃ v, v < k ∧ E v b = true ∧ d a b = d a v + 1)
section FW
variable {F : Int} {E : Nat → Nat → Bool} {k : Nat} {d : Nat → Nat → Int}
theorem wI_rng (h : wI F E k d) : ∀ a b, (1 ≤ d a b ∧ d a b ≤ (k : Int) + 1) ∨ d a b = F := h.1
theorem wI_e (h : wI F E k d) : ∀ a b, E a b = true → d a b ≤ 1 := h.2.1
theorem wI_r (h : wI F E k d) : ∀ a b v, v < k → E v b = true → d a b ≤ d a v + 1 := h.2.2.1
theorem wI_p (h : wI F E k d) : ∀ a b, d a b ≠ F → (d a b = 1 ∧ E a b = true) ∨ ∃ v, v < k ∧ E v b = true ∧ d a b = d a v + 1 := h.2.2.2
/-- the steps below a way of n + 1 are all there -/
theorem wLad (hF : 30 ≤ F) (w : ∀ a b, (1 ≤ d a b ∧ d a b ≤ 18) ∨ d a b = F) (p : ∀ a b, d a b ≠ F → (d a b = 1 ∧ E a b = true) ∨ ∃ v, v < k ∧ E v b = true ∧ d a b = d a v + 1) : ∀ (n : Nat) (a b : Nat), n ≤ 17 → d a b = (n : Int) + 1 → ∀ m : Nat, 1 ≤ m → m ≤ n → ∃ v, v < k ∧ d a v = (m : Int)
  | 0, a, b, _, _, m, h1, h2 => by omega
  | n + 1, a, b, hn, h, m, h1, h2 => by
    rcases p a b (by omega) with ⟨e, _⟩ | ⟨v, hv, _, e⟩
    · omega
    · by_cases c : m = n + 1
      · exact ⟨v, hv, by omega⟩
      · exact wLad hF w p n a v (by omega) (by omega) m h1 (by omega)
theorem wI_0 : wI F E 0 (wIn F E) := by
  refine ⟨fun a b => ?_, fun a b h => ?_, fun a b v hv => by omega, fun a b h => ?_⟩
  · unfold wIn
    by_cases c : E a b = true
    · rw [if_pos c]
      left
      omega
    · rw [if_neg c]
      right
      rfl
  · unfold wIn
    rw [if_pos h]
    omega
  · unfold wIn at h ⊢
    by_cases c : E a b = true
    · rw [if_pos c]
      exact Or.inl ⟨rfl, c⟩
    · rw [if_neg c] at h
      exact absurd rfl h
theorem wSt_k (h : 1 ≤ d k k) (a : Nat) : wSt k d a k = d a k := by
  unfold wSt
  rw [if_neg (by omega)]
theorem wSt_kb (h : 1 ≤ d k k) (b : Nat) : wSt k d k b = d k b := by
  unfold wSt
  rw [if_neg (by omega)]
theorem wSt_cases (d : Nat → Nat → Int) (k a b : Nat) : (wSt k d a b = d a k + d k b ∧ d a k + d k b < d a b) ∨ (wSt k d a b = d a b ∧ d a b ≤ d a k + d k b) := by
  unfold wSt
  by_cases c : d a k + d k b < d a b
  · rw [if_pos c]
    exact Or.inl ⟨rfl, c⟩
  · rw [if_neg c]
    exact Or.inr ⟨rfl, by omega⟩
theorem wI_step (hF : 30 ≤ F) (hk : k < 8) (h : wI F E k d) : wI F E (k + 1) (wSt k d) := by
  have kk : 1 ≤ d k k := by
    rcases (wI_rng h) k k with c | c <;> omega
  have e' : ∀ a b, E a b = true → wSt k d a b ≤ 1 := fun a b c => by
    have := wI_e h a b c
    rcases wSt_cases d k a b with s | s <;> omega
  have r' : ∀ a b v, v < k + 1 → E v b = true → wSt k d a b ≤ wSt k d a v + 1 := fun a b v hv c => by
    by_cases q : v = k
    · subst q
      rw [wSt_k kk]
      have := wI_e h v b c
      rcases wSt_cases d v a b with s | s <;> omega
    · have h1 := wI_r h a b v (by omega) c
      have h2 := wI_r h k b v (by omega) c
      rcases wSt_cases d k a b with s | s <;> rcases wSt_cases d k a v with t | t <;> omega
  have w' : ∀ a b, (1 ≤ wSt k d a b ∧ wSt k d a b ≤ 18) ∨ wSt k d a b = F := fun a b => by
    have h1 := (wI_rng h) a b
    have h2 := (wI_rng h) a k
    have h3 := (wI_rng h) k b
    rcases wSt_cases d k a b with s | s <;> omega
  have p' : ∀ a b, wSt k d a b ≠ F → (wSt k d a b = 1 ∧ E a b = true) ∨ ∃ v, v < k + 1 ∧ E v b = true ∧ wSt k d a b = wSt k d a v + 1 := fun a b c => by
    rcases wSt_cases d k a b with ⟨s, s1⟩ | ⟨s, s1⟩
    · have h1 := (wI_rng h) a b
      have h2 := (wI_rng h) a k
      have h3 := (wI_rng h) k b
      rcases wI_p h k b (by omega) with ⟨q, q1⟩ | ⟨v, hv, q1, q⟩
      · exact Or.inr ⟨k, by omega, q1, by rw [wSt_k kk]; omega⟩
      · have t1 := r' a b v (by omega) q1
        refine Or.inr ⟨v, by omega, q1, ?_⟩
        rcases wSt_cases d k a v with t | t <;> omega
    · rw [s] at c
      rcases wI_p h a b c with ⟨q, q1⟩ | ⟨v, hv, q1, q⟩
      · exact Or.inl ⟨by omega, q1⟩
      · have t1 := r' a b v (by omega) q1
        refine Or.inr ⟨v, by omega, q1, ?_⟩
        rcases wSt_cases d k a v with t | t <;> omega
  refine ⟨fun a b => ?_, e', r', p'⟩
  rcases w' a b with ⟨c1, c2⟩ | c
  · left
    refine ⟨c1, ?_⟩
    have e : wSt k d a b = (((wSt k d a b).toNat - 1 : Nat) : Int) + 1 := by omega
    have := wPg (k + 1) ((wSt k d a b).toNat - 1) (fun v => wSt k d a v) (wLad hF w' p' _ a b (by omega) e)
    omega
  · exact Or.inr c
theorem wI_all (hF : 30 ≤ F) : ∀ k : Nat, k ≤ 8 → wI F E k (wAll F E k)
  | 0, _ => wI_0
  | k + 1, h => wI_step hF (by omega) (wI_all hF k (by omega))
/-- two numbers for 'no way' -/
theorem wTwo {F1 : Int} (hF : 30 ≤ F) (hF1 : 30 ≤ F1) : ∀ k : Nat, k ≤ 8 → ∀ a b, (wAll F E k a b = wAll F1 E k a b ∧ wAll F E k a b ≤ 9) ∨ (wAll F E k a b = F ∧ wAll F1 E k a b = F1)
  | 0, _ => fun a b => by
    show (wIn F E a b = wIn F1 E a b ∧ wIn F E a b ≤ 9) ∨ (wIn F E a b = F ∧ wIn F1 E a b = F1)
    unfold wIn
    by_cases c : E a b = true
    · rw [if_pos c, if_pos c]
      exact Or.inl ⟨rfl, by omega⟩
    · rw [if_neg c, if_neg c]
      exact Or.inr ⟨rfl, rfl⟩
  | k + 1, h => fun a b => by
    have i1 := wTwo hF hF1 k (by omega) a b
    have i2 := wTwo hF hF1 k (by omega) a k
    have i3 := wTwo hF hF1 k (by omega) k b
    have g := wI_all (E := E) hF k (by omega)
    have g1 := wI_all (E := E) hF1 k (by omega)
    have r1 := wI_rng g a b
    have r2 := wI_rng g a k
    have r3 := wI_rng g k b
    have t1 := wI_rng g1 a b
    have t2 := wI_rng g1 a k
    have t3 := wI_rng g1 k b
    have n1 := wI_rng (wI_all (E := E) hF (k + 1) h) a b
    show (wSt k (wAll F E k) a b = wSt k (wAll F1 E k) a b ∧ wSt k (wAll F E k) a b ≤ 9) ∨ (wSt k (wAll F E k) a b = F ∧ wSt k (wAll F1 E k) a b = F1)
    have n2 : (1 ≤ wSt k (wAll F E k) a b ∧ wSt k (wAll F E k) a b ≤ ((k + 1 : Nat) : Int) + 1) ∨ wSt k (wAll F E k) a b = F := n1
    rcases wSt_cases (wAll F E k) k a b with s | s <;> rcases wSt_cases (wAll F1 E k) k a b with t | t <;> omega
end FW
