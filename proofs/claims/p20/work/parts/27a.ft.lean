/-! FAST STEPS: the code in blocks, the objects of the heap by a table; each is the small machine's own step -/
noncomputable def ft_blk {α : Type} (B : List (Nat × α)) (k : Nat) : Option α := List.rec (motive := fun _ => Option α) none (fun p _ ih => match Nat.beq p.1 k with
  | true => some p.2
  | false => ih) B
noncomputable def ft_find {α : Type} (T : List (Nat × List (Nat × α))) (k : Nat) : Option α := List.rec (motive := fun _ => Option α) none (fun p _ ih => match Nat.ble p.1 k with
  | true => ih
  | false => ft_blk p.2 k) T
theorem ft_blk_in {α : Type} : ∀ (B : List (Nat × α)) (k : Nat) (x : α), ft_blk B k = some x → (k, x) ∈ B
  | [], _, _, h => by cases h
  | p :: B, k, x, h => by
    have h : (match Nat.beq p.1 k with
      | true => some p.2
      | false => ft_blk B k) = some x := h
    cases e : Nat.beq p.1 k with
    | true =>
      rw [e] at h
      have h : some p.2 = some x := h
      cases h
      have e := Nat.eq_of_beq_eq_true e
      subst e
      exact List.mem_cons_self
    | false =>
      rw [e] at h
      exact List.mem_cons_of_mem _ (ft_blk_in B k x h)
theorem ft_find_in {α : Type} : ∀ (T : List (Nat × List (Nat × α))) (k : Nat) (x : α), ft_find T k = some x → (k, x) ∈ ft_flat T
  | [], _, _, h => by cases h
  | p :: T, k, x, h => by
    have h : (match Nat.ble p.1 k with
      | true => ft_find T k
      | false => ft_blk p.2 k) = some x := h
    show (k, x) ∈ p.2 ++ ft_flat T
    cases e : Nat.ble p.1 k with
    | true =>
      rw [e] at h
      exact List.mem_append_right _ (ft_find_in T k x h)
    | false =>
      rw [e] at h
      exact List.mem_append_left _ (ft_blk_in p.2 k x h)
def ft_asc {α : Type} : Nat → List (Nat × α) → Bool
  | _, [] => true
  | lo, p :: r => Nat.ble lo p.1 && ft_asc (p.1 + 1) r
theorem ft_asc_lo {α : Type} : ∀ (l : List (Nat × α)) (lo : Nat), ft_asc lo l = true → ∀ z ∈ l, lo ≤ z.1
  | [], _, _, _, hz => absurd hz List.not_mem_nil
  | p :: r, lo, h, z, hz => by
    obtain ⟨h1, h2⟩ := Bool.and_eq_true_iff.mp (show (Nat.ble lo p.1 && ft_asc (p.1 + 1) r) = true from h)
    have h1 := Nat.le_of_ble_eq_true h1
    rcases List.mem_cons.mp hz with e | e
    · rw [e]; exact h1
    · have := ft_asc_lo r (p.1 + 1) h2 z e
      omega
theorem ft_mem_find : ∀ (l : List (Nat × mi_I)) (lo : Nat), ft_asc lo l = true → ∀ (pc : Nat) (x : mi_I), (pc, x) ∈ l → mi_find l pc = some x
  | [], _, _, _, _, hz => absurd hz List.not_mem_nil
  | p :: r, lo, h, pc, x, hz => by
    obtain ⟨h1, h2⟩ := Bool.and_eq_true_iff.mp (show (Nat.ble lo p.1 && ft_asc (p.1 + 1) r) = true from h)
    show (match Nat.beq p.1 pc with
      | true => some p.2
      | false => mi_find r pc) = some x
    rcases List.mem_cons.mp hz with e | e
    · rw [← e]
      dsimp only
      rw [Nat.beq_refl]
    · have h3 := ft_asc_lo r (p.1 + 1) h2 _ e
      dsimp only at h3
      cases eb : Nat.beq p.1 pc with
      | true =>
        have := Nat.eq_of_beq_eq_true eb
        omega
      | false => exact ft_mem_find r (p.1 + 1) h2 pc x e
def ft_M (q : mi_M × List (Nat × mi_I)) (T : List (Nat × List (Nat × mi_I))) : Prop := q ∈ mi_prog ∧ ∀ (pc : Nat) (i : mi_I), ft_find T pc = some i → mi_find q.2 pc = some i
theorem ft_mk {h : mi_M} {c : List (Nat × mi_I)} {T : List (Nat × List (Nat × mi_I))} (hq : (h, c) ∈ mi_prog) (e : c = ft_flat T) (ha : ft_asc 0 (ft_flat T) = true) : ft_M (h, c) T := by
  subst e
  exact ⟨hq, fun pc i hf => ft_mem_find _ 0 ha pc i (ft_find_in T pc i hf)⟩
/-! the heap by a table -/
abbrev ft_E : Type := (Nat × Nat × List (Nat × Nat)) ⊕ mi_E
def ft_val (i : Nat → Int32) (r : Nat → Nat) (k : Nat × Nat) : Value := match k.1 with
  | 1 => .ref k.2
  | 2 => .ref (r k.2)
  | _ => .int (i k.2)
def ft_ev (i : Nat → Int32) (a : Nat → List Int32) (q : Nat → List Int64) (r : Nat → Nat) : ft_E → mi_E
  | .inl (0, c, k) => .inl (c, k.map (ft_val i r))
  | .inl (1, n, _) => .inr (.int, .inl (a n))
  | .inl (_, n, _) => .inr (.long, .inr (.inl (q n)))
  | .inr x => x
def ft_all : List ft_E := [.inl (0, 8, [(1, 1), (1, 25), (3, 2), (1, 49), (1, 89), (1, 94), (1, 97), (1, 98)]), .inl (0, 4, [(0, 64), (1, 2), (1, 3), (1, 4), (1, 5), (1, 6), (0, 70), (0, 71), (0, 72), (0, 73), (1, 7), (2, 0), (1, 14), (1, 15), (0, 78), (0, 79), (0, 80), (1, 24)]), .inl (1, 2, []), .inl (1, 3, []), .inl (1, 4, []), .inl (1, 5, []), .inl (1, 6, []), .inl (0, 0, [(1, 8), (1, 9), (0, 450)]), .inl (1, 8, []), .inl (1, 9, []), .inl (0, 3, [(3, 640), (1, 11), (1, 12), (0, 643), (1, 13), (0, 645)]), .inl (1, 11, []), .inl (1, 12, []), .inl (1, 13, []), .inl (1, 14, []), .inr (.inr (.array .int, .inr (.inr [some 16, some 17, some 18, some 19, some 20, some 21, some 22, some 23]))), .inl (1, 16, []), .inl (1, 17, []), .inl (1, 18, []), .inl (1, 19, []), .inl (1, 20, []), .inl (1, 21, []), .inl (1, 22, []), .inl (1, 23, []), .inl (1, 24, []), .inl (0, 4, [(0, 1600), (1, 26), (1, 27), (1, 28), (1, 29), (1, 30), (0, 1606), (0, 1607), (0, 1608), (0, 1609), (1, 31), (1, 34), (1, 38), (1, 39), (0, 1614), (0, 1615), (0, 1616), (1, 48)]), .inl (1, 26, []), .inl (1, 27, []), .inl (1, 28, []), .inl (1, 29, []), .inl (1, 30, []), .inl (0, 0, [(1, 32), (1, 33), (0, 1986)]), .inl (1, 32, []), .inl (1, 33, []), .inl (0, 3, [(3, 2176), (1, 35), (1, 36), (0, 2179), (1, 37), (0, 2181)]), .inl (1, 35, []), .inl (1, 36, []), .inl (1, 37, []), .inl (1, 38, []), .inr (.inr (.array .int, .inr (.inr [some 40, some 41, some 42, some 43, some 44, some 45, some 46, some 47]))), .inl (1, 40, []), .inl (1, 41, []), .inl (1, 42, []), .inl (1, 43, []), .inl (1, 44, []), .inl (1, 45, []), .inl (1, 46, []), .inl (1, 47, []), .inl (1, 48, []), .inl (0, 7, [(1, 50), (1, 74), (0, 3138), (1, 75), (1, 76), (1, 77), (0, 3142), (1, 78), (1, 79), (1, 80)]), .inl (0, 4, [(0, 3200), (1, 51), (1, 52), (1, 53), (1, 54), (1, 55), (0, 3206), (0, 3207), (0, 3208), (0, 3209), (1, 56), (2, 1), (1, 63), (1, 64), (0, 3214), (0, 3215), (0, 3216), (1, 73)]), .inl (1, 51, []), .inl (1, 52, []), .inl (1, 53, []), .inl (1, 54, []), .inl (1, 55, []), .inl (0, 0, [(1, 57), (1, 58), (0, 3586)]), .inl (1, 57, []), .inl (1, 58, []), .inl (0, 3, [(3, 3776), (1, 60), (1, 61), (0, 3779), (1, 62), (0, 3781)]), .inl (1, 60, []), .inl (1, 61, []), .inl (1, 62, []), .inl (1, 63, []), .inr (.inr (.array .int, .inr (.inr [some 65, some 66, some 67, some 68, some 69, some 70, some 71, some 72]))), .inl (1, 65, []), .inl (1, 66, []), .inl (1, 67, []), .inl (1, 68, []), .inl (1, 69, []), .inl (1, 70, []), .inl (1, 71, []), .inl (1, 72, []), .inl (1, 73, []), .inl (1, 74, []), .inl (1, 75, []), .inl (1, 76, []), .inl (1, 77, []), .inl (1, 78, []), .inl (1, 79, []), .inr (.inr (.array .int, .inr (.inr [some 81, some 82, some 83, some 84, some 85, some 86, some 87, some 88]))), .inl (1, 81, []), .inl (1, 82, []), .inl (1, 83, []), .inl (1, 84, []), .inl (1, 85, []), .inl (1, 86, []), .inl (1, 87, []), .inl (1, 88, []), .inl (0, 1, [(1, 90), (1, 91), (1, 92), (1, 93), (0, 5700), (0, 5701)]), .inl (1, 90, []), .inl (1, 91, []), .inl (1, 92, []), .inl (1, 93, []), .inl (0, 2, [(1, 95), (0, 6017), (1, 96), (0, 6019)]), .inl (1, 95, []), .inl (1, 96, []), .inr (.inr (.object "ThirdAfter$Shelf", .inr (.inr [some 104, some 106, some 108, some 110, some 112, some 114]))), .inl (0, 6, [(1, 99), (0, 6273), (0, 6274), (3, 6275), (2, 2)]), .inl (1, 99, []), .inl (0, 3, [(3, 6400), (1, 101), (1, 102), (0, 6403), (1, 103), (0, 6405)]), .inl (1, 101, []), .inl (1, 102, []), .inl (1, 103, []), .inl (0, 5, [(0, 6656), (0, 6657), (0, 6658), (0, 6659), (1, 105)]), .inl (2, 105, []), .inl (0, 5, [(0, 6784), (0, 6785), (0, 6786), (0, 6787), (1, 107)]), .inl (2, 107, []), .inl (0, 5, [(0, 6912), (0, 6913), (0, 6914), (0, 6915), (1, 109)]), .inl (2, 109, []), .inl (0, 5, [(0, 7040), (0, 7041), (0, 7042), (0, 7043), (1, 111)]), .inl (2, 111, []), .inl (0, 5, [(0, 7168), (0, 7169), (0, 7170), (0, 7171), (1, 113)]), .inl (2, 113, []), .inl (0, 5, [(0, 7296), (0, 7297), (0, 7298), (0, 7299), (1, 115)]), .inl (2, 115, []), .inl (0, 9, [(0, 7424), (1, 117), (0, 7426), (0, 7427), (1, 118), (0, 7429), (1, 119), (3, 7431), (0, 7432), (1, 120), (1, 121), (1, 122), (1, 123), (0, 7437), (0, 7438), (0, 7439), (0, 7440), (1, 124), (1, 125), (1, 126), (1, 127), (1, 128), (1, 129), (1, 130), (3, 7448), (0, 7449), (1, 131), (1, 132), (0, 7452), (0, 7453), (1, 133), (0, 7455), (1, 134), (0, 7457), (1, 135), (1, 136), (1, 137), (1, 138), (1, 139), (1, 140), (0, 7464), (0, 7465), (0, 7466), (0, 7467), (1, 141), (0, 7469), (1, 142), (1, 143), (1, 144), (1, 145), (1, 146), (1, 147), (0, 7476), (1, 148)]), .inl (1, 117, []), .inl (1, 118, []), .inl (1, 119, []), .inl (1, 120, []), .inl (1, 121, []), .inl (1, 122, []), .inl (1, 123, []), .inl (1, 124, []), .inl (1, 125, []), .inl (1, 126, []), .inl (1, 127, []), .inl (1, 128, []), .inl (1, 129, []), .inl (1, 130, []), .inl (1, 131, []), .inl (1, 132, []), .inl (1, 133, []), .inl (1, 134, []), .inl (1, 135, []), .inl (1, 136, []), .inl (1, 137, []), .inl (2, 138, []), .inl (1, 139, []), .inl (1, 140, []), .inl (1, 141, []), .inl (1, 142, []), .inl (1, 143, []), .inl (1, 144, []), .inl (1, 145, []), .inl (1, 146, []), .inl (1, 147, []), .inl (1, 148, [])]
def ft_heap : List (Nat × List (Nat × (Nat × List (Nat × Nat)))) := [(25, [(0, (8, [(1, 1), (1, 25), (3, 2), (1, 49), (1, 89), (1, 94), (1, 97), (1, 98)])), (1, (4, [(0, 64), (1, 2), (1, 3), (1, 4), (1, 5), (1, 6), (0, 70), (0, 71), (0, 72), (0, 73), (1, 7), (2, 0), (1, 14), (1, 15), (0, 78), (0, 79), (0, 80), (1, 24)])), (7, (0, [(1, 8), (1, 9), (0, 450)])), (10, (3, [(3, 640), (1, 11), (1, 12), (0, 643), (1, 13), (0, 645)]))]), (50, [(25, (4, [(0, 1600), (1, 26), (1, 27), (1, 28), (1, 29), (1, 30), (0, 1606), (0, 1607), (0, 1608), (0, 1609), (1, 31), (1, 34), (1, 38), (1, 39), (0, 1614), (0, 1615), (0, 1616), (1, 48)])), (31, (0, [(1, 32), (1, 33), (0, 1986)])), (34, (3, [(3, 2176), (1, 35), (1, 36), (0, 2179), (1, 37), (0, 2181)])), (49, (7, [(1, 50), (1, 74), (0, 3138), (1, 75), (1, 76), (1, 77), (0, 3142), (1, 78), (1, 79), (1, 80)]))]), (94, [(50, (4, [(0, 3200), (1, 51), (1, 52), (1, 53), (1, 54), (1, 55), (0, 3206), (0, 3207), (0, 3208), (0, 3209), (1, 56), (2, 1), (1, 63), (1, 64), (0, 3214), (0, 3215), (0, 3216), (1, 73)])), (56, (0, [(1, 57), (1, 58), (0, 3586)])), (59, (3, [(3, 3776), (1, 60), (1, 61), (0, 3779), (1, 62), (0, 3781)])), (89, (1, [(1, 90), (1, 91), (1, 92), (1, 93), (0, 5700), (0, 5701)]))]), (106, [(94, (2, [(1, 95), (0, 6017), (1, 96), (0, 6019)])), (98, (6, [(1, 99), (0, 6273), (0, 6274), (3, 6275), (2, 2)])), (100, (3, [(3, 6400), (1, 101), (1, 102), (0, 6403), (1, 103), (0, 6405)])), (104, (5, [(0, 6656), (0, 6657), (0, 6658), (0, 6659), (1, 105)]))]), (114, [(106, (5, [(0, 6784), (0, 6785), (0, 6786), (0, 6787), (1, 107)])), (108, (5, [(0, 6912), (0, 6913), (0, 6914), (0, 6915), (1, 109)])), (110, (5, [(0, 7040), (0, 7041), (0, 7042), (0, 7043), (1, 111)])), (112, (5, [(0, 7168), (0, 7169), (0, 7170), (0, 7171), (1, 113)]))]), (100000, [(114, (5, [(0, 7296), (0, 7297), (0, 7298), (0, 7299), (1, 115)])), (116, (9, [(0, 7424), (1, 117), (0, 7426), (0, 7427), (1, 118), (0, 7429), (1, 119), (3, 7431), (0, 7432), (1, 120), (1, 121), (1, 122), (1, 123), (0, 7437), (0, 7438), (0, 7439), (0, 7440), (1, 124), (1, 125), (1, 126), (1, 127), (1, 128), (1, 129), (1, 130), (3, 7448), (0, 7449), (1, 131), (1, 132), (0, 7452), (0, 7453), (1, 133), (0, 7455), (1, 134), (0, 7457), (1, 135), (1, 136), (1, 137), (1, 138), (1, 139), (1, 140), (0, 7464), (0, 7465), (0, 7466), (0, 7467), (1, 141), (0, 7469), (1, 142), (1, 143), (1, 144), (1, 145), (1, 146), (1, 147), (0, 7476), (1, 148)]))])]
theorem ft_ks (i : Nat → Int32) (a : Nat → List Int32) (q : Nat → List Int64) (r : Nat → Nat) : ks i a q r = ft_all.map (ft_ev i a q r) := by rfl
def ft_ints (c : Nat) : Nat → List (Nat × Nat) → Bool
  | _, [] => true
  | g, k :: r => (match k.1 with
    | 0 => (match mi_ft c g with
      | .int => true
      | _ => false)
    | _ => true) && ft_ints c (g + 1) r
theorem ft_ints_ok (c : Nat) : ∀ (l : List (Nat × Nat)) (b g : Nat) (k : Nat × Nat), ft_ints c b l = true → l[g]? = some k → k.1 = 0 → mi_ft c (b + g) = .int
  | [], _, _, _, _, hg, _ => by rw [List.getElem?_nil] at hg; cases hg
  | z :: r, b, 0, k, h, hg, h0 => by
    obtain ⟨h1, _⟩ := Bool.and_eq_true_iff.mp (show ((match z.1 with
      | 0 => (match mi_ft c b with
        | .int => true
        | _ => false)
      | _ => true) && ft_ints c (b + 1) r) = true from h)
    have e : z = k := Option.some.inj hg
    subst e
    rw [h0] at h1
    have h1 : (match mi_ft c b with
      | .int => true
      | _ => false) = true := h1
    show mi_ft c b = .int
    cases em : mi_ft c b <;> rw [em] at h1 <;> first | rfl | cases h1
  | z :: r, b, g + 1, k, h, hg, h0 => by
    obtain ⟨_, h2⟩ := Bool.and_eq_true_iff.mp (show ((match z.1 with
      | 0 => (match mi_ft c b with
        | .int => true
        | _ => false)
      | _ => true) && ft_ints c (b + 1) r) = true from h)
    have := ft_ints_ok c r (b + 1) g k h2 hg h0
    rw [show b + (g + 1) = b + 1 + g by omega]
    exact this
def ft_hok (e : Nat × (Nat × List (Nat × Nat))) : Bool := Nat.blt e.1 mi_RO && (ft_ints e.2.1 0 e.2.2 && (match ft_all[e.1]? with
  | some (.inl (0, c, k)) => decide (c = e.2.1) && decide (k = e.2.2)
  | _ => false))
theorem ft_heap_ok : (ft_flat ft_heap).all ft_hok = true := by decide +kernel
theorem ft_obj_ok {p : Nat} {o : Nat × List (Nat × Nat)} (h : ft_find ft_heap p = some o) : ft_all[p]? = some (.inl (0, o.1, o.2)) ∧ Nat.blt p mi_RO = true ∧ ft_ints o.1 0 o.2 = true := by
  have h1 := List.all_eq_true.mp ft_heap_ok _ (ft_find_in _ _ _ h)
  unfold ft_hok at h1
  obtain ⟨h1, h2⟩ := Bool.and_eq_true_iff.mp h1
  obtain ⟨h2, h3⟩ := Bool.and_eq_true_iff.mp h2
  refine ⟨?_, h1, h2⟩
  dsimp only at h3
  split at h3
  next c k e =>
    obtain ⟨h4, h5⟩ := Bool.and_eq_true_iff.mp h3
    rw [e, of_decide_eq_true h4, of_decide_eq_true h5]
  next => cases h3
def ft_nums (b : Nat) : List (Nat × Nat) → Bool
  | [] => true
  | k :: r => (Nat.beq k.1 1 || Nat.beq k.1 2 || Nat.beq k.2 b) && ft_nums (b + 1) r
theorem ft_nums_ok : ∀ (l : List (Nat × Nat)) (b g : Nat) (k : Nat × Nat), ft_nums b l = true → l[g]? = some k → k.1 ≠ 1 → k.1 ≠ 2 → k.2 = b + g
  | [], _, _, _, _, hg, _, _ => by rw [List.getElem?_nil] at hg; cases hg
  | z :: r, b, 0, k, h, hg, h1, h2 => by
    obtain ⟨h3, _⟩ := Bool.and_eq_true_iff.mp (show ((Nat.beq z.1 1 || Nat.beq z.1 2 || Nat.beq z.2 b) && ft_nums (b + 1) r) = true from h)
    have e : z = k := Option.some.inj hg
    subst e
    rcases Bool.or_eq_true_iff.mp h3 with h3 | h3
    · rcases Bool.or_eq_true_iff.mp h3 with h3 | h3
      · exact absurd (Nat.eq_of_beq_eq_true h3) h1
      · exact absurd (Nat.eq_of_beq_eq_true h3) h2
    · exact Nat.eq_of_beq_eq_true h3
  | z :: r, b, g + 1, k, h, hg, h1, h2 => by
    obtain ⟨_, h3⟩ := Bool.and_eq_true_iff.mp (show ((Nat.beq z.1 1 || Nat.beq z.1 2 || Nat.beq z.2 b) && ft_nums (b + 1) r) = true from h)
    have := ft_nums_ok r (b + 1) g k h3 hg h1 h2
    omega
def ft_one (p : Nat) : ft_E → Bool
  | .inl (0, _, k) => ft_nums (64 * p) k && Nat.ble k.length 64
  | _ => true
def ft_allok (p : Nat) : List ft_E → Bool
  | [] => true
  | e :: r => ft_one p e && ft_allok (p + 1) r
theorem ft_allok_at : ∀ (l : List ft_E) (p0 p c : Nat) (k : List (Nat × Nat)), ft_allok p0 l = true → l[p]? = some (.inl (0, c, k)) → ft_nums (64 * (p0 + p)) k = true ∧ k.length ≤ 64
  | [], _, _, _, _, _, hg => by rw [List.getElem?_nil] at hg; cases hg
  | z :: r, p0, 0, c, k, h, hg => by
    have e : z = .inl (0, c, k) := Option.some.inj hg
    subst e
    obtain ⟨h1, _⟩ := Bool.and_eq_true_iff.mp (show ((ft_nums (64 * p0) k && Nat.ble k.length 64) && ft_allok (p0 + 1) r) = true from h)
    obtain ⟨h1, h2⟩ := Bool.and_eq_true_iff.mp h1
    exact ⟨h1, Nat.le_of_ble_eq_true h2⟩
  | z :: r, p0, p + 1, c, k, h, hg => by
    obtain ⟨_, h2⟩ := Bool.and_eq_true_iff.mp (show (ft_one p0 z && ft_allok (p0 + 1) r) = true from h)
    have := ft_allok_at r (p0 + 1) p c k h2 hg
    rw [show p0 + (p + 1) = p0 + 1 + p by omega]
    exact this
theorem ft_allok_ : ft_allok 0 ft_all = true := by decide +kernel
section FT
variable {i : Nat → Int32} {a : Nat → List Int32} {q0 : Nat → List Int64} {r : Nat → Nat}
theorem ft_at {p c : Nat} {k : List (Nat × Nat)} (h : ft_all[p]? = some (.inl (0, c, k))) : (ks i a q0 r)[p]? = some (.inl (c, k.map (ft_val i r))) := by
  rw [ft_ks, List.getElem?_map, h]
  rfl
theorem ft_num {p c g : Nat} {l : List (Nat × Nat)} {k : Nat × Nat} (h : ft_all[p]? = some (.inl (0, c, l))) (hg : l[g]? = some k) (h1 : k.1 ≠ 1) (h2 : k.1 ≠ 2) : k.2 = 64 * p + g ∧ g < 64 := by
  have h3 := ft_allok_at ft_all 0 p c l ft_allok_ h
  have h4 := ft_nums_ok l _ g k h3.1 hg h1 h2
  have h5 := (List.getElem?_eq_some_iff.mp hg).1
  omega
theorem ft_val_ne {n : Nat} {v : Int32} {k : Nat × Nat} (h : k.1 ≠ 1 → k.1 ≠ 2 → k.2 ≠ n) : ft_val (ku i n v) r k = ft_val i r k := by
  unfold ft_val
  split
  · rfl
  · rfl
  next h1 h2 => rw [ku_other _ _ (h h1 h2)]
theorem ft_val_eq {v : Int32} {k : Nat × Nat} (h1 : k.1 ≠ 1) (h2 : k.1 ≠ 2) : ft_val (ku i k.2 v) r k = .int v := by
  unfold ft_val
  split
  next h => exact absurd h h1
  next h => exact absurd h h2
  next => rw [ku_same]
theorem ft_put {p c f : Nat} {l : List (Nat × Nat)} {k : Nat × Nat} {v : Int32} (h : ft_all[p]? = some (.inl (0, c, l))) (hk : l[f]? = some k) (h1 : k.1 ≠ 1) (h2 : k.1 ≠ 2) : (ks i a q0 r).set p (.inl (c, (l.map (ft_val i r)).set f (.int v))) = ks (ku i k.2 v) a q0 r := by
  have hn := ft_num h hk h1 h2
  have key : (l.map (ft_val i r)).set f (.int v) = l.map (ft_val (ku i k.2 v) r) := by
    apply List.ext_getElem?
    intro g
    rw [List.getElem?_set, List.getElem?_map, List.getElem?_map]
    by_cases e : f = g
    · subst e
      have hl := (List.getElem?_eq_some_iff.mp hk).1
      rw [if_pos rfl, List.length_map, if_pos hl, hk]
      show _ = some (ft_val (ku i k.2 v) r k)
      rw [ft_val_eq h1 h2]
    · rw [if_neg e]
      cases eg : l[g]? with
      | none => rfl
      | some z =>
        show some (ft_val i r z) = some (ft_val (ku i k.2 v) r z)
        rw [ft_val_ne (fun g1 g2 => by
          have := ft_num h eg g1 g2
          omega)]
  rw [key, ft_ks, ft_ks]
  apply List.ext_getElem?
  intro m
  rw [List.getElem?_set, List.getElem?_map, List.getElem?_map]
  by_cases e : p = m
  · subst e
    have hl := (List.getElem?_eq_some_iff.mp h).1
    rw [if_pos rfl, List.length_map, if_pos hl, h]
    rfl
  · rw [if_neg e]
    cases em : ft_all[m]? with
    | none => rfl
    | some z =>
      show some (ft_ev i a q0 r z) = some (ft_ev (ku i k.2 v) a q0 r z)
      have ez : ft_ev i a q0 r z = ft_ev (ku i k.2 v) a q0 r z := by
        unfold ft_ev
        split
        next c2 k2 =>
          congr 2
          apply List.map_congr_left
          intro y hy
          obtain ⟨g, hg⟩ := List.mem_iff_getElem?.mp hy
          rw [ft_val_ne (fun g1 g2 => by
            have := ft_num em hg g1 g2
            omega)]
        · rfl
        · rfl
        · rfl
      rw [ez]
/-! one step -/
abbrev ft_S : Type := Nat × mi_L × List Value × (Nat → Int32) × (Nat → List Int32) × (Nat → List Int64) × (Nat → Nat)
def ft_x (s : ft_S) : mi_S := (s.1, s.2.1, s.2.2.1, (0, 0), ks s.2.2.2.1 s.2.2.2.2.1 s.2.2.2.2.2.1 s.2.2.2.2.2.2)
noncomputable def ft_get (i : mi_I) (x : ft_S) : Option ft_S := match x.2.2.1 with
  | .ref p :: st => (match ft_find ft_heap p with
    | some o => (match Nat.beq o.1 i.2.2.1 && Nat.beq i.2.2.2.2.1 0 with
      | true => (match o.2[i.2.2.2.1]? with
        | some k => some (x.1 + 3, x.2.1, ft_val x.2.2.2.1 x.2.2.2.2.2.2 k :: st, x.2.2.2)
        | none => none)
      | false => none)
    | none => (match mi_hGet mi_N0 i.2.2 x.1 x.2.2.1 (0, 0) [] with
      | some z => some (z.1, x.2.1, z.2.1, x.2.2.2)
      | none => none))
  | _ => none
noncomputable def ft_pt (i : mi_I) (x : ft_S) : Option ft_S := match x.2.2.1 with
  | .int v :: .ref p :: st => (match ft_find ft_heap p with
    | some o => (match Nat.beq o.1 i.2.2.1 && Nat.beq i.2.2.2.2.1 0 with
      | true => (match o.2[i.2.2.2.1]? with
        | some k => (match k.1 with
          | 0 => some (x.1 + 3, x.2.1, st, ku x.2.2.2.1 k.2 v, x.2.2.2.2)
          | 3 => (match mi_okv (mi_ft i.2.2.1 i.2.2.2.1) (.int v) with
            | true => some (x.1 + 3, x.2.1, st, ku x.2.2.2.1 k.2 v, x.2.2.2.2)
            | false => none)
          | _ => none)
        | none => none)
      | false => none)
    | none => none)
  | _ => none
noncomputable def ft_hp (i : mi_I) (x : ft_S) : Option ft_S := match i.1 with
  | .getfield _ => ft_get i x
  | .putfield _ => ft_pt i x
  | .getstatic _ => (match mi_hStat mi_N0 i.2.2 x.1 x.2.2.1 (0, 0) [] with
    | some z => some (z.1, x.2.1, z.2.1, x.2.2.2)
    | none => none)
  | .ldc _ => (match mi_hLdc i.2.2 x.1 x.2.2.1 (0, 0) [] with
    | some z => some (z.1, x.2.1, z.2.1, x.2.2.2)
    | none => none)
  | .ldc_w _ => (match mi_hLdw i.2.2 x.1 x.2.2.1 (0, 0) [] with
    | some z => some (z.1, x.2.1, z.2.1, x.2.2.2)
    | none => none)
  | .ldc2_w _ => (match mi_hLd2 i.2.2 x.1 x.2.2.1 (0, 0) [] with
    | some z => some (z.1, x.2.1, z.2.1, x.2.2.2)
    | none => none)
  | .invokestatic _ => (match Nat.beq i.2.2.2.2.1 11 with
    | true => none
    | false => (match mi_hMm i.2.2 x.1 x.2.2.1 (0, 0) [] with
      | some z => some (z.1, x.2.1, z.2.1, x.2.2.2)
      | none => none))
  | _ => none
variable {N : mi_N} {ax : mi_X} {pc : Nat} {st : List Value} {h : mi_H} {z : Nat × List Value × (Nat × Nat) × mi_H}
theorem ft_sGet (e : mi_hGet N ax pc st (0, 0) [] = some z) : mi_hGet N ax pc st (0, 0) h = some (z.1, z.2.1, (0, 0), h) := by
  unfold mi_hGet at e ⊢
  split at e
  next b rest =>
    cases h1 : Nat.blt b mi_RO with
    | true => rw [h1] at e; dsimp only at e; rw [List.getElem?_nil] at e; cases e
    | false =>
      rw [h1] at e
      dsimp only at e ⊢
      cases h2 : Nat.beq ax.2.2.1 13 with
      | false => rw [h2] at e; cases e
      | true =>
        rw [h2] at e
        dsimp only at e ⊢
        cases h3 : N.2.2 (b - mi_RO) ax.2.1 with
        | none => rw [h3] at e; cases e
        | some v => rw [h3] at e; cases e; rfl
  next => cases e
theorem ft_sStat (e : mi_hStat N ax pc st (0, 0) [] = some z) : mi_hStat N ax pc st (0, 0) h = some (z.1, z.2.1, (0, 0), h) := by
  unfold mi_hStat at e ⊢
  cases h2 : (Nat.beq ax.2.2.1 1 || Nat.beq ax.2.2.1 2) with
  | false => rw [h2] at e; cases e
  | true =>
    rw [h2] at e
    dsimp only at e ⊢
    cases h3 : N.1 ax.1 with
    | none => rw [h3] at e; cases e
    | some v => rw [h3] at e; cases e; rfl
theorem ft_sLdc (e : mi_hLdc ax pc st (0, 0) [] = some z) : mi_hLdc ax pc st (0, 0) h = some (z.1, z.2.1, (0, 0), h) := by
  unfold mi_hLdc at e ⊢
  split at e
  next h1 => cases e; rfl
  next h1 => cases e; rfl
  next => cases e
theorem ft_sLdw (e : mi_hLdw ax pc st (0, 0) [] = some z) : mi_hLdw ax pc st (0, 0) h = some (z.1, z.2.1, (0, 0), h) := by
  unfold mi_hLdw at e ⊢
  split at e
  next h1 => cases e; rfl
  next => cases e
theorem ft_sLd2 (e : mi_hLd2 ax pc st (0, 0) [] = some z) : mi_hLd2 ax pc st (0, 0) h = some (z.1, z.2.1, (0, 0), h) := by
  unfold mi_hLd2 at e ⊢
  split at e
  next h1 => cases e; rfl
  next => cases e
theorem ft_sMm (e : mi_hMm ax pc st (0, 0) [] = some z) : mi_hMm ax pc st (0, 0) h = some (z.1, z.2.1, (0, 0), h) := by
  unfold mi_hMm at e ⊢
  split at e
  next y x rest =>
    cases h1 : Nat.ble (mi_sum rest) 8 with
    | false => rw [h1] at e; cases e
    | true =>
      rw [h1] at e
      dsimp only at e ⊢
      split at e
      next h2 => cases e; rfl
      next h2 => cases e; rfl
      next => cases e
  next => cases e
theorem ft_get_ok {ins : Instr} {len : Nat} {pc : Nat} {ls : mi_L} {st : List Value} {y : ft_S} (e : ft_get (ins, len, ax) (pc, ls, st, i, a, q0, r) = some y) : ∃ (pc1 : Nat) (st1 : List Value), y = (pc1, ls, st1, i, a, q0, r) ∧ mi_hGet mi_N0 ax pc st (0, 0) (ks i a q0 r) = some (pc1, st1, (0, 0), ks i a q0 r) := by
  unfold ft_get at e
  dsimp only at e
  split at e
  next b rest =>
    cases eo : ft_find ft_heap b with
    | some o =>
      rw [eo] at e
      dsimp only at e
      obtain ⟨h1, h2, _⟩ := ft_obj_ok eo
      cases h3 : (Nat.beq o.1 ax.1 && Nat.beq ax.2.2.1 0) with
      | false => rw [h3] at e; cases e
      | true =>
        rw [h3] at e
        dsimp only at e
        cases h4 : o.2[ax.2.1]? with
        | none => rw [h4] at e; cases e
        | some k =>
          rw [h4] at e
          cases e
          refine ⟨_, _, rfl, ?_⟩
          unfold mi_hGet
          dsimp only
          rw [h2]
          dsimp only
          rw [ft_at h1]
          dsimp only
          rw [h3]
          dsimp only
          rw [List.getElem?_map, h4]
          rfl
    | none =>
      rw [eo] at e
      dsimp only at e
      cases h3 : mi_hGet mi_N0 ax pc (.ref b :: rest) (0, 0) [] with
      | none => rw [h3] at e; cases e
      | some z =>
        rw [h3] at e
        cases e
        exact ⟨_, _, rfl, ft_sGet h3⟩
  next => cases e
theorem ft_pt_ok {ins : Instr} {len : Nat} {pc : Nat} {ls : mi_L} {st : List Value} {y : ft_S} (e : ft_pt (ins, len, ax) (pc, ls, st, i, a, q0, r) = some y) : ∃ (pc1 : Nat) (st1 : List Value) (i1 : Nat → Int32), y = (pc1, ls, st1, i1, a, q0, r) ∧ mi_hPut ax pc st (0, 0) (ks i a q0 r) = some (pc1, st1, (0, 0), ks i1 a q0 r) := by
  unfold ft_pt at e
  dsimp only at e
  split at e
  next v b rest =>
    cases eo : ft_find ft_heap b with
    | none => rw [eo] at e; cases e
    | some o =>
      rw [eo] at e
      dsimp only at e
      obtain ⟨h1, h2, hi⟩ := ft_obj_ok eo
      cases h3 : (Nat.beq o.1 ax.1 && Nat.beq ax.2.2.1 0) with
      | false => rw [h3] at e; cases e
      | true =>
        rw [h3] at e
        dsimp only at e
        have ho : o.1 = ax.1 := Nat.eq_of_beq_eq_true (Bool.and_eq_true_iff.mp h3).1
        cases h4 : o.2[ax.2.1]? with
        | none => rw [h4] at e; cases e
        | some k =>
          rw [h4] at e
          dsimp only at e
          have hl : Nat.blt ax.2.1 (o.2.map (ft_val i r)).length = true := by
            rw [List.length_map]
            exact Nat.blt_eq.mpr (List.getElem?_eq_some_iff.mp h4).1
          have key : ∀ (i1 : Nat → Int32), i1 = ku i k.2 v → k.1 ≠ 1 → k.1 ≠ 2 → mi_okv (mi_ft ax.1 ax.2.1) (.int v) = true → mi_hPut ax pc (.int v :: .ref b :: rest) (0, 0) (ks i a q0 r) = some (pc + 3, rest, (0, 0), ks i1 a q0 r) := by
            intro i1 e1 k1 k2 ok
            subst e1
            unfold mi_hPut
            dsimp only
            rw [h2]
            dsimp only
            rw [ft_at h1]
            dsimp only
            rw [h3, hl, ok]
            show some (pc + 3, rest, ((0, 0) : Nat × Nat), (ks i a q0 r).set b (.inl (o.1, (o.2.map (ft_val i r)).set ax.2.1 (.int v)))) = _
            rw [ft_put h1 h4 k1 k2]
          split at e
          next h0 =>
            cases e
            refine ⟨_, _, _, rfl, key _ rfl (by rw [h0]; decide) (by rw [h0]; decide) ?_⟩
            have := ft_ints_ok o.1 o.2 0 ax.2.1 k hi h4 h0
            rw [Nat.zero_add, ho] at this
            rw [this]
            rfl
          next h0 =>
            cases ok : mi_okv (mi_ft ax.1 ax.2.1) (.int v) with
            | false => rw [ok] at e; cases e
            | true =>
              rw [ok] at e
              cases e
              exact ⟨_, _, _, rfl, key _ rfl (by rw [h0]; decide) (by rw [h0]; decide) ok⟩
          next => cases e
  next => cases e
theorem ft_hp_ok {ins : Instr} {len : Nat} {pc : Nat} {ls : mi_L} {st : List Value} {lim : Nat × Nat} {y : ft_S} (e : ft_hp (ins, len, ax) (pc, ls, st, i, a, q0, r) = some y) : ∃ (pc1 : Nat) (st1 : List Value) (i1 : Nat → Int32), y = (pc1, ls, st1, i1, a, q0, r) ∧ mi_hp mi_N0 lim ins ax pc st (0, 0) (ks i a q0 r) = some (pc1, st1, (0, 0), ks i1 a q0 r) := by
  unfold ft_hp at e
  dsimp only at e
  split at e
  · obtain ⟨pc1, st1, h1, h2⟩ := ft_get_ok e
    exact ⟨pc1, st1, i, h1, h2⟩
  · exact ft_pt_ok e
  · cases h3 : mi_hStat mi_N0 ax pc st (0, 0) [] with
    | none => rw [h3] at e; cases e
    | some z => rw [h3] at e; cases e; exact ⟨_, _, _, rfl, ft_sStat h3⟩
  · cases h3 : mi_hLdc ax pc st (0, 0) [] with
    | none => rw [h3] at e; cases e
    | some z => rw [h3] at e; cases e; exact ⟨_, _, _, rfl, ft_sLdc h3⟩
  · cases h3 : mi_hLdw ax pc st (0, 0) [] with
    | none => rw [h3] at e; cases e
    | some z => rw [h3] at e; cases e; exact ⟨_, _, _, rfl, ft_sLdw h3⟩
  · cases h3 : mi_hLd2 ax pc st (0, 0) [] with
    | none => rw [h3] at e; cases e
    | some z => rw [h3] at e; cases e; exact ⟨_, _, _, rfl, ft_sLd2 h3⟩
  · cases h11 : Nat.beq ax.2.2.1 11 with
    | true => rw [h11] at e; cases e
    | false =>
      rw [h11] at e
      dsimp only at e
      cases h3 : mi_hMm ax pc st (0, 0) [] with
      | none => rw [h3] at e; cases e
      | some z =>
        rw [h3] at e
        cases e
        refine ⟨_, _, _, rfl, ?_⟩
        show (match Nat.beq ax.2.2.1 11 with
          | true => mi_hCopy pc st (0, 0) (ks i a q0 r)
          | false => (match Nat.ble 0 lim.1 && Nat.ble 0 lim.2 with
            | true => mi_hMm ax pc st (0, 0) (ks i a q0 r)
            | false => none)) = _
        rw [h11]
        dsimp only
        rw [Nat.ble_eq_true_of_le (Nat.zero_le lim.1), Nat.ble_eq_true_of_le (Nat.zero_le lim.2)]
        exact ft_sMm h3
  · cases e
noncomputable def ft_step (m : mi_M) (T : List (Nat × List (Nat × mi_I))) (x : ft_S) : Option ft_S := match ft_find T x.1 with
  | none => none
  | some i => (match mi_pure i.1 x.1 m.2.2.1 x.2.1 x.2.2.1 with
    | some z => some (z.1, z.2.1, z.2.2, x.2.2.2)
    | none => ft_hp i x)
noncomputable def ft_steps (m : mi_M) (T : List (Nat × List (Nat × mi_I))) (n : Nat) : ft_S → Option ft_S := Nat.rec (fun x => some x) (fun _ self x => match ft_step m T x with
  | some x1 => self x1
  | none => none) n
variable {q : mi_M × List (Nat × mi_I)} {T : List (Nat × List (Nat × mi_I))}
theorem ft_step_ok (hq : ft_M q T) {x y : ft_S} (e : ft_step q.1 T x = some y) : mi_step mi_N0 (fun _ _ _ => none) q (ft_x x) = some (.inl (ft_x y)) := by
  obtain ⟨pc, ls, st, i, a, q0, r⟩ := x
  unfold ft_step at e
  dsimp only at e
  unfold mi_step ft_x
  dsimp only
  cases hf : ft_find T pc with
  | none => rw [hf] at e; cases e
  | some j =>
    rw [hf] at e
    dsimp only at e
    rw [hq.2 pc j hf]
    dsimp only
    cases hp : mi_pure j.1 pc q.1.2.2.1 ls st with
    | some z => rw [hp] at e; cases e; rfl
    | none =>
      rw [hp] at e
      dsimp only at e ⊢
      obtain ⟨ins, len, ax⟩ := j
      obtain ⟨pc1, st1, i1, h1, h2⟩ := ft_hp_ok (lim := (q.1.2.2.2.2.2.2.2.1, q.1.2.2.2.2.2.2.2.2)) e
      rw [h1]
      dsimp only
      rw [h2]
theorem ft_steps_ok (hq : ft_M q T) : ∀ (n : Nat) (x y : ft_S), ft_steps q.1 T n x = some y → mi_steps mi_N0 (fun _ _ _ => none) q n (ft_x x) = some (ft_x y)
  | 0, x, y, h => by cases h; rfl
  | n + 1, x, y, h => by
    have h : (match ft_step q.1 T x with
      | some x1 => ft_steps q.1 T n x1
      | none => none) = some y := h
    show (match mi_step mi_N0 (fun _ _ _ => none) q (ft_x x) with
      | some (.inl x1) => mi_steps mi_N0 (fun _ _ _ => none) q n x1
      | _ => none) = some (ft_x y)
    cases e : ft_step q.1 T x with
    | none => rw [e] at h; cases h
    | some x1 =>
      rw [e] at h
      rw [ft_step_ok hq e]
      exact ft_steps_ok hq n x1 y h
variable {d : Nat} {P : Option Value → mi_H → Prop} {ls : mi_L}
theorem ft_go (hq : ft_M q T) (n : Nat) (pc1 : Nat) (ls1 : mi_L) (st1 : List Value) (i1 : Nat → Int32) (a1 : Nat → List Int32) (q1 : Nat → List Int64) (r1 : Nat → Nat) (e : ft_steps q.1 T n (pc, ls, st, i, a, q0, r) = some (pc1, ls1, st1, i1, a1, q1, r1)) (k : ko (d + 1) q P (pc1, ls1, st1, (0, 0), ks i1 a1 q1 r1)) : ko (d + 1) q P (pc, ls, st, (0, 0), ks i a q0 r) := ko_steps hq.1 n _ _ (ft_steps_ok hq n _ _ e) k
noncomputable def ft_p (m : mi_M) (T : List (Nat × List (Nat × mi_I))) (pc : Nat) (ls : mi_L) (st : List Value) : Option (Nat × mi_L × List Value) := match ft_find T pc with
  | none => none
  | some i => mi_pure i.1 pc m.2.2.1 ls st
theorem ft_if (hq : ft_M q T) {cn : Nat × Nat} (cb : Bool) (t u : Nat) (ls1 : mi_L) (st1 : List Value) (e : ft_p q.1 T pc ls st = some (bif cb then t else u, ls1, st1)) (kt : cb = true → ko (d + 1) q P (t, ls1, st1, cn, h)) (kf : cb = false → ko (d + 1) q P (u, ls1, st1, cn, h)) : ko (d + 1) q P (pc, ls, st, cn, h) := by
  refine ko_if hq.1 cb t u (ls1, st1, cn, h) ?_ kt kf
  unfold ft_p at e
  cases hf : ft_find T pc with
  | none => rw [hf] at e; cases e
  | some j =>
    rw [hf] at e
    dsimp only at e
    unfold mi_step
    dsimp only
    rw [hq.2 pc j hf]
    dsimp only
    rw [e]
noncomputable def ft_r (m : mi_M) (T : List (Nat × List (Nat × mi_I))) (pc : Nat) (st : List Value) : Option (Option Value) := match ft_find T pc with
  | none => none
  | some i => mi_ret m.2.2.2.1 i.1 st
theorem ft_ret (hq : ft_M q T) {rv : Option Value} (e : ft_r q.1 T pc st = some rv) (hp : P rv h) : ko d q P (pc, ls, st, (0, 0), h) := by
  refine ko_ret hq.1 ?_ hp
  unfold ft_r at e
  cases hf : ft_find T pc with
  | none => rw [hf] at e; cases e
  | some j =>
    rw [hf] at e
    dsimp only at e
    obtain ⟨ins, len, ax⟩ := j
    unfold mi_step
    dsimp only at e ⊢
    rw [hq.2 pc _ hf]
    dsimp only
    have h1 : mi_pure ins pc q.1.2.2.1 ls st = none ∧ mi_hp mi_N0 (q.1.2.2.2.2.2.2.2.1, q.1.2.2.2.2.2.2.2.2) ins ax pc st (0, 0) h = none ∧ mi_inv mi_N0 ins ax st h = none := by
      cases ins <;> first | exact ⟨rfl, rfl, rfl⟩ | cases e
    rw [h1.1]
    dsimp only
    rw [h1.2.1]
    dsimp only
    rw [h1.2.2]
    dsimp only
    rw [e]
    dsimp only
    rw [Nat.ble_eq_true_of_le (Nat.zero_le _), Nat.ble_eq_true_of_le (Nat.zero_le _)]
    rfl
/-! a call -/
noncomputable def ft_cls (b own : Nat) : Bool := match Nat.blt b mi_RO with
  | true => (match ft_find ft_heap b with
    | some o => Nat.beq o.1 own
    | none => false)
  | false => Nat.beq own 100 && (mi_N0.2.2 (b - mi_RO) 0).isSome
noncomputable def ft_inv (y : Nat) (r : mi_M) (ins : Instr) (ax : mi_X) (st : List Value) : Option (List Value × List Value) := match ins with
  | .invokestatic _ => (match Nat.beq ax.1 y && Nat.beq ax.2.2.1 9 && (Nat.beq r.2.2.2.2.2.2.1 0 && Nat.ble r.2.2.2.2.2.1 st.length && Nat.ble (mi_sum (st.drop r.2.2.2.2.2.1)) 8) with
    | true => some ((st.take r.2.2.2.2.2.1).reverse, st.drop r.2.2.2.2.2.1)
    | false => none)
  | .invokevirtual _ => (match st.drop r.2.2.2.2.2.1 with
    | .ref b :: rest => (match Nat.beq ax.1 y && Nat.beq ax.2.2.1 9 && (Nat.beq r.2.2.2.2.2.2.1 1 && Nat.ble (r.2.2.2.2.2.1 + 1) st.length && Nat.ble (mi_sum rest) 8 && ft_cls b r.2.2.2.2.1) with
      | true => some (.ref b :: (st.take r.2.2.2.2.2.1).reverse, rest)
      | false => none)
    | _ => none)
  | _ => none
theorem ft_cls_lo {b own : Nat} (e : ft_cls b own = true) (h1 : Nat.blt b mi_RO = true) : ∃ o : Nat × List Value, (ks i a q0 r)[b]? = some (.inl o) ∧ Nat.beq o.1 own = true := by
  unfold ft_cls at e
  rw [h1] at e
  dsimp only at e
  cases h2 : ft_find ft_heap b with
  | none => rw [h2] at e; cases e
  | some o =>
    rw [h2] at e
    exact ⟨_, ft_at (ft_obj_ok h2).1, e⟩
theorem ft_cls_hi {b own : Nat} (e : ft_cls b own = true) (h1 : Nat.blt b mi_RO = false) : (Nat.beq own 100 && (mi_N0.2.2 (b - mi_RO) 0).isSome) = true := by
  unfold ft_cls at e
  rw [h1] at e
  exact e
theorem ft_invS1 {y : Nat} {rm : mi_M} {cy : List (Nat × mi_I)} {idx : Nat} {as rest : List Value} (hy : mi_prog[y]? = some (rm, cy)) (e : ft_inv y rm (.invokestatic idx) ax st = some (as, rest)) : mi_inv mi_N0 (.invokestatic idx) ax st h = some (y, rm, as, rest) := by
  have hh : mi_heads[y]? = some rm := mi_prog_head hy
  unfold ft_inv at e
  dsimp only at e
  unfold mi_inv
  dsimp only
  cases h1 : (Nat.beq ax.1 y && Nat.beq ax.2.2.1 9 && (Nat.beq rm.2.2.2.2.2.2.1 0 && Nat.ble rm.2.2.2.2.2.1 st.length && Nat.ble (mi_sum (st.drop rm.2.2.2.2.2.1)) 8)) with
  | false => rw [h1] at e; cases e
  | true =>
    rw [h1] at e
    dsimp only at e
    obtain ⟨h1, h2⟩ := Bool.and_eq_true_iff.mp h1
    obtain ⟨h1, h3⟩ := Bool.and_eq_true_iff.mp h1
    have e1 : ax.1 = y := Nat.eq_of_beq_eq_true h1
    rw [h3]
    dsimp only
    rw [e1, hh]
    dsimp only
    rw [h2]
    dsimp only
    have e2 := Option.some.inj e
    rw [(Prod.mk.inj e2).1, (Prod.mk.inj e2).2]
def ft_vi (N : mi_N) (h : mi_H) (b own : Nat) : Bool := match Nat.blt b mi_RO with
  | true => (match h[b]? with
    | some (.inl q) => Nat.beq q.1 own
    | _ => false)
  | false => Nat.beq own 100 && (N.2.2 (b - mi_RO) 0).isSome
theorem ft_vi_e (N : mi_N) (idx : Nat) (ax : mi_X) (st : List Value) (h : mi_H) : mi_inv N (.invokevirtual idx) ax st h = (match Nat.beq ax.2.2.1 9 with
    | true => (match mi_heads[ax.1]? with
      | some r => (match st.drop r.2.2.2.2.2.1 with
        | .ref b :: rest => (match Nat.beq r.2.2.2.2.2.2.1 1 && Nat.ble (r.2.2.2.2.2.1 + 1) st.length && Nat.ble (mi_sum rest) 8 && ft_vi N h b r.2.2.2.2.1 with
          | true => some (ax.1, r, .ref b :: (st.take r.2.2.2.2.2.1).reverse, rest)
          | false => none)
        | _ => none)
      | none => none)
    | false => none) := rfl
theorem ft_vi_ok {b own : Nat} (e : ft_cls b own = true) : ft_vi mi_N0 (ks i a q0 r) b own = true := by
  unfold ft_vi
  cases h1 : Nat.blt b mi_RO with
  | false => exact ft_cls_hi e h1
  | true =>
    obtain ⟨o, o1, o2⟩ := ft_cls_lo (i := i) (a := a) (q0 := q0) (r := r) e h1
    show (match (ks i a q0 r)[b]? with
      | some (.inl q) => Nat.beq q.1 own
      | _ => false) = true
    rw [o1]
    exact o2
theorem ft_invS2 {y : Nat} {rm : mi_M} {cy : List (Nat × mi_I)} {idx : Nat} {as rest : List Value} (hy : mi_prog[y]? = some (rm, cy)) (e : ft_inv y rm (.invokevirtual idx) ax st = some (as, rest)) : mi_inv mi_N0 (.invokevirtual idx) ax st (ks i a q0 r) = some (y, rm, as, rest) := by
  have hh : mi_heads[y]? = some rm := mi_prog_head hy
  have hv : ∀ (b own : Nat), ft_cls b own = true → ft_vi mi_N0 (ks i a q0 r) b own = true := fun b own z => ft_vi_ok z
  rw [ft_vi_e]
  generalize ft_vi mi_N0 (ks i a q0 r) = V at hv ⊢
  unfold ft_inv at e
  dsimp only at e
  generalize ft_cls = W at hv e
  split at e
  next b rest2 hd =>
    cases h1 : (Nat.beq ax.1 y && Nat.beq ax.2.2.1 9 && (Nat.beq rm.2.2.2.2.2.2.1 1 && Nat.ble (rm.2.2.2.2.2.1 + 1) st.length && Nat.ble (mi_sum rest2) 8 && W b rm.2.2.2.2.1)) with
    | false => rw [h1] at e; cases e
    | true =>
      rw [h1] at e
      obtain ⟨h1, h2⟩ := Bool.and_eq_true_iff.mp h1
      obtain ⟨h1, h3⟩ := Bool.and_eq_true_iff.mp h1
      obtain ⟨h2, h4⟩ := Bool.and_eq_true_iff.mp h2
      have e1 : ax.1 = y := Nat.eq_of_beq_eq_true h1
      rw [h3, e1, hh]
      dsimp only
      rw [hd]
      dsimp only
      rw [h2, hv _ _ h4]
      rw [Bool.and_self]
      have e2 := Option.some.inj e
      rw [(Prod.mk.inj e2).1, (Prod.mk.inj e2).2]
  next => cases e
theorem ft_invS {y : Nat} {rm : mi_M} {cy : List (Nat × mi_I)} {ins : Instr} {as rest : List Value} (hy : mi_prog[y]? = some (rm, cy)) (e : ft_inv y rm ins ax st = some (as, rest)) : mi_inv mi_N0 ins ax st (ks i a q0 r) = some (y, rm, as, rest) := by
  cases ins with
  | invokestatic idx => exact ft_invS1 hy e
  | invokevirtual idx => exact ft_invS2 hy e
  | _ => cases e
end FT
