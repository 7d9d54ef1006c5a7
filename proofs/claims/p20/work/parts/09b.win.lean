/-! WINDOWS: what a reader reads in a window of the code, it reads in the code (the window begins at a multiple of four) -/
def wn_win (a n : Nat) (b : ByteArray) : ByteArray := ⟨⟨(b.data.toList.drop a).take n⟩⟩
theorem wn_size (a n : Nat) (b : ByteArray) : (wn_win a n b).size = min n (b.size - a) := by
  show ((b.data.toList.drop a).take n).length = min n (b.data.toList.length - a)
  rw [List.length_take, List.length_drop]
theorem wn_get {a n : Nat} {b : ByteArray} {p : Nat} (h : p < (wn_win a n b).size) (h' : a + p < b.size) : (wn_win a n b)[p] = b[a + p] := by
  have h1 : p < ((b.data.toList.drop a).take n).length := h
  have h2 : a + p < b.data.toList.length := h'
  show ((b.data.toList.drop a).take n)[p] = b.data.toList[a + p]
  rw [List.getElem_take, List.getElem_drop]
def wn_T {α : Type} (a : Nat) (W B : ByteArray) (r s : Decoder α) : Prop := ∀ (j : Nat) (x : α) (k : Nat), Reader.runAt r W j = .ok (x, k) → Reader.runAt s B (a + j) = .ok (x, a + k)
theorem wn_bindE {α β : Type} (r : Decoder α) (f : α → Decoder β) (W : ByteArray) (j : Nat) : Reader.runAt (r >>= f) W j = (match Reader.runAt r W j with
    | .ok p => Reader.runAt (f p.1) W p.2
    | .error e => .error e) := by
  show Except.bind (Reader.runAt r W j) (fun p => Reader.runAt (f p.1) W p.2) = _
  cases Reader.runAt r W j <;> rfl
theorem wn_mapE {α β : Type} (f : α → β) (r : Decoder α) (W : ByteArray) (j : Nat) : Reader.runAt (f <$> r) W j = (match Reader.runAt r W j with
    | .ok p => .ok (f p.1, p.2)
    | .error e => .error e) := by
  show Except.bind (Reader.runAt r W j) (fun p => Except.ok (f p.1, p.2)) = _
  cases Reader.runAt r W j <;> rfl
theorem wn_u1E (W : ByteArray) (j : Nat) : Reader.runAt (Reader.u1 : Decoder Nat) W j = if h : j < W.size then .ok ((W[j]'h).toNat, j + 1) else .error (.truncated j) := by
  show Reader.runAt (if h : j < W.size then (do set (j + 1); pure (W[j]'h).toNat) else throw (.truncated j) : Decoder Nat) W j = _
  split <;> rfl
theorem wn_byE (n : Nat) (W : ByteArray) (j : Nat) : (∃ x, Reader.runAt (Reader.bytes n : Decoder ByteArray) W j = .ok (x, j + n) ∧ j + n ≤ W.size) ∨ ((∃ e, Reader.runAt (Reader.bytes n : Decoder ByteArray) W j = .error e) ∧ ¬ (j + n ≤ W.size)) := by
  have e : Reader.runAt (Reader.bytes n : Decoder ByteArray) W j = Reader.runAt (if j + n ≤ W.size then (do set (j + n); pure (W.extract j (j + n))) else throw (.truncated W.size) : Decoder ByteArray) W j := rfl
  rw [e]
  split
  next h => exact Or.inl ⟨_, rfl, h⟩
  next h => exact Or.inr ⟨⟨_, rfl⟩, h⟩
section WN
variable {α β : Type} {a n : Nat} {W B : ByteArray}
theorem wn_pure (x : α) : wn_T a W B (pure x) (pure x) := fun j y k h => by
  have h : (Except.ok (x, j) : Except DecodeError (α × Nat)) = .ok (y, k) := h
  cases h
  rfl
theorem wn_throw (e : DecodeError) (s : Decoder α) : wn_T a W B (throw e) s := fun j y k h => by
  have h : (Except.error e : Except DecodeError (α × Nat)) = .ok (y, k) := h
  cases h
theorem wn_bind {r s : Decoder α} {f g : α → Decoder β} (h : wn_T a W B r s) (hf : ∀ x, wn_T a W B (f x) (g x)) : wn_T a W B (r >>= f) (s >>= g) := fun j y k e => by
  rw [wn_bindE] at e ⊢
  cases er : Reader.runAt r W j with
  | error z => rw [er] at e; cases e
  | ok p =>
    obtain ⟨x, j1⟩ := p
    rw [er] at e
    rw [h j x j1 er]
    exact hf x j1 y k e
theorem wn_map (f : α → β) {r s : Decoder α} (h : wn_T a W B r s) : wn_T a W B (f <$> r) (f <$> s) := fun j y k e => by
  rw [wn_mapE] at e ⊢
  cases er : Reader.runAt r W j with
  | error z => rw [er] at e; cases e
  | ok p =>
    obtain ⟨x, j1⟩ := p
    rw [er] at e
    rw [h j x j1 er]
    cases e
    rfl
theorem wn_u1 : wn_T a (wn_win a n B) B Reader.u1 Reader.u1 := fun j y k e => by
  rw [wn_u1E] at e ⊢
  split at e
  next h =>
    have hs : j < min n (B.size - a) := wn_size a n B ▸ h
    have h' : a + j < B.size := by omega
    rw [dif_pos h', ← wn_get h h']
    cases e
    rfl
  next => cases e
theorem wn_u2 : wn_T a (wn_win a n B) B Reader.u2 Reader.u2 := wn_bind wn_u1 (fun _ => wn_bind wn_u1 (fun _ => wn_pure _))
theorem wn_u4 : wn_T a (wn_win a n B) B Reader.u4 Reader.u4 := wn_bind wn_u2 (fun _ => wn_bind wn_u2 (fun _ => wn_pure _))
theorem wn_s1 : wn_T a (wn_win a n B) B Reader.s1 Reader.s1 := wn_map _ wn_u1
theorem wn_s2 : wn_T a (wn_win a n B) B Reader.s2 Reader.s2 := wn_map _ wn_u2
theorem wn_s4 : wn_T a (wn_win a n B) B Reader.s4 Reader.s4 := wn_map _ wn_u4
theorem wn_pad (h4 : a % 4 = 0) (ha : a ≤ B.size) : wn_T a (wn_win a n B) B Decoder.padding Decoder.padding := fun j y k e => by
  have hE : ∀ (V : ByteArray) (i : Nat), Reader.runAt Decoder.padding V i = (match Reader.runAt (Reader.bytes ((4 - i % 4) % 4) : Decoder ByteArray) V i with
      | .ok p => .ok ((), p.2)
      | .error e => .error e) := fun V i => by
    show Except.bind (Reader.runAt (Reader.bytes ((4 - i % 4) % 4) : Decoder ByteArray) V i) (fun p => Except.ok ((), p.2)) = _
    cases Reader.runAt (Reader.bytes ((4 - i % 4) % 4) : Decoder ByteArray) V i <;> rfl
  rw [hE] at e ⊢
  rw [show (a + j) % 4 = j % 4 by omega]
  rcases wn_byE ((4 - j % 4) % 4) (wn_win a n B) j with ⟨x, h1, h2⟩ | ⟨⟨z, h1⟩, _⟩
  · rw [h1] at e
    rw [wn_size] at h2
    rcases wn_byE ((4 - j % 4) % 4) B (a + j) with ⟨x', g1, g2⟩ | ⟨_, g2⟩
    · rw [g1]
      cases e
      rw [Nat.add_assoc]
    · omega
  · rw [h1] at e
    cases e
theorem wn_go {r s : Decoder α} (h : wn_T a W B r s) : ∀ (k : Nat) (acc : Array α), wn_T a W B (Reader.times.go r k acc) (Reader.times.go s k acc)
  | 0, acc => wn_pure acc
  | k + 1, acc => wn_bind h (fun x => wn_go h k (acc.push x))
theorem wn_ts (h4 : a % 4 = 0) (ha : a ≤ B.size) (pc pc1 : Nat) : wn_T a (wn_win a n B) B (Decoder.tableswitch pc) (Decoder.tableswitch pc1) := by
  unfold Decoder.tableswitch
  refine wn_bind (wn_pad h4 ha) fun _ => wn_bind wn_s4 fun d => wn_bind wn_s4 fun lo => wn_bind wn_s4 fun hi => ?_
  dsimp only
  split
  · exact wn_bind (wn_go wn_s4 _ _) fun _ => wn_pure _
  · exact wn_bind (wn_throw _ _) fun _ => wn_bind (wn_go wn_s4 _ _) fun _ => wn_pure _
theorem wn_ls (h4 : a % 4 = 0) (ha : a ≤ B.size) (pc pc1 : Nat) : wn_T a (wn_win a n B) B (Decoder.lookupswitch pc) (Decoder.lookupswitch pc1) := by
  unfold Decoder.lookupswitch
  refine wn_bind (wn_pad h4 ha) fun _ => wn_bind wn_s4 fun d => wn_bind wn_s4 fun m => ?_
  dsimp only
  have ht : wn_T a (wn_win a n B) B (Reader.times m.toNat (do pure ((← Reader.s4), (← Reader.s4)))) (Reader.times m.toNat (do pure ((← Reader.s4), (← Reader.s4)))) := wn_go (wn_bind wn_s4 fun _ => wn_bind wn_s4 fun _ => wn_pure _) _ _
  split
  · refine wn_bind ht fun ps => ?_
    split
    · exact wn_pure _
    · exact wn_bind (wn_throw _ _) fun _ => wn_pure _
  · refine wn_bind (wn_throw _ _) fun _ => wn_bind ht fun ps => ?_
    split
    · exact wn_pure _
    · exact wn_bind (wn_throw _ _) fun _ => wn_pure _
end WN
section WNI
variable {a n : Nat} {B : ByteArray}
theorem wn_na (pc pc1 : Nat) : wn_T a (wn_win a n B) B (Decoder.newarray pc) (Decoder.newarray pc1) := by
  unfold Decoder.newarray
  refine wn_bind wn_u1 fun x => ?_
  split
  all_goals first | exact wn_pure _ | exact wn_throw _ _
theorem wn_ma (pc pc1 : Nat) : wn_T a (wn_win a n B) B (Decoder.multianewarray pc) (Decoder.multianewarray pc1) := by
  unfold Decoder.multianewarray
  refine wn_bind wn_u2 fun x => wn_bind wn_u1 fun y => ?_
  dsimp only
  split
  · exact wn_bind (wn_pure _) fun _ => wn_pure _
  · exact wn_bind (wn_throw _ _) fun _ => wn_pure _
end WNI
def wn_ops : List Nat := [42, 180, 27, 28, 43, 26, 29, 182, 184, 3, 4, 16, 46, 172, 181, 161, 162, 159, 160, 163, 164, 153, 154, 155, 156, 157, 158, 96, 100, 2, 5, 6, 7, 8, 132, 167, 89, 79, 21, 25, 44, 45, 54, 59, 60, 61, 62, 75, 76, 77, 78, 178, 183, 187, 190, 50, 51, 177, 176, 87, 88, 92, 90, 104, 108, 112, 116, 120, 122, 124, 126, 128, 130, 17, 18, 19, 20, 22, 30, 31, 32, 33, 47, 80, 83, 55, 63, 64, 65, 66, 9, 10, 97, 105, 127, 129, 121, 133, 136, 145, 146, 147, 148, 170, 171, 173, 188, 189, 197, 58]
set_option maxRecDepth 100000 in
theorem wn_instr : ∃ F : Nat → Nat → Decoder Instr, (∀ pc, Decoder.instr pc = Reader.u1 >>= F pc) ∧ ∀ (a n : Nat) (B : ByteArray), a % 4 = 0 → a ≤ B.size → ∀ (pc pc1 : Nat), ∀ x ∈ wn_ops, wn_T a (wn_win a n B) B (F pc x) (F pc1 x) := by
  refine ⟨_, fun pc => rfl, fun a n B h4 ha pc pc1 => ?_⟩
  exact List.forall_mem_cons.mpr ⟨wn_pure _, List.forall_mem_cons.mpr ⟨wn_bind wn_u2 fun _ => wn_pure _, List.forall_mem_cons.mpr ⟨wn_pure _, List.forall_mem_cons.mpr ⟨wn_pure _, List.forall_mem_cons.mpr ⟨wn_pure _, List.forall_mem_cons.mpr ⟨wn_pure _, List.forall_mem_cons.mpr ⟨wn_pure _, List.forall_mem_cons.mpr ⟨wn_bind wn_u2 fun _ => wn_pure _, List.forall_mem_cons.mpr ⟨wn_bind wn_u2 fun _ => wn_pure _, List.forall_mem_cons.mpr ⟨wn_pure _, List.forall_mem_cons.mpr ⟨wn_pure _, List.forall_mem_cons.mpr ⟨wn_bind wn_s1 fun _ => wn_pure _, List.forall_mem_cons.mpr ⟨wn_pure _, List.forall_mem_cons.mpr ⟨wn_pure _, List.forall_mem_cons.mpr ⟨wn_bind wn_u2 fun _ => wn_pure _, List.forall_mem_cons.mpr ⟨wn_bind wn_s2 fun _ => wn_pure _, List.forall_mem_cons.mpr ⟨wn_bind wn_s2 fun _ => wn_pure _, List.forall_mem_cons.mpr ⟨wn_bind wn_s2 fun _ => wn_pure _, List.forall_mem_cons.mpr ⟨wn_bind wn_s2 fun _ => wn_pure _, List.forall_mem_cons.mpr ⟨wn_bind wn_s2 fun _ => wn_pure _, List.forall_mem_cons.mpr ⟨wn_bind wn_s2 fun _ => wn_pure _, List.forall_mem_cons.mpr ⟨wn_bind wn_s2 fun _ => wn_pure _, List.forall_mem_cons.mpr ⟨wn_bind wn_s2 fun _ => wn_pure _, List.forall_mem_cons.mpr ⟨wn_bind wn_s2 fun _ => wn_pure _, List.forall_mem_cons.mpr ⟨wn_bind wn_s2 fun _ => wn_pure _, List.forall_mem_cons.mpr ⟨wn_bind wn_s2 fun _ => wn_pure _, List.forall_mem_cons.mpr ⟨wn_bind wn_s2 fun _ => wn_pure _, List.forall_mem_cons.mpr ⟨wn_pure _, List.forall_mem_cons.mpr ⟨wn_pure _, List.forall_mem_cons.mpr ⟨wn_pure _, List.forall_mem_cons.mpr ⟨wn_pure _, List.forall_mem_cons.mpr ⟨wn_pure _, List.forall_mem_cons.mpr ⟨wn_pure _, List.forall_mem_cons.mpr ⟨wn_pure _, List.forall_mem_cons.mpr ⟨wn_bind wn_u1 fun _ => wn_bind wn_s1 fun _ => wn_pure _, List.forall_mem_cons.mpr ⟨wn_bind wn_s2 fun _ => wn_pure _, List.forall_mem_cons.mpr ⟨wn_pure _, List.forall_mem_cons.mpr ⟨wn_pure _, List.forall_mem_cons.mpr ⟨wn_bind wn_u1 fun _ => wn_pure _, List.forall_mem_cons.mpr ⟨wn_bind wn_u1 fun _ => wn_pure _, List.forall_mem_cons.mpr ⟨wn_pure _, List.forall_mem_cons.mpr ⟨wn_pure _, List.forall_mem_cons.mpr ⟨wn_bind wn_u1 fun _ => wn_pure _, List.forall_mem_cons.mpr ⟨wn_pure _, List.forall_mem_cons.mpr ⟨wn_pure _, List.forall_mem_cons.mpr ⟨wn_pure _, List.forall_mem_cons.mpr ⟨wn_pure _, List.forall_mem_cons.mpr ⟨wn_pure _, List.forall_mem_cons.mpr ⟨wn_pure _, List.forall_mem_cons.mpr ⟨wn_pure _, List.forall_mem_cons.mpr ⟨wn_pure _, List.forall_mem_cons.mpr ⟨wn_bind wn_u2 fun _ => wn_pure _, List.forall_mem_cons.mpr ⟨wn_bind wn_u2 fun _ => wn_pure _, List.forall_mem_cons.mpr ⟨wn_bind wn_u2 fun _ => wn_pure _, List.forall_mem_cons.mpr ⟨wn_pure _, List.forall_mem_cons.mpr ⟨wn_pure _, List.forall_mem_cons.mpr ⟨wn_pure _, List.forall_mem_cons.mpr ⟨wn_pure _, List.forall_mem_cons.mpr ⟨wn_pure _, List.forall_mem_cons.mpr ⟨wn_pure _, List.forall_mem_cons.mpr ⟨wn_pure _, List.forall_mem_cons.mpr ⟨wn_pure _, List.forall_mem_cons.mpr ⟨wn_pure _, List.forall_mem_cons.mpr ⟨wn_pure _, List.forall_mem_cons.mpr ⟨wn_pure _, List.forall_mem_cons.mpr ⟨wn_pure _, List.forall_mem_cons.mpr ⟨wn_pure _, List.forall_mem_cons.mpr ⟨wn_pure _, List.forall_mem_cons.mpr ⟨wn_pure _, List.forall_mem_cons.mpr ⟨wn_pure _, List.forall_mem_cons.mpr ⟨wn_pure _, List.forall_mem_cons.mpr ⟨wn_pure _, List.forall_mem_cons.mpr ⟨wn_pure _, List.forall_mem_cons.mpr ⟨wn_bind wn_s2 fun _ => wn_pure _, List.forall_mem_cons.mpr ⟨wn_bind wn_u1 fun _ => wn_pure _, List.forall_mem_cons.mpr ⟨wn_bind wn_u2 fun _ => wn_pure _, List.forall_mem_cons.mpr ⟨wn_bind wn_u2 fun _ => wn_pure _, List.forall_mem_cons.mpr ⟨wn_bind wn_u1 fun _ => wn_pure _, List.forall_mem_cons.mpr ⟨wn_pure _, List.forall_mem_cons.mpr ⟨wn_pure _, List.forall_mem_cons.mpr ⟨wn_pure _, List.forall_mem_cons.mpr ⟨wn_pure _, List.forall_mem_cons.mpr ⟨wn_pure _, List.forall_mem_cons.mpr ⟨wn_pure _, List.forall_mem_cons.mpr ⟨wn_pure _, List.forall_mem_cons.mpr ⟨wn_bind wn_u1 fun _ => wn_pure _, List.forall_mem_cons.mpr ⟨wn_pure _, List.forall_mem_cons.mpr ⟨wn_pure _, List.forall_mem_cons.mpr ⟨wn_pure _, List.forall_mem_cons.mpr ⟨wn_pure _, List.forall_mem_cons.mpr ⟨wn_pure _, List.forall_mem_cons.mpr ⟨wn_pure _, List.forall_mem_cons.mpr ⟨wn_pure _, List.forall_mem_cons.mpr ⟨wn_pure _, List.forall_mem_cons.mpr ⟨wn_pure _, List.forall_mem_cons.mpr ⟨wn_pure _, List.forall_mem_cons.mpr ⟨wn_pure _, List.forall_mem_cons.mpr ⟨wn_pure _, List.forall_mem_cons.mpr ⟨wn_pure _, List.forall_mem_cons.mpr ⟨wn_pure _, List.forall_mem_cons.mpr ⟨wn_pure _, List.forall_mem_cons.mpr ⟨wn_pure _, List.forall_mem_cons.mpr ⟨wn_pure _, List.forall_mem_cons.mpr ⟨wn_ts h4 ha _ _, List.forall_mem_cons.mpr ⟨wn_ls h4 ha _ _, List.forall_mem_cons.mpr ⟨wn_pure _, List.forall_mem_cons.mpr ⟨wn_na _ _, List.forall_mem_cons.mpr ⟨wn_bind wn_u2 fun _ => wn_pure _, List.forall_mem_cons.mpr ⟨wn_ma _ _, List.forall_mem_cons.mpr ⟨wn_bind wn_u1 fun _ => wn_pure _, fun _ h => absurd h List.not_mem_nil⟩⟩⟩⟩⟩⟩⟩⟩⟩⟩⟩⟩⟩⟩⟩⟩⟩⟩⟩⟩⟩⟩⟩⟩⟩⟩⟩⟩⟩⟩⟩⟩⟩⟩⟩⟩⟩⟩⟩⟩⟩⟩⟩⟩⟩⟩⟩⟩⟩⟩⟩⟩⟩⟩⟩⟩⟩⟩⟩⟩⟩⟩⟩⟩⟩⟩⟩⟩⟩⟩⟩⟩⟩⟩⟩⟩⟩⟩⟩⟩⟩⟩⟩⟩⟩⟩⟩⟩⟩⟩⟩⟩⟩⟩⟩⟩⟩⟩⟩⟩⟩⟩⟩⟩⟩⟩⟩⟩⟩⟩
theorem wn_decode {a n j : Nat} {B : ByteArray} {i : Instr} {l : Nat} (h4 : a % 4 = 0) (ho : ∀ h : j < (wn_win a n B).size, (wn_win a n B)[j].toNat ∈ wn_ops) (h : decode (wn_win a n B) j = .ok (i, l)) : decode B (a + j) = .ok (i, l) := by
  obtain ⟨F, hF, hT⟩ := wn_instr
  have hd : ∀ (V : ByteArray) (k : Nat), decode V k = (match Reader.runAt (Decoder.instr k) V k with
      | .ok p => .ok (p.1, p.2 - k)
      | .error e => .error e) := fun V k => by
    show Except.bind (Reader.runAt (Decoder.instr k) V k) (fun p => Except.ok (p.1, p.2 - k)) = _
    cases Reader.runAt (Decoder.instr k) V k <;> rfl
  rw [hd, hF, wn_bindE, wn_u1E] at h
  by_cases hj : j < (wn_win a n B).size
  · rw [dif_pos hj] at h
    dsimp only at h
    have hs : j < min n (B.size - a) := wn_size a n B ▸ hj
    have h' : a + j < B.size := by omega
    rw [hd, hF, wn_bindE, wn_u1E, dif_pos h', ← wn_get hj h']
    dsimp only
    cases er : Reader.runAt (F j (wn_win a n B)[j].toNat) (wn_win a n B) (j + 1) with
    | error z => rw [er] at h; cases h
    | ok p =>
      obtain ⟨x, k⟩ := p
      rw [er] at h
      dsimp only at h
      have := hT a n B h4 (by omega) j (a + j) _ (ho hj) (j + 1) x k er
      rw [show a + j + 1 = a + (j + 1) from rfl, this]
      dsimp only
      rw [show a + k - (a + j) = k - j by omega]
      exact h
  · rw [dif_neg hj] at h
    cases h
def wn_len (i : Instr) : Nat := match i with
  | .tableswitch _ _ _ _ => 400
  | .lookupswitch _ _ => 400
  | _ => 40
def wn_opok (W : ByteArray) (j : Nat) : Bool := if h : j < W.size then wn_ops.elem W[j].toNat else false
def wn_dk (b : ByteArray) (pc n : Nat) (i : Instr) (l : Nat) : Bool := decide (decode (wn_win (pc / 32 * 32) n b) (pc % 32) = .ok (i, l)) && wn_opok (wn_win (pc / 32 * 32) n b) (pc % 32)
theorem wn_dk_ok {b : ByteArray} {pc n : Nat} {i : Instr} {l : Nat} (h : wn_dk b pc n i l = true) : decode b pc = .ok (i, l) := by
  obtain ⟨h1, h2⟩ := Bool.and_eq_true_iff.mp h
  have e := wn_decode (a := pc / 32 * 32) (n := n) (j := pc % 32) (by omega) (fun hj => by
    unfold wn_opok at h2
    rw [dif_pos hj] at h2
    exact List.elem_iff.mp h2) (of_decide_eq_true h1)
  rw [show pc / 32 * 32 + pc % 32 = pc by omega] at e
  exact e

