/-! THE SMALL MACHINE'S HEAP: cells by place; place k is the cell at base + k; from mi_RO on, what is only read (static arrays, Strings, the script) -/
def mi_RO : Nat := 1000000
def mi_good : List Cond := lw_tbl.filter goodWord
def mi_wd (w : Nat) (q : Cond) : Bool := decide (lw_tbl[w]? = some q) && goodWord q
theorem mi_wd_in {w : Nat} {q : Cond} (h : mi_wd w q = true) : q ∈ mi_good := by
  obtain ⟨h1, h2⟩ := Bool.and_eq_true_iff.mp h
  exact List.mem_filter.mpr ⟨List.mem_of_getElem? (of_decide_eq_true h1), h2⟩
theorem mi_good_self {ws : List Cond} (h : ∀ w ∈ ws, w ∈ mi_good) : GoodIn mi_good ws := fun w hw => ⟨h w hw, good_of_word (List.mem_filter.mp (h w hw)).2⟩
def mi_ad (base : Nat) (ra : Nat → Nat) (k : Nat) : Nat := match Nat.blt k mi_RO with
  | true => base + k
  | false => ra (k - mi_RO)
theorem mi_ad_lo {base : Nat} {ra : Nat → Nat} {k : Nat} (h : Nat.blt k mi_RO = true) : mi_ad base ra k = base + k := by unfold mi_ad; rw [h]
theorem mi_ad_hi {base : Nat} {ra : Nat → Nat} {k : Nat} (h : Nat.blt k mi_RO = false) : mi_ad base ra k = ra (k - mi_RO) := by unfold mi_ad; rw [h]
def mi_rA (ad : Nat → Nat) : mi_A → vp_A
  | .inl l => (l.length, .inl (fun i => l.getD i 0))
  | .inr (.inl l) => (l.length, .inr (.inl (fun i => l.getD i 0)))
  | .inr (.inr l) => (l.length, .inr (.inr (.inr (.inr (fun i => (l.getD i none).map ad)))))
def mi_rE (ad : Nat → Nat) (cT : FieldType → ClassId) : mi_E → va_E
  | .inl o => .inr (o.1, mi_st ad o.2)
  | .inr a => .inl (cT a.1, mi_rA ad a.2)
def mi_W (base : Nat) (ra : Nat → Nat) (cT : FieldType → ClassId) (h : mi_H) : va_W := h.mapIdx (fun k x => (base + k, mi_rE (mi_ad base ra) cT x))
theorem mi_W_get {base : Nat} {ra : Nat → Nat} {cT : FieldType → ClassId} {h : mi_H} {k : Nat} {x : mi_E} (hk : h[k]? = some x) : (mi_W base ra cT h)[k]? = some (base + k, mi_rE (mi_ad base ra) cT x) := by
  unfold mi_W
  rw [List.getElem?_mapIdx, hk]
  rfl
theorem mi_W_inv {base : Nat} {ra : Nat → Nat} {cT : FieldType → ClassId} {h : mi_H} {k : Nat} {q : Nat × va_E} (hk : (mi_W base ra cT h)[k]? = some q) : q.1 = base + k ∧ k < h.length := by
  unfold mi_W at hk
  rw [List.getElem?_mapIdx] at hk
  cases hh : h[k]? with
  | none => rw [hh] at hk; cases hk
  | some x =>
    rw [hh] at hk
    cases hk
    exact ⟨rfl, (List.getElem?_eq_some_iff.mp hh).1⟩
theorem mi_W_set (base : Nat) (ra : Nat → Nat) (cT : FieldType → ClassId) (h : mi_H) (k : Nat) (x : mi_E) : (mi_W base ra cT h).set k (base + k, mi_rE (mi_ad base ra) cT x) = mi_W base ra cT (h.set k x) := by
  unfold mi_W
  apply List.ext_getElem?
  intro i
  rw [List.getElem?_mapIdx, List.getElem?_set, List.getElem?_set, List.getElem?_mapIdx, List.length_mapIdx]
  by_cases e : k = i
  · subst e
    by_cases hl : k < h.length
    · simp [hl]
    · simp [hl]
  · simp [e]
theorem mi_W_push (base : Nat) (ra : Nat → Nat) (cT : FieldType → ClassId) (h : mi_H) (x : mi_E) : mi_W base ra cT (h ++ [x]) = mi_W base ra cT h ++ [(base + h.length, mi_rE (mi_ad base ra) cT x)] := by
  unfold mi_W
  simp [List.mapIdx_append]
theorem mi_D (base : Nat) (ra : Nat → Nat) (cT : FieldType → ClassId) (h : mi_H) : va_D (fun q : Nat => base ≤ q) (mi_W base ra cT h) := by
  refine ⟨fun i j x y hi hj hxy => ?_, fun k q hk => ?_⟩
  · have h1 := (mi_W_inv hi).1
    have h2 := (mi_W_inv hj).1
    omega
  · have h1 := (mi_W_inv hk).1
    omega
/-- lists as functions -/
theorem mi_getD_set {α : Type} (l : List α) (d : α) (k : Nat) (x : α) (hk : k < l.length) : (fun i => (l.set k x).getD i d) = (fun i => if i = k then x else l.getD i d) := by
  funext i
  rw [List.getD_eq_getElem?_getD, List.getD_eq_getElem?_getD, List.getElem?_set]
  by_cases e : k = i
  · subst e
    simp [hk]
  · rw [if_neg e, if_neg (fun z => e z.symm)]
def mi_cpy {α : Type} (l g : List α) (sp dp n : Nat) : List α := g.take dp ++ ((l.drop sp).take n ++ g.drop (dp + n))
theorem mi_cpy_len {α : Type} {l g : List α} {sp dp n : Nat} (h1 : sp + n ≤ l.length) (h2 : dp + n ≤ g.length) : (mi_cpy l g sp dp n).length = g.length := by
  unfold mi_cpy
  simp only [List.length_append, List.length_take, List.length_drop]
  omega
theorem mi_cpy_get {α : Type} {l g : List α} {sp dp n : Nat} (d : α) (h1 : sp + n ≤ l.length) (h2 : dp + n ≤ g.length) : (fun i => (mi_cpy l g sp dp n).getD i d) = va_cpy (fun i => l.getD i d) (fun i => g.getD i d) sp dp n := by
  funext i
  unfold mi_cpy va_cpy
  show (g.take dp ++ ((l.drop sp).take n ++ g.drop (dp + n))).getD i d = if dp ≤ i ∧ i < dp + n then l.getD (sp + (i - dp)) d else g.getD i d
  rw [List.getD_eq_getElem?_getD, List.getD_eq_getElem?_getD (l := l), List.getD_eq_getElem?_getD (l := g)]
  by_cases ha : i < dp
  · rw [if_neg (by omega), List.getElem?_append_left (by rw [List.length_take]; omega), List.getElem?_take_of_lt ha]
  · rw [List.getElem?_append_right (by rw [List.length_take]; omega)]
    have hl : (g.take dp).length = dp := by rw [List.length_take]; omega
    rw [hl]
    by_cases hb : i < dp + n
    · rw [if_pos (by omega), List.getElem?_append_left (by rw [List.length_take, List.length_drop]; omega), List.getElem?_take_of_lt (by omega), List.getElem?_drop]
    · rw [if_neg (by omega), List.getElem?_append_right (by rw [List.length_take, List.length_drop]; omega)]
      have hm : ((l.drop sp).take n).length = n := by rw [List.length_take, List.length_drop]; omega
      rw [hm, List.getElem?_drop]
      congr 2
      omega
