/-! THE SMALL MACHINE'S HEAP: cells by place; place k is the cell at base + k; from mi_RO on, what is only read (static arrays, Strings, the script) -/
def mi_RO : Nat := 1000000
def mi_good : List Cond := lw_tbl.filter goodWord
def mi_tt0 : List Cond := lw_tbl
def mi_tt1 : List Cond := mi_tt0.drop 32
def mi_tt2 : List Cond := mi_tt1.drop 32
def mi_tt3 : List Cond := mi_tt2.drop 32
def mi_tt4 : List Cond := mi_tt3.drop 32
def mi_tt5 : List Cond := mi_tt4.drop 32
def mi_tt6 : List Cond := mi_tt5.drop 32
def mi_tt7 : List Cond := mi_tt6.drop 32
def mi_tt8 : List Cond := mi_tt7.drop 32
def mi_tt9 : List Cond := mi_tt8.drop 32
def mi_tt10 : List Cond := mi_tt9.drop 32
def mi_tt11 : List Cond := mi_tt10.drop 32
def mi_tt12 : List Cond := mi_tt11.drop 32
def mi_tt13 : List Cond := mi_tt12.drop 32
def mi_tt14 : List Cond := mi_tt13.drop 32
def mi_tt15 : List Cond := mi_tt14.drop 32
def mi_tt16 : List Cond := mi_tt15.drop 32
def mi_tt17 : List Cond := mi_tt16.drop 32
def mi_tt18 : List Cond := mi_tt17.drop 32
def mi_tt19 : List Cond := mi_tt18.drop 32
def mi_tt20 : List Cond := mi_tt19.drop 32
def mi_tt21 : List Cond := mi_tt20.drop 32
def mi_tt22 : List Cond := mi_tt21.drop 32
def mi_tt23 : List Cond := mi_tt22.drop 32
def mi_tt24 : List Cond := mi_tt23.drop 32
def mi_tt25 : List Cond := mi_tt24.drop 32
def mi_tt26 : List Cond := mi_tt25.drop 32
def mi_tt27 : List Cond := mi_tt26.drop 32
def mi_tt28 : List Cond := mi_tt27.drop 32
def mi_tt29 : List Cond := mi_tt28.drop 32
def mi_tt30 : List Cond := mi_tt29.drop 32
def mi_tt31 : List Cond := mi_tt30.drop 32
def mi_tt32 : List Cond := mi_tt31.drop 32
def mi_tt33 : List Cond := mi_tt32.drop 32
def mi_tt34 : List Cond := mi_tt33.drop 32
def mi_tt35 : List Cond := mi_tt34.drop 32
def mi_tt36 : List Cond := mi_tt35.drop 32
def mi_tt37 : List Cond := mi_tt36.drop 32
def mi_tt38 : List Cond := mi_tt37.drop 32
def mi_tt39 : List Cond := mi_tt38.drop 32
def mi_tt40 : List Cond := mi_tt39.drop 32
def mi_tt41 : List Cond := mi_tt40.drop 32
def mi_tt42 : List Cond := mi_tt41.drop 32
def mi_tt43 : List Cond := mi_tt42.drop 32
def mi_tt44 : List Cond := mi_tt43.drop 32
def mi_tt45 : List Cond := mi_tt44.drop 32
def mi_tt46 : List Cond := mi_tt45.drop 32
def mi_tt47 : List Cond := mi_tt46.drop 32
def mi_tt48 : List Cond := mi_tt47.drop 32
def mi_tt49 : List Cond := mi_tt48.drop 32
def mi_tt50 : List Cond := mi_tt49.drop 32
def mi_tt51 : List Cond := mi_tt50.drop 32
def mi_tk (k : Nat) : List Cond := (cond (Nat.blt k 26) (cond (Nat.blt k 13) (cond (Nat.blt k 6) (cond (Nat.blt k 3) (cond (Nat.blt k 1) mi_tt0 (cond (Nat.blt k 2) mi_tt1 mi_tt2)) (cond (Nat.blt k 4) mi_tt3 (cond (Nat.blt k 5) mi_tt4 mi_tt5))) (cond (Nat.blt k 9) (cond (Nat.blt k 7) mi_tt6 (cond (Nat.blt k 8) mi_tt7 mi_tt8)) (cond (Nat.blt k 11) (cond (Nat.blt k 10) mi_tt9 mi_tt10) (cond (Nat.blt k 12) mi_tt11 mi_tt12)))) (cond (Nat.blt k 19) (cond (Nat.blt k 16) (cond (Nat.blt k 14) mi_tt13 (cond (Nat.blt k 15) mi_tt14 mi_tt15)) (cond (Nat.blt k 17) mi_tt16 (cond (Nat.blt k 18) mi_tt17 mi_tt18))) (cond (Nat.blt k 22) (cond (Nat.blt k 20) mi_tt19 (cond (Nat.blt k 21) mi_tt20 mi_tt21)) (cond (Nat.blt k 24) (cond (Nat.blt k 23) mi_tt22 mi_tt23) (cond (Nat.blt k 25) mi_tt24 mi_tt25))))) (cond (Nat.blt k 39) (cond (Nat.blt k 32) (cond (Nat.blt k 29) (cond (Nat.blt k 27) mi_tt26 (cond (Nat.blt k 28) mi_tt27 mi_tt28)) (cond (Nat.blt k 30) mi_tt29 (cond (Nat.blt k 31) mi_tt30 mi_tt31))) (cond (Nat.blt k 35) (cond (Nat.blt k 33) mi_tt32 (cond (Nat.blt k 34) mi_tt33 mi_tt34)) (cond (Nat.blt k 37) (cond (Nat.blt k 36) mi_tt35 mi_tt36) (cond (Nat.blt k 38) mi_tt37 mi_tt38)))) (cond (Nat.blt k 45) (cond (Nat.blt k 42) (cond (Nat.blt k 40) mi_tt39 (cond (Nat.blt k 41) mi_tt40 mi_tt41)) (cond (Nat.blt k 43) mi_tt42 (cond (Nat.blt k 44) mi_tt43 mi_tt44))) (cond (Nat.blt k 48) (cond (Nat.blt k 46) mi_tt45 (cond (Nat.blt k 47) mi_tt46 mi_tt47)) (cond (Nat.blt k 50) (cond (Nat.blt k 49) mi_tt48 mi_tt49) (cond (Nat.blt k 51) mi_tt50 mi_tt51))))))
def mi_ta (w : Nat) : Option Cond := (mi_tk (w / 32))[w % 32]?
theorem mi_tin0 {q : Cond} (h : q ∈ mi_tt0) : q ∈ lw_tbl := h
theorem mi_tin1 {q : Cond} (h : q ∈ mi_tt1) : q ∈ lw_tbl := mi_tin0 (List.mem_of_mem_drop h)
theorem mi_tin2 {q : Cond} (h : q ∈ mi_tt2) : q ∈ lw_tbl := mi_tin1 (List.mem_of_mem_drop h)
theorem mi_tin3 {q : Cond} (h : q ∈ mi_tt3) : q ∈ lw_tbl := mi_tin2 (List.mem_of_mem_drop h)
theorem mi_tin4 {q : Cond} (h : q ∈ mi_tt4) : q ∈ lw_tbl := mi_tin3 (List.mem_of_mem_drop h)
theorem mi_tin5 {q : Cond} (h : q ∈ mi_tt5) : q ∈ lw_tbl := mi_tin4 (List.mem_of_mem_drop h)
theorem mi_tin6 {q : Cond} (h : q ∈ mi_tt6) : q ∈ lw_tbl := mi_tin5 (List.mem_of_mem_drop h)
theorem mi_tin7 {q : Cond} (h : q ∈ mi_tt7) : q ∈ lw_tbl := mi_tin6 (List.mem_of_mem_drop h)
theorem mi_tin8 {q : Cond} (h : q ∈ mi_tt8) : q ∈ lw_tbl := mi_tin7 (List.mem_of_mem_drop h)
theorem mi_tin9 {q : Cond} (h : q ∈ mi_tt9) : q ∈ lw_tbl := mi_tin8 (List.mem_of_mem_drop h)
theorem mi_tin10 {q : Cond} (h : q ∈ mi_tt10) : q ∈ lw_tbl := mi_tin9 (List.mem_of_mem_drop h)
theorem mi_tin11 {q : Cond} (h : q ∈ mi_tt11) : q ∈ lw_tbl := mi_tin10 (List.mem_of_mem_drop h)
theorem mi_tin12 {q : Cond} (h : q ∈ mi_tt12) : q ∈ lw_tbl := mi_tin11 (List.mem_of_mem_drop h)
theorem mi_tin13 {q : Cond} (h : q ∈ mi_tt13) : q ∈ lw_tbl := mi_tin12 (List.mem_of_mem_drop h)
theorem mi_tin14 {q : Cond} (h : q ∈ mi_tt14) : q ∈ lw_tbl := mi_tin13 (List.mem_of_mem_drop h)
theorem mi_tin15 {q : Cond} (h : q ∈ mi_tt15) : q ∈ lw_tbl := mi_tin14 (List.mem_of_mem_drop h)
theorem mi_tin16 {q : Cond} (h : q ∈ mi_tt16) : q ∈ lw_tbl := mi_tin15 (List.mem_of_mem_drop h)
theorem mi_tin17 {q : Cond} (h : q ∈ mi_tt17) : q ∈ lw_tbl := mi_tin16 (List.mem_of_mem_drop h)
theorem mi_tin18 {q : Cond} (h : q ∈ mi_tt18) : q ∈ lw_tbl := mi_tin17 (List.mem_of_mem_drop h)
theorem mi_tin19 {q : Cond} (h : q ∈ mi_tt19) : q ∈ lw_tbl := mi_tin18 (List.mem_of_mem_drop h)
theorem mi_tin20 {q : Cond} (h : q ∈ mi_tt20) : q ∈ lw_tbl := mi_tin19 (List.mem_of_mem_drop h)
theorem mi_tin21 {q : Cond} (h : q ∈ mi_tt21) : q ∈ lw_tbl := mi_tin20 (List.mem_of_mem_drop h)
theorem mi_tin22 {q : Cond} (h : q ∈ mi_tt22) : q ∈ lw_tbl := mi_tin21 (List.mem_of_mem_drop h)
theorem mi_tin23 {q : Cond} (h : q ∈ mi_tt23) : q ∈ lw_tbl := mi_tin22 (List.mem_of_mem_drop h)
theorem mi_tin24 {q : Cond} (h : q ∈ mi_tt24) : q ∈ lw_tbl := mi_tin23 (List.mem_of_mem_drop h)
theorem mi_tin25 {q : Cond} (h : q ∈ mi_tt25) : q ∈ lw_tbl := mi_tin24 (List.mem_of_mem_drop h)
theorem mi_tin26 {q : Cond} (h : q ∈ mi_tt26) : q ∈ lw_tbl := mi_tin25 (List.mem_of_mem_drop h)
theorem mi_tin27 {q : Cond} (h : q ∈ mi_tt27) : q ∈ lw_tbl := mi_tin26 (List.mem_of_mem_drop h)
theorem mi_tin28 {q : Cond} (h : q ∈ mi_tt28) : q ∈ lw_tbl := mi_tin27 (List.mem_of_mem_drop h)
theorem mi_tin29 {q : Cond} (h : q ∈ mi_tt29) : q ∈ lw_tbl := mi_tin28 (List.mem_of_mem_drop h)
theorem mi_tin30 {q : Cond} (h : q ∈ mi_tt30) : q ∈ lw_tbl := mi_tin29 (List.mem_of_mem_drop h)
theorem mi_tin31 {q : Cond} (h : q ∈ mi_tt31) : q ∈ lw_tbl := mi_tin30 (List.mem_of_mem_drop h)
theorem mi_tin32 {q : Cond} (h : q ∈ mi_tt32) : q ∈ lw_tbl := mi_tin31 (List.mem_of_mem_drop h)
theorem mi_tin33 {q : Cond} (h : q ∈ mi_tt33) : q ∈ lw_tbl := mi_tin32 (List.mem_of_mem_drop h)
theorem mi_tin34 {q : Cond} (h : q ∈ mi_tt34) : q ∈ lw_tbl := mi_tin33 (List.mem_of_mem_drop h)
theorem mi_tin35 {q : Cond} (h : q ∈ mi_tt35) : q ∈ lw_tbl := mi_tin34 (List.mem_of_mem_drop h)
theorem mi_tin36 {q : Cond} (h : q ∈ mi_tt36) : q ∈ lw_tbl := mi_tin35 (List.mem_of_mem_drop h)
theorem mi_tin37 {q : Cond} (h : q ∈ mi_tt37) : q ∈ lw_tbl := mi_tin36 (List.mem_of_mem_drop h)
theorem mi_tin38 {q : Cond} (h : q ∈ mi_tt38) : q ∈ lw_tbl := mi_tin37 (List.mem_of_mem_drop h)
theorem mi_tin39 {q : Cond} (h : q ∈ mi_tt39) : q ∈ lw_tbl := mi_tin38 (List.mem_of_mem_drop h)
theorem mi_tin40 {q : Cond} (h : q ∈ mi_tt40) : q ∈ lw_tbl := mi_tin39 (List.mem_of_mem_drop h)
theorem mi_tin41 {q : Cond} (h : q ∈ mi_tt41) : q ∈ lw_tbl := mi_tin40 (List.mem_of_mem_drop h)
theorem mi_tin42 {q : Cond} (h : q ∈ mi_tt42) : q ∈ lw_tbl := mi_tin41 (List.mem_of_mem_drop h)
theorem mi_tin43 {q : Cond} (h : q ∈ mi_tt43) : q ∈ lw_tbl := mi_tin42 (List.mem_of_mem_drop h)
theorem mi_tin44 {q : Cond} (h : q ∈ mi_tt44) : q ∈ lw_tbl := mi_tin43 (List.mem_of_mem_drop h)
theorem mi_tin45 {q : Cond} (h : q ∈ mi_tt45) : q ∈ lw_tbl := mi_tin44 (List.mem_of_mem_drop h)
theorem mi_tin46 {q : Cond} (h : q ∈ mi_tt46) : q ∈ lw_tbl := mi_tin45 (List.mem_of_mem_drop h)
theorem mi_tin47 {q : Cond} (h : q ∈ mi_tt47) : q ∈ lw_tbl := mi_tin46 (List.mem_of_mem_drop h)
theorem mi_tin48 {q : Cond} (h : q ∈ mi_tt48) : q ∈ lw_tbl := mi_tin47 (List.mem_of_mem_drop h)
theorem mi_tin49 {q : Cond} (h : q ∈ mi_tt49) : q ∈ lw_tbl := mi_tin48 (List.mem_of_mem_drop h)
theorem mi_tin50 {q : Cond} (h : q ∈ mi_tt50) : q ∈ lw_tbl := mi_tin49 (List.mem_of_mem_drop h)
theorem mi_tin51 {q : Cond} (h : q ∈ mi_tt51) : q ∈ lw_tbl := mi_tin50 (List.mem_of_mem_drop h)
theorem mi_tbr {q : Cond} {b : Bool} {A B : List Cond} (hA : q ∈ A → q ∈ lw_tbl) (hB : q ∈ B → q ∈ lw_tbl) (h : q ∈ cond b A B) : q ∈ lw_tbl := by
  cases b
  · exact hB h
  · exact hA h
theorem mi_tk_in {k : Nat} {q : Cond} (h : q ∈ mi_tk k) : q ∈ lw_tbl := (mi_tbr (mi_tbr (mi_tbr (mi_tbr (mi_tbr mi_tin0 (mi_tbr mi_tin1 mi_tin2)) (mi_tbr mi_tin3 (mi_tbr mi_tin4 mi_tin5))) (mi_tbr (mi_tbr mi_tin6 (mi_tbr mi_tin7 mi_tin8)) (mi_tbr (mi_tbr mi_tin9 mi_tin10) (mi_tbr mi_tin11 mi_tin12)))) (mi_tbr (mi_tbr (mi_tbr mi_tin13 (mi_tbr mi_tin14 mi_tin15)) (mi_tbr mi_tin16 (mi_tbr mi_tin17 mi_tin18))) (mi_tbr (mi_tbr mi_tin19 (mi_tbr mi_tin20 mi_tin21)) (mi_tbr (mi_tbr mi_tin22 mi_tin23) (mi_tbr mi_tin24 mi_tin25))))) (mi_tbr (mi_tbr (mi_tbr (mi_tbr mi_tin26 (mi_tbr mi_tin27 mi_tin28)) (mi_tbr mi_tin29 (mi_tbr mi_tin30 mi_tin31))) (mi_tbr (mi_tbr mi_tin32 (mi_tbr mi_tin33 mi_tin34)) (mi_tbr (mi_tbr mi_tin35 mi_tin36) (mi_tbr mi_tin37 mi_tin38)))) (mi_tbr (mi_tbr (mi_tbr mi_tin39 (mi_tbr mi_tin40 mi_tin41)) (mi_tbr mi_tin42 (mi_tbr mi_tin43 mi_tin44))) (mi_tbr (mi_tbr mi_tin45 (mi_tbr mi_tin46 mi_tin47)) (mi_tbr (mi_tbr mi_tin48 mi_tin49) (mi_tbr mi_tin50 mi_tin51)))))) h
theorem mi_ta_in {w : Nat} {q : Cond} (h : mi_ta w = some q) : q ∈ lw_tbl := mi_tk_in (List.mem_of_getElem? h)
def mi_wd (w : Nat) (q : Cond) : Bool := decide (mi_ta w = some q) && goodWord q
theorem mi_wd_in {w : Nat} {q : Cond} (h : mi_wd w q = true) : q ∈ mi_good := by
  obtain ⟨h1, h2⟩ := Bool.and_eq_true_iff.mp h
  exact List.mem_filter.mpr ⟨mi_ta_in (of_decide_eq_true h1), h2⟩
theorem mi_good_self {ws : List Cond} (h : ∀ w ∈ ws, w ∈ mi_good) : GoodIn mi_good ws := fun w hw => ⟨h w hw, good_of_word (List.mem_filter.mp (h w hw)).2⟩
def mi_ad (base : Nat) (ra : Nat → Nat) (k : Nat) : Nat := match Nat.blt k mi_RO with
  | true => base + k
  | false => ra (k - mi_RO)
theorem mi_ad_lo {base : Nat} {ra : Nat → Nat} {k : Nat} (h : Nat.blt k mi_RO = true) : mi_ad base ra k = base + k := by unfold mi_ad; rw [h]
theorem mi_ad_hi {base : Nat} {ra : Nat → Nat} {k : Nat} (h : Nat.blt k mi_RO = false) : mi_ad base ra k = ra (k - mi_RO) := by unfold mi_ad; rw [h]
def mi_rA (ad : Nat → Nat) : mi_A → vp_A
  | .inl l => (l.length, .inl (fun i => l.getD i 0))
  | .inr (.inl l) => (l.length, .inr (.inl (fun i => l.getD i 0)))
  | .inr (.inr l) => (l.length, .inr (.inr (.inr (.inr (fun i => (l.getD i none).map ad)))))
def mi_rE (ad : Nat → Nat) (cT : FieldType → ClassId) : mi_E → va_E
  | .inl o => .inr (o.1, mi_st ad o.2)
  | .inr a => .inl (cT a.1, mi_rA ad a.2)
def mi_W (base : Nat) (ra : Nat → Nat) (cT : FieldType → ClassId) (h : mi_H) : va_W := h.mapIdx (fun k x => (base + k, mi_rE (mi_ad base ra) cT x))
theorem mi_W_get {base : Nat} {ra : Nat → Nat} {cT : FieldType → ClassId} {h : mi_H} {k : Nat} {x : mi_E} (hk : h[k]? = some x) : (mi_W base ra cT h)[k]? = some (base + k, mi_rE (mi_ad base ra) cT x) := by
  unfold mi_W
  rw [List.getElem?_mapIdx, hk]
  rfl
theorem mi_W_inv {base : Nat} {ra : Nat → Nat} {cT : FieldType → ClassId} {h : mi_H} {k : Nat} {q : Nat × va_E} (hk : (mi_W base ra cT h)[k]? = some q) : q.1 = base + k ∧ k < h.length := by
  unfold mi_W at hk
  rw [List.getElem?_mapIdx] at hk
  cases hh : h[k]? with
  | none => rw [hh] at hk; cases hk
  | some x =>
    rw [hh] at hk
    cases hk
    exact ⟨rfl, (List.getElem?_eq_some_iff.mp hh).1⟩
theorem mi_W_set (base : Nat) (ra : Nat → Nat) (cT : FieldType → ClassId) (h : mi_H) (k : Nat) (x : mi_E) : (mi_W base ra cT h).set k (base + k, mi_rE (mi_ad base ra) cT x) = mi_W base ra cT (h.set k x) := by
  unfold mi_W
  apply List.ext_getElem?
  intro i
  rw [List.getElem?_mapIdx, List.getElem?_set, List.getElem?_set, List.getElem?_mapIdx, List.length_mapIdx]
  by_cases e : k = i
  · subst e
    by_cases hl : k < h.length
    · simp [hl]
    · simp [hl]
  · simp [e]
theorem mi_W_push (base : Nat) (ra : Nat → Nat) (cT : FieldType → ClassId) (h : mi_H) (x : mi_E) : mi_W base ra cT (h ++ [x]) = mi_W base ra cT h ++ [(base + h.length, mi_rE (mi_ad base ra) cT x)] := by
  unfold mi_W
  simp [List.mapIdx_append]
theorem mi_D (base : Nat) (ra : Nat → Nat) (cT : FieldType → ClassId) (h : mi_H) : va_D (fun q : Nat => base ≤ q) (mi_W base ra cT h) := by
  refine ⟨fun i j x y hi hj hxy => ?_, fun k q hk => ?_⟩
  · have h1 := (mi_W_inv hi).1
    have h2 := (mi_W_inv hj).1
    omega
  · have h1 := (mi_W_inv hk).1
    omega
/-- lists as functions -/
theorem mi_getD_set {α : Type} (l : List α) (d : α) (k : Nat) (x : α) (hk : k < l.length) : (fun i => (l.set k x).getD i d) = (fun i => if i = k then x else l.getD i d) := by
  funext i
  rw [List.getD_eq_getElem?_getD, List.getD_eq_getElem?_getD, List.getElem?_set]
  by_cases e : k = i
  · subst e
    simp [hk]
  · rw [if_neg e, if_neg (fun z => e z.symm)]
def mi_cpy {α : Type} (l g : List α) (sp dp n : Nat) : List α := g.take dp ++ ((l.drop sp).take n ++ g.drop (dp + n))
theorem mi_cpy_len {α : Type} {l g : List α} {sp dp n : Nat} (h1 : sp + n ≤ l.length) (h2 : dp + n ≤ g.length) : (mi_cpy l g sp dp n).length = g.length := by
  unfold mi_cpy
  simp only [List.length_append, List.length_take, List.length_drop]
  omega
theorem mi_cpy_get {α : Type} {l g : List α} {sp dp n : Nat} (d : α) (h1 : sp + n ≤ l.length) (h2 : dp + n ≤ g.length) : (fun i => (mi_cpy l g sp dp n).getD i d) = va_cpy (fun i => l.getD i d) (fun i => g.getD i d) sp dp n := by
  funext i
  unfold mi_cpy va_cpy
  show (g.take dp ++ ((l.drop sp).take n ++ g.drop (dp + n))).getD i d = if dp ≤ i ∧ i < dp + n then l.getD (sp + (i - dp)) d else g.getD i d
  rw [List.getD_eq_getElem?_getD, List.getD_eq_getElem?_getD (l := l), List.getD_eq_getElem?_getD (l := g)]
  by_cases ha : i < dp
  · rw [if_neg (by omega), List.getElem?_append_left (by rw [List.length_take]; omega), List.getElem?_take_of_lt ha]
  · rw [List.getElem?_append_right (by rw [List.length_take]; omega)]
    have hl : (g.take dp).length = dp := by rw [List.length_take]; omega
    rw [hl]
    by_cases hb : i < dp + n
    · rw [if_pos (by omega), List.getElem?_append_left (by rw [List.length_take, List.length_drop]; omega), List.getElem?_take_of_lt (by omega), List.getElem?_drop]
    · rw [if_neg (by omega), List.getElem?_append_right (by rw [List.length_take, List.length_drop]; omega)]
      have hm : ((l.drop sp).take n).length = n := by rw [List.length_take, List.length_drop]; omega
      rw [hm, List.getElem?_drop]
      congr 2
      omega
