/-! THE SMALL MACHINE'S STEPS AT THE HEAP -/
/-- what is only read: statics by number, arrays and objects by number -/
abbrev mi_N : Type := (Nat → Option Value) × (Nat → Option (FieldType × List Int32)) × (Nat → Nat → Option Value)
def mi_AOA (U : State) : Prop := (Cond.arrayOver (.array .int)).before #[] U = true
theorem mi_bare (vm : Vm) (comp : ClassId) : (vm.bare.classes.findIdx? fun (x : Class) => match x.kind with | .array component _ => component == comp | _ => false) = (vm.classes.findIdx? fun (x : Class) => match x.kind with | .array component _ => component == comp | _ => false) := by
  simp only [Vm.bare, Array.findIdx?_map]
  rfl
theorem mi_AOA_moved {u U : State} (hvm : u.vm.Alike U.vm) (h : mi_AOA u) : mi_AOA U := by
  obtain ⟨comp, c, k, h1, h2, h3, h4, h5⟩ := arrayOver_specB h
  obtain ⟨k', hk', he⟩ := hvm.2.2 _ _ h3
  have hi : (U.vm.classes.findIdx? fun (x : Class) => match x.kind with | .array component _ => component == comp | _ => false) = some c := by
    rw [← mi_bare]
    first | rw [hvm.bare_eq] | rw [← hvm.bare_eq]
    rw [mi_bare]
    exact h2
  have hkind : k'.kind = .array comp (.array .int) := by rw [he]; exact h4
  have f1 : U.vm.findClass (FieldType.array .int).toString = some comp := by rw [hvm.findClass]; exact h1
  have f2 : U.vm.findClass ("[" ++ (FieldType.array .int).toString) = some c := by rw [hvm.findClass]; exact h5
  unfold mi_AOA Cond.before Cond.holds
  simp only [Cond.value]
  rw [f1, Option.bind_some]
  refine (congrArg (fun o : Option Nat => (o.bind (fun c => (U.vm.classes[c]?).map fun (k : Class) => match k.kind with | .array _ ty => decide (ty = FieldType.array .int) && decide (U.vm.findClass ("[" ++ (FieldType.array .int).toString) = some c) | _ => false) == some true)) hi).trans ?_
  simp [hk', hkind, f2]
/-- what the worlds do not hold: statics, arrays and Strings that are only read; words that are not good; the array classes -/
def mi_Ext (N : mi_N) (base : Nat) (ra : Nat → Nat) (cT : FieldType → ClassId) (A : Nat → Prop) (U : State) (H : Heap) : Prop :=
  (∀ z v, N.1 z = some v → ∃ q, mi_sn[z]? = some q ∧ va_Z q.1 q.2.1 q.2.2 (mi_v (mi_ad base ra) v) A U H) ∧
  (∀ j ty l, N.2.1 j = some (ty, l) → va_T ty (ra j) l.length (fun i => .int (l.getD i 0)) A U H) ∧
  (∀ j k v, N.2.2 j k = some v → va_O "java/lang/String" (ra j) A U H ∧ ∃ q, mi_of[k]? = some q ∧ va_OF "java/lang/String" q.1 q.2 (mi_v (mi_ad base ra) v) (ra j) A U H) ∧
  (∀ w ∈ mi_nest, va_Nw w U) ∧ (∀ q ∈ mi_strs, vk_R q.1 q.2.1 q.2.2.1 (ra (10 + q.2.2.2)) U) ∧ va_AO "ThirdAfter$Shelf" U ∧ mi_AOA U ∧
  (∀ ty c, U.vm.findClass ("[" ++ FieldType.toString ty) = some c → cT ty = c)
theorem mi_nest_ok : ∀ w ∈ mi_nest, w.onTables = true ∧ ((∃ a i b n d h, w = .fieldLinkNest a i b n d h) ∨ ∃ a i x h, w = .methodLinkNest a i x h) := by
  intro w hw
  simp only [mi_nest, List.mem_cons, List.not_mem_nil, or_false] at hw
  rcases hw with h | h | h | h | h | h | h | h | h | h | h | h <;> subst h <;> refine ⟨rfl, ?_⟩
  all_goals first | exact Or.inl ⟨_, _, _, _, _, _, rfl⟩ | exact Or.inr ⟨_, _, _, _, rfl⟩
theorem mi_Ext.kept {N : mi_N} {base : Nat} {ra : Nat → Nat} {cT : FieldType → ClassId} {A : Nat → Prop} {U : State} {H H1 : Heap} (h : mi_Ext N base ra cT A U H) (hq : ∀ a : Nat, a < H.size → ¬ A a → H1[a]? = H[a]?) : mi_Ext N base ra cT A U H1 := by
  obtain ⟨h1, h2, h3, h4⟩ := h
  refine ⟨fun z v hz => ?_, fun j ty l hj => (h2 j ty l hj).kept hq, fun j k v hj => ?_, h4⟩
  · obtain ⟨q, a, b⟩ := h1 z v hz
    exact ⟨q, a, b.kept hq⟩
  · obtain ⟨a, q, b, d⟩ := h3 j k v hj
    exact ⟨a.kept hq, q, b, d.kept hq⟩
theorem mi_Ext.warm {N : mi_N} {base : Nat} {ra : Nat → Nat} {cT : FieldType → ClassId} {A : Nat → Prop} {s U : State} {H : Heap} (hW : s.WarmedH U.vm) (h : mi_Ext N base ra cT A s H) : mi_Ext N base ra cT A U H := by
  obtain ⟨h1, h2, h3, h4, h5, h6, h7, h8⟩ := h
  have hvm := hW.alike
  refine ⟨fun z v hz => ?_, fun j ty l hj => (h2 j ty l hj).moved hvm, fun j k v hj => ?_, fun w hw => ?_, fun q hq => (h5 q hq).warm hW, h6.moved hvm, mi_AOA_moved hvm h7, fun ty c hc => h8 ty c (by rw [← hvm.findClass]; exact hc)⟩
  · obtain ⟨q, a, b⟩ := h1 z v hz
    exact ⟨q, a, b.moved hvm⟩
  · obtain ⟨a, q, b, d⟩ := h3 j k v hj
    exact ⟨a.moved hvm, q, b, d.moved hvm⟩
  · have hz := h4 w hw
    rcases (mi_nest_ok w hw).2 with ⟨a, i, b, n, d, x, rfl⟩ | ⟨a, i, x, y, rfl⟩
    · exact hz.warmF hW
    · exact hz.warmM hW
theorem mi_Ext.same {N : mi_N} {base : Nat} {ra : Nat → Nat} {cT : FieldType → ClassId} {A : Nat → Prop} {u U : State} {H : Heap} (hv : u.vm = U.vm) (h : mi_Ext N base ra cT A u H) : mi_Ext N base ra cT A U H := by
  obtain ⟨h1, h2, h3, h4, h5, h6, h7, h8⟩ := h
  have hvm : u.vm.Alike U.vm := by rw [hv]; exact Vm.Alike.refl _
  refine ⟨fun z v hz => ?_, fun j ty l hj => (h2 j ty l hj).moved hvm, fun j k v hj => ?_, fun w hw => (h4 w hw).same (mi_nest_ok w hw).1 hv, fun q hq => (h5 q hq).same hv.symm, h6.moved hvm, mi_AOA_moved hvm h7, fun ty c hc => h8 ty c (by rw [hv]; exact hc)⟩
  · obtain ⟨q, a, b⟩ := h1 z v hz
    exact ⟨q, a, b.moved hvm⟩
  · obtain ⟨a, q, b, d⟩ := h3 j k v hj
    exact ⟨a.moved hvm, q, b, d.moved hvm⟩
/-- the classes of the worlds; the array classes of a heap -/
def mi_Kn (D : va_G) (U : State) : Prop := ∀ (k : Nat) (q : vw_C), vwCl[k]? = some q → u_Kn U q.1 q.2.1 q.2.2 (D.1 k) (D.2 k)
def mi_KA (cT : FieldType → ClassId) (h : mi_H) (U : State) : Prop := ∀ (k : Nat) (ty : FieldType) (a : mi_A), h[k]? = some (.inr (ty, a)) → ArrOfT U (cT ty) ty ∧ va_RA U (cT ty) ty
theorem mi_KA.moved {cT : FieldType → ClassId} {h : mi_H} {u U : State} (hvm : u.vm.Alike U.vm) (hk : mi_KA cT h u) : mi_KA cT h U := fun k ty a e => ⟨arrOfT_moved hvm (hk k ty a e).1, (hk k ty a e).2.moved hvm⟩
theorem mi_Kn.moved {D : va_G} {u U : State} (hvm : u.vm.Alike U.vm) (hk : mi_Kn D u) : mi_Kn D U := fun k q e => u_Kn_moved hvm (hk k q e)
theorem mi_KA.obj {cT : FieldType → ClassId} {h : mi_H} {U : State} (hk : mi_KA cT h U) (k : Nat) (o : Nat × List Value) : mi_KA cT (h.set k (.inl o)) U := fun j ty a e => by
  rw [List.getElem?_set] at e
  split at e
  · split at e <;> cases e
  · exact hk j ty a e
theorem mi_KA.arr {cT : FieldType → ClassId} {h : mi_H} {U : State} (hk : mi_KA cT h U) {k : Nat} {ty : FieldType} {a0 : mi_A} (e0 : h[k]? = some (.inr (ty, a0))) (a1 : mi_A) : mi_KA cT (h.set k (.inr (ty, a1))) U := fun j ty2 a e => by
  rw [List.getElem?_set] at e
  split at e
  next q =>
    split at e
    · cases e
      exact hk k ty a0 e0
    · cases e
  next => exact hk j ty2 a e
theorem mi_KA.push {cT : FieldType → ClassId} {h : mi_H} {U : State} (hk : mi_KA cT h U) (x : mi_E) (hx : ∀ ty a, x = .inr (ty, a) → ArrOfT U (cT ty) ty ∧ va_RA U (cT ty) ty) : mi_KA cT (h ++ [x]) U := fun j ty a e => by
  rw [List.getElem?_append] at e
  split at e
  · exact hk j ty a e
  · have hz : j - h.length < 1 := (List.getElem?_eq_some_iff.mp e).1
    rw [show j - h.length = 0 by omega] at e
    cases e
    exact hx ty a rfl
theorem mi_KA.K {cT : FieldType → ClassId} {h : mi_H} {U : State} {D : va_G} (hk : mi_KA cT h U) (hn : mi_Kn D U) {k : Nat} {ty : FieldType} {a : mi_A} (e : h[k]? = some (.inr (ty, a))) : va_K D vwCl [(cT ty, ty)] U := ⟨hn, fun j q hj => by
  have hz : j < 1 := (List.getElem?_eq_some_iff.mp hj).1
  rw [show j = 0 by omega] at hj
  cases hj
  exact hk k ty a e⟩
theorem mi_Kn.K0 {D : va_G} {U : State} (hn : mi_Kn D U) : va_K D vwCl [] U := ⟨hn, fun j q hj => by simp at hj⟩
def mi_okv : FieldType → Value → Bool
  | .int, .int _ => true
  | .long, .long _ => true
  | .boolean, .int v => v == 0 || v == 1
  | .byte, .int v => v.toInt8.toInt32 == v && (decide (-128 ≤ v) && decide (v ≤ 127))
  | .object _, .ref _ => true
  | .array _, .ref _ => true
  | _, _ => false
theorem mi_okv_n {ad : Nat → Nat} {ty : FieldType} {v : Value} (h : mi_okv ty v = true) : narrow ty (mi_v ad v) = mi_v ad v ∧ fits ty (mi_v ad v) = true := by
  unfold mi_okv at h
  split at h
  · exact ⟨rfl, rfl⟩
  · exact ⟨rfl, rfl⟩
  next x =>
    rcases Bool.or_eq_true_iff.mp h with e | e <;> cases (beq_iff_eq.mp e) <;> exact ⟨rfl, rfl⟩
  next x =>
    obtain ⟨h1, h2⟩ := Bool.and_eq_true_iff.mp h
    exact ⟨congrArg Value.int (beq_iff_eq.mp h1), h2⟩
  · exact ⟨rfl, rfl⟩
  · exact ⟨rfl, rfl⟩
  · cases h
