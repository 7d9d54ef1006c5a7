theorem ko_sw {d : Nat} {q : mi_M × List (Nat × mi_I)} {P : Option Value → mi_H → Prop} (hq : q ∈ mi_prog) {pc : Nat} {ls : mi_L} {r : List Value} {cn : Nat × Nat} {h : mi_H} {v : Int32} {i : mi_I} {dd lo hi : Int} {offs : Array Int} (hf : mi_find q.2 pc = some i) (hi0 : i.1 = .tableswitch dd lo hi offs) (hv : v.toInt < lo ∨ hi < v.toInt) (t : Nat) (ht : mi_to pc dd = some t) (k : ko (d + 1) q P (t, ls, r, cn, h)) : ko (d + 1) q P (pc, ls, .int v :: r, cn, h) := by
  obtain ⟨rv, h1, a, b⟩ := k
  exact ⟨rv, h1, mi_sem_sw hq hf hi0 hv t ht a, b⟩
