/-! THE START: what the law stands on, out of what its entry gives -/
noncomputable def ms_nw : List Cond := flatC (Cond.and given_1 narrow_1)
noncomputable def ms_l_least : List Int32 := [0, 0, 0, 0, 1, 0, 0]
theorem ms_e_least : ∀ j : Nat, j < 7 → Cond.eq (.elem (.static "ThirdAfter" "LEAST_NUMBER" "[I") (.int (Int32.ofNat j))) (.int (ms_l_least.getD j 0)) ∈ ms_nw := by decide +kernel
theorem ms_s_least : (Cond.arrayOf (.static "ThirdAfter" "LEAST_NUMBER" "[I") .int) ∈ ms_nw ∧ (Cond.eq (.length (.static "ThirdAfter" "LEAST_NUMBER" "[I")) (.int (Int32.ofNat 7))) ∈ ms_nw ∧ Cond.laysStatic "ThirdAfter" "LEAST_NUMBER" "[I" ∈ lw_tbl ∧ Cond.initialized "ThirdAfter" ∈ lw_tbl := by decide +kernel
noncomputable def ms_l_most : List Int32 := [999, 9, 9, 1, 5, 1, 99]
theorem ms_e_most : ∀ j : Nat, j < 7 → Cond.eq (.elem (.static "ThirdAfter" "MOST_NUMBER" "[I") (.int (Int32.ofNat j))) (.int (ms_l_most.getD j 0)) ∈ ms_nw := by decide +kernel
theorem ms_s_most : (Cond.arrayOf (.static "ThirdAfter" "MOST_NUMBER" "[I") .int) ∈ ms_nw ∧ (Cond.eq (.length (.static "ThirdAfter" "MOST_NUMBER" "[I")) (.int (Int32.ofNat 7))) ∈ ms_nw ∧ Cond.laysStatic "ThirdAfter" "MOST_NUMBER" "[I" ∈ lw_tbl ∧ Cond.initialized "ThirdAfter" ∈ lw_tbl := by decide +kernel
noncomputable def ms_l_own : List Int32 := [1, 10, 11, 2, 20, 0, 0, 0, 0, 30, 0, 0, 0, 41, 40, 0, 0, 0, 50, 0, 0, 0, 0, 60, 70, 0, 0, 0, 0, 80, 0, 81]
theorem ms_e_own : ∀ j : Nat, j < 32 → Cond.eq (.elem (.static "ThirdAfter$Latches" "OWN_BODY" "[I") (.int (Int32.ofNat j))) (.int (ms_l_own.getD j 0)) ∈ ms_nw := by decide +kernel
theorem ms_s_own : (Cond.arrayOf (.static "ThirdAfter$Latches" "OWN_BODY" "[I") .int) ∈ ms_nw ∧ (Cond.eq (.length (.static "ThirdAfter$Latches" "OWN_BODY" "[I")) (.int (Int32.ofNat 32))) ∈ ms_nw ∧ Cond.laysStatic "ThirdAfter$Latches" "OWN_BODY" "[I" ∈ lw_tbl ∧ Cond.initialized "ThirdAfter$Latches" ∈ lw_tbl := by decide +kernel
noncomputable def ms_l_above : List Int32 := [-1, 0, 0, 2, 1, 3, 0, 4]
theorem ms_e_above : ∀ j : Nat, j < 8 → Cond.eq (.elem (.static "ThirdAfter$Latches" "ABOVE" "[I") (.int (Int32.ofNat j))) (.int (ms_l_above.getD j 0)) ∈ ms_nw := by decide +kernel
theorem ms_s_above : (Cond.arrayOf (.static "ThirdAfter$Latches" "ABOVE" "[I") .int) ∈ ms_nw ∧ (Cond.eq (.length (.static "ThirdAfter$Latches" "ABOVE" "[I")) (.int (Int32.ofNat 8))) ∈ ms_nw ∧ Cond.laysStatic "ThirdAfter$Latches" "ABOVE" "[I" ∈ lw_tbl ∧ Cond.initialized "ThirdAfter$Latches" ∈ lw_tbl := by decide +kernel
theorem ms_comp : Cond.eq (.static "java/lang/String" "COMPACT_STRINGS" "Z") (.int 1) ∈ ms_nw ∧ Cond.laysStatic "java/lang/String" "COMPACT_STRINGS" "Z" ∈ lw_tbl ∧ Cond.initialized "java/lang/String" ∈ lw_tbl := by decide +kernel
noncomputable def ms_tm (i : Nat) : Term := match i with
  | 0 => .string "ThirdAfter$Market" 74
  | 1 => .string "ThirdAfter$Tape" 100
  | 2 => .string "ThirdAfter$Tape" 90
  | 3 => .string "ThirdAfter$Tape" 85
  | _ => .string "ThirdAfter$Tape" 76
noncomputable def ms_len : List Nat := [6, 3, 3, 2, 3]
theorem ms_st1 : ∀ i : Nat, i < 5 → Cond.exactly (ms_tm i) "java/lang/String" ∈ ms_nw ∧ Cond.eq (.field (ms_tm i) "java/lang/String" "coder" "B") (.int 0) ∈ ms_nw ∧ Cond.arrayOf (.field (ms_tm i) "java/lang/String" "value" "[B") .byte ∈ ms_nw ∧ Cond.eq (.length (.field (ms_tm i) "java/lang/String" "value" "[B")) (.int (Int32.ofNat (ms_len.getD i 0))) ∈ ms_nw ∧ ms_len.getD i 0 < 2 ^ 31 := by decide +kernel
theorem ms_st2 : ∀ i : Nat, i < 5 → ∀ j : Nat, j < ms_len.getD i 0 → Cond.eq (.elem (.field (ms_tm i) "java/lang/String" "value" "[B") (.int (Int32.ofNat j))) (.int ((mi_byt.getD i []).getD j 0)) ∈ ms_nw := by decide +kernel
theorem ms_st3 : ∀ i : Nat, i < 5 → ∀ j : Nat, j < 5 → i = j ∨ Cond.not (Cond.eq (ms_tm i) (ms_tm j)) ∈ ms_nw ∨ Cond.not (Cond.eq (ms_tm j) (ms_tm i)) ∈ ms_nw := by decide +kernel
theorem ms_st4 : Cond.eq (.string "ThirdAfter$Market" 74) (.string "ThirdAfter$Tape" 98) ∈ ms_nw := by decide +kernel
theorem ms_nest : ∀ w ∈ mi_nest, w ∈ lw_tbl := by decide +kernel
theorem ms_strs : ∀ q ∈ mi_strs, Cond.stringRef q.1 q.2.1 q.2.2.1 ∈ lw_tbl := by decide +kernel
theorem ms_ao : Cond.arrayOver (.object "ThirdAfter$Shelf") ∈ lw_tbl ∧ Cond.arrayOver (.array .int) ∈ lw_tbl := by decide +kernel
theorem ms_kn {s : State} {args : Array Value} (hgood : ∀ w ∈ mi_good, w.before args s = true) : ∃ D : va_G, mi_Kn D s := by
  have h0 : ∀ k : Nat, ∃ z : ClassId × (Nat → Nat), ∀ q, vwCl[k]? = some q → u_Kn s q.1 q.2.1 q.2.2 z.1 z.2 := by
    intro k
    cases hk : vwCl[k]? with
    | none => exact ⟨((0 : Nat), fun _ => 0), fun q hq => by cases hq⟩
    | some q =>
      have hc := mi_cl_ok k q hk
      obtain ⟨cC, iS, h⟩ := u_known (N := q.2.2) hgood hc.1 (hgood _ hc.2.2.2.2.2.1)
      exact ⟨(cC, iS), fun q1 hq => by cases hq; exact h⟩
  obtain ⟨f, hf⟩ := Classical.axiomOfChoice h0
  exact ⟨(fun k => (f k).1, fun k => (f k).2), fun k q hq => hf k q hq⟩
noncomputable def ms_ra (b t1 t2 t3 t4 : Nat) (adK adV : Nat → Nat) (j : Nat) : Nat := match j with
  | 0 => b
  | 1 => t1
  | 2 => t2
  | 3 => t3
  | 4 => t4
  | k + 5 => bif Nat.blt k 15 then adK (k - 5) else adV (k - 15)
set_option maxHeartbeats 4000000 in
theorem ms_cx {p : Program} {s : State} {m : MethodId} {meth : Method} {c : Code} {b L : Nat} {xs : Nat → Int32} (C0 : lw_At p s m meth c b L xs) : ∃ (ra : Nat → Nat) (cT : FieldType → ClassId) (D : va_G), mi_CxL p s m c b ra cT D ((List.range L).map xs) ∧ ra 0 = b := by
  obtain ⟨hx, hb, hr, hml, hown, hts, hX, hbl, hlocks, hgv⟩ := C0
  have hs : ∀ w ∈ ms_nw, w.before #[Value.ref b] s = true := flat_of_before _ hgv
  have hgood : ∀ w ∈ mi_good, w.before #[Value.ref b] s = true := fun w hw => hts w (List.mem_filter.mp hw).1
  obtain ⟨D, hD⟩ := ms_kn hgood
  have hA : ∀ a : Nat, a < s.heap.size → ¬ s.heap.size ≤ a := fun a ha => Nat.not_le.mpr ha
  obtain ⟨t_least, et_least, hT_least⟩ := va_Tof (args := #[Value.ref b]) (s := s) (tm := (.static "ThirdAfter" "LEAST_NUMBER" "[I")) (ty := .int) (N := 7) (f := fun j => .int (ms_l_least.getD j 0)) (A := fun q : Nat => s.heap.size ≤ q) (by decide) (hs _ ms_s_least.1) (va_eqt (hs _ ms_s_least.2.1)) (fun j hj => va_eqt (hs _ (ms_e_least j hj))) hA
  have hZ_least := va_Zref (A := fun q : Nat => s.heap.size ≤ q) (hts _ ms_s_least.2.2.1) (hts _ ms_s_least.2.2.2) et_least hA
  obtain ⟨t_most, et_most, hT_most⟩ := va_Tof (args := #[Value.ref b]) (s := s) (tm := (.static "ThirdAfter" "MOST_NUMBER" "[I")) (ty := .int) (N := 7) (f := fun j => .int (ms_l_most.getD j 0)) (A := fun q : Nat => s.heap.size ≤ q) (by decide) (hs _ ms_s_most.1) (va_eqt (hs _ ms_s_most.2.1)) (fun j hj => va_eqt (hs _ (ms_e_most j hj))) hA
  have hZ_most := va_Zref (A := fun q : Nat => s.heap.size ≤ q) (hts _ ms_s_most.2.2.1) (hts _ ms_s_most.2.2.2) et_most hA
  obtain ⟨t_own, et_own, hT_own⟩ := va_Tof (args := #[Value.ref b]) (s := s) (tm := (.static "ThirdAfter$Latches" "OWN_BODY" "[I")) (ty := .int) (N := 32) (f := fun j => .int (ms_l_own.getD j 0)) (A := fun q : Nat => s.heap.size ≤ q) (by decide) (hs _ ms_s_own.1) (va_eqt (hs _ ms_s_own.2.1)) (fun j hj => va_eqt (hs _ (ms_e_own j hj))) hA
  have hZ_own := va_Zref (A := fun q : Nat => s.heap.size ≤ q) (hts _ ms_s_own.2.2.1) (hts _ ms_s_own.2.2.2) et_own hA
  obtain ⟨t_above, et_above, hT_above⟩ := va_Tof (args := #[Value.ref b]) (s := s) (tm := (.static "ThirdAfter$Latches" "ABOVE" "[I")) (ty := .int) (N := 8) (f := fun j => .int (ms_l_above.getD j 0)) (A := fun q : Nat => s.heap.size ≤ q) (by decide) (hs _ ms_s_above.1) (va_eqt (hs _ ms_s_above.2.1)) (fun j hj => va_eqt (hs _ (ms_e_above j hj))) hA
  have hZ_above := va_Zref (A := fun q : Nat => s.heap.size ≤ q) (hts _ ms_s_above.2.2.1) (hts _ ms_s_above.2.2.2) et_above hA
  have hZ_comp := va_Zof (A := fun q : Nat => s.heap.size ≤ q) (hts _ ms_comp.2.1) (hts _ ms_comp.2.2) (va_eqt (hs _ ms_comp.1)) hA
  obtain ⟨adK, adV, hSt, hadK⟩ := vk_Sof (args := #[Value.ref b]) (s := s) (N := 5) (tm := ms_tm) (len := ms_len) (byt := mi_byt) (A := fun q : Nat => s.heap.size ≤ q) (fun i hi => (ms_st1 i hi).2.2.2.2) (fun i hi => hs _ (ms_st1 i hi).1) (fun i hi => hs _ (ms_st1 i hi).2.1) (fun i hi => hs _ (ms_st1 i hi).2.2.1) (fun i hi => hs _ (ms_st1 i hi).2.2.2.1) (fun i hi j hj => hs _ (ms_st2 i hi j hj)) (fun i j hi hj hij => by
    rcases ms_st3 i hi j hj with h | h | h
    · exact absurd h hij
    · exact Or.inl (hs _ h)
    · exact Or.inr (hs _ h)) hA
  have hR : ∀ q ∈ mi_strs, vk_R q.1 q.2.1 q.2.2.1 (ms_ra b t_least t_most t_own t_above adK adV (10 + q.2.2.2)) s := by
    intro q hq
    have h1 := hts _ (ms_strs q hq)
    simp only [mi_strs, List.mem_cons, List.not_mem_nil, or_false] at hq
    rcases hq with h | h | h | h | h | h <;> subst h
    · exact vk_R.of h1 (hadK 0 (by decide))
    · exact vk_R.of h1 (va_eqR (hs _ ms_st4) (hadK 0 (by decide)))
    · exact vk_R.of h1 (hadK 1 (by decide))
    · exact vk_R.of h1 (hadK 2 (by decide))
    · exact vk_R.of h1 (hadK 3 (by decide))
    · exact vk_R.of h1 (hadK 4 (by decide))
  refine ⟨ms_ra b t_least t_most t_own t_above adK adV, fun ty => (s.vm.findClass ("[" ++ FieldType.toString ty)).getD (0 : Nat), D, ⟨hx, hb, hml, hown, hgood, hD, ⟨fun z v hz => ?_, fun j ty l hj => ?_, fun j k v hj => ?_, fun w hw => va_Nw.of (mi_nest_ok w hw).1 (hts w (ms_nest w hw)), hR, va_AO.of (hts _ ms_ao.1), hts _ ms_ao.2, fun ty c hc => by
    show (s.vm.findClass ("[" ++ FieldType.toString ty)).getD (0 : Nat) = c
    rw [hc]
    rfl⟩, Nat.le_refl _⟩, rfl⟩
  · have hz : mi_N0.1 z = some v := hz
    unfold mi_N0 at hz
    dsimp only at hz
    split at hz
    · cases hz; exact ⟨_, rfl, hZ_comp⟩
    · cases hz; exact ⟨_, rfl, hZ_least⟩
    · cases hz; exact ⟨_, rfl, hZ_most⟩
    · cases hz; exact ⟨_, rfl, hZ_own⟩
    · cases hz; exact ⟨_, rfl, hZ_above⟩
    · cases hz
  · unfold mi_NL at hj
    dsimp only at hj
    split at hj
    · cases hj
      obtain ⟨scr, q1, q2, q3, q4, q5⟩ := hX
      refine ⟨scr, q1, q2, q3, ?_, ?_, fun j hj => ?_, hA _ hbl⟩
      · simp [q4]
      · simp [q4, Nat.toInt32]
      · have hj : j < L := by simpa using hj
        rw [q5 j hj]
        simp [List.getD, hj]
    · unfold mi_N0 at hj
      dsimp only at hj
      split at hj
      · cases hj; exact hT_least
      · cases hj; exact hT_most
      · cases hj; exact hT_own
      · cases hj; exact hT_above
      · cases hj; exact (hSt.1 0 (by decide)).2.2.2
      · cases hj; exact (hSt.1 1 (by decide)).2.2.2
      · cases hj; exact (hSt.1 2 (by decide)).2.2.2
      · cases hj; exact (hSt.1 3 (by decide)).2.2.2
      · cases hj; exact (hSt.1 4 (by decide)).2.2.2
      · cases hj
  · have hj : mi_N0.2.2 j k = some v := hj
    unfold mi_N0 at hj
    dsimp only at hj
    split at hj
    · cases hj
      exact ⟨(hSt.1 0 (by decide)).1, _, rfl, (hSt.1 0 (by decide)).2.1⟩
    · cases hj
      exact ⟨(hSt.1 0 (by decide)).1, _, rfl, (hSt.1 0 (by decide)).2.2.1⟩
    · cases hj
      exact ⟨(hSt.1 1 (by decide)).1, _, rfl, (hSt.1 1 (by decide)).2.1⟩
    · cases hj
      exact ⟨(hSt.1 1 (by decide)).1, _, rfl, (hSt.1 1 (by decide)).2.2.1⟩
    · cases hj
      exact ⟨(hSt.1 2 (by decide)).1, _, rfl, (hSt.1 2 (by decide)).2.1⟩
    · cases hj
      exact ⟨(hSt.1 2 (by decide)).1, _, rfl, (hSt.1 2 (by decide)).2.2.1⟩
    · cases hj
      exact ⟨(hSt.1 3 (by decide)).1, _, rfl, (hSt.1 3 (by decide)).2.1⟩
    · cases hj
      exact ⟨(hSt.1 3 (by decide)).1, _, rfl, (hSt.1 3 (by decide)).2.2.1⟩
    · cases hj
      exact ⟨(hSt.1 4 (by decide)).1, _, rfl, (hSt.1 4 (by decide)).2.1⟩
    · cases hj
      exact ⟨(hSt.1 4 (by decide)).1, _, rfl, (hSt.1 4 (by decide)).2.2.1⟩
    · cases hj
/-- MY PART: from the entry, for every script of at most 3072 ints, the law comes to its end with true -/
theorem whole_start {p : Program} {e : Env} {s : State} {m : MethodId} {below : List Frame} {meth : Method} {c : Code} (l : Launch) (hflags : l.flags = flags0) {b L : Nat} {xs : Nat → Int32} (hL : L ≤ 3072) (C0 : lw_At p s m meth c b L xs) : W p l e room_1 s m #[Value.ref b] below meth c s.heap [] 0 0 (lw_Z below #[Value.ref b] s) (entryFrame m ([Value.ref b] : List Value).toArray 4) := by
  obtain ⟨ra, cT, D, cx, h0⟩ := ms_cx C0
  obtain ⟨hx, hb, hr, hml, hown, hts, hX, hbl, hlocks, hgv⟩ := C0
  have K := ml_all (l := l) (e := e) (below := below) cx hr hlocks (by rw [List.length_map, List.length_range]; exact hL)
  rw [lg_entry_eq]
  refine K s.heap [] _ rfl (fun k q hq => by cases hq) (fun k ty a hq => by cases hq) va_S.rf ?_
  have h1 := lv_entry [Value.ref b] (n := 4) (show (1 : Nat) ≤ 4 by decide)
  have h2 : mi_ls (mi_ad s.heap.size ra) [(0, .ref mi_RO)] = lv_args 0 [Value.ref b] := by
    show [(0, Value.ref (mi_ad s.heap.size ra mi_RO))] = [(0, Value.ref b)]
    rw [mi_ad_hi rfl, Nat.sub_self, h0]
  exact h2 ▸ h1
set_option maxHeartbeats 4000000 in
theorem lw_walk (l : Launch) (hflags : l.flags = flags0) (b : Addr) (xs : List Int32) : MetFree l x (headSpec (Jvm.Cond.code x code maxLocals ret :: tables_1) room_1) (lw_P b xs) (fun _ _ _ _ _ => True) lw_Q := by
  refine MetFree.of_bodyS (code := code) (maxLocals := maxLocals) (ret := ret) (by decide) ?_ ?_
  · intro args s m h hn
    obtain ⟨meth, c, h1, h2, h3, h4, h5, h6, -, -⟩ := Cond.code_spec hn (atoms_spec (ws := Jvm.Cond.code x code maxLocals ret :: tables_1) h _ List.mem_cons_self)
    exact ⟨meth, c, h1, h2, h3, h4, h5, h6⟩
  · intro p e s m args below meth c s₁ B hml0 hP _
    obtain ⟨rfl, hx, hbd, hgv⟩ := hP
    obtain ⟨scr, harrAt, hlist, hof, hsmall⟩ := hx
    obtain ⟨hcb, hkn, -, -⟩ := State.arrayAt?_spec harrAt
    have hown : s.vm.findClass R_law = some m.cls := findClass_of_methodNamed B.named
    have hts0 : ∀ c ∈ (Jvm.Cond.code x code maxLocals ret :: tables_1), c.before #[Value.ref b] s = true := atoms_spec (ws := Jvm.Cond.code x code maxLocals ret :: tables_1) B.pre
    have hts : ∀ w ∈ lw_tbl, w.before #[Value.ref b] s = true := k2_hts_sels lw_privs (fun w hw => hts0 w (List.mem_cons_of_mem _ hw)) lw_privs_ok
    have hml : c.maxLocals = 4 := B.maxLocals_eq (hts0 _ List.mem_cons_self)
    have X₀ : Stand p l e room_1 s m #[Value.ref b] below meth c s₁ [] 0 0 := Stand.of_body B
    have hh0 : s₁.heap = s.heap := by rw [B.state]; rfl
    have hsz : scr.slots.size = xs.length := by rw [← Array.length_toList, hlist, List.length_map]
    have hval : ∀ j : Nat, j < xs.length → scr.slots[j]? = some (.int (xs.getD j 0)) := fun j hj => by
      rw [← Array.getElem?_toList, hlist]
      simp [hj]
    have hbl : b < s.heap.size := (Array.getElem?_eq_some_iff.mp hcb).1
    have hX : va_X b xs.length (fun j => xs.getD j 0) s s.heap := ⟨scr, hcb, hof, hkn, hsz, hval⟩
    have K : W p l e room_1 s m #[Value.ref b] below meth c s₁.heap [] 0 0 (lw_Z below #[Value.ref b] s) (entryFrame m ([Value.ref b] : List Value).toArray 4) := by
      rw [hh0]
      exact whole_start l hflags hbd ⟨B.exec, B.bytes, B.returns, hml, hown, hts, hX, hbl, B.notSynchronized, hgv⟩
    obtain ⟨t, a1, o, b1, b2, b3⟩ := K s₁ rfl X₀
    exact ⟨t, o, a1, b1, b2, b3⟩
theorem lw_pre_spec {args : Array Value} {s : State} (h : (Jvm.Cond.and given_1 narrow_1).before args s = true) (hr : rest_1_c.before args s = true) : ∃ (b : Addr) (xs : List Int32), lw_P b xs args s := by
  have hs := flat_of_before _ h
  have hq := flat_of_before _ hr
  have hc : (Cond.count 1).before args s = true := hs _ (by decide +kernel)
  have harr : (Cond.arrayOf (.arg 0) .int).before args s = true := hs _ (by decide +kernel)
  have hle : (Cond.le (.length (.arg 0)) (.int 3072)).before args s = true := hs _ (by decide +kernel)
  have hlen : (Cond.isInt (.length (.arg 0))).before args s = true := hq _ (by decide +kernel)
  have hall : (Cond.all (.arg 0) (.isInt (.elem (.arg 0) (.index 0)))).before args s = true := hq _ (by decide +kernel)
  obtain ⟨b, xs, hb, hx⟩ := State.ints_of_pre rfl harr hlen hall
  have hsm : xs.length < 2 ^ 31 := hx.choose_spec.2.2.2
  have hev : (Term.length (.arg 0)).eval args s none [] s = some (.int xs.length.toInt32) := hx.length_eval hb
  have hv := Cond.le_ints hev (show (Term.int 3072).eval args s none [] s = some (.int 3072) from rfl)
  have hd : xs.length.toInt32 ≤ 3072 := by
    simpa [Cond.before, Cond.holds, hv] using hle
  have hN : xs.length ≤ 3072 := (Int32.ofNat_le_ofNat hsm (by decide)).mp (show Int32.ofNat xs.length ≤ Int32.ofNat 3072 from hd)
  exact ⟨b, xs, Cond.one_arg hc (show args[0]? = some (.ref b) from hb), hx, hN, h⟩
theorem lw_comes (l : Launch) (hflags : l.flags = flags0) : Comes l x (Jvm.Cond.code x code maxLocals ret :: tables_1) room_1 (fun tb e args s => Calls_1 tb e args s ∧ rest_1 tb e args s ∧ Pre_1 tb e args s)
    (fun _ _ args s o t => lw_Q args s o t) := by
  intro p e ha hc hk s m args below hf hfit hheap happ hpre
  obtain ⟨b, xs, hP⟩ := lw_pre_spec hpre.2.2 hpre.2.1
  obtain ⟨k, o, h1, h2, h3, hQ⟩ := lw_walk l hflags b xs p e ha hc hk s m args below hf ((Spec.applies_iff_loose hf).mp happ).1 hP trivial
  exact ⟨k, o, h1, h2, h3, hQ⟩
theorem lw_frame {s t : State} {o : Outcome} {args : Array Value} (h : Framed s o t [] 600000 7302250) :
    Framed s o t (fieldLocs frame_1_writes args s ++ arrayLocs frame_1_arrays args s ++ staticLocs frame_1_statics s) 600000 7302250 := h
theorem lw_limb (L : Cond) (hL : ∀ (args : Array Value) (s t : State), L.after args s (.returned (some (.int 1))) t = true) :
    ArmFor flags0 classFile x code maxLocals ret World_1 tables_1 room_1 Calls_1 rest_1 Pre_1
      (fun tb e a s o t => postC L tb e a s o t ∧ Framed s o t (fieldLocs frame_1_writes a s ++ arrayLocs frame_1_arrays a s ++ staticLocs frame_1_statics s) 600000 7302250) := by
  intro l hflags _ _ p e ha hc hk s m args below hf hfit hheap happ hpre
  obtain ⟨k, o, h1, h2, h3, rfl, hF⟩ := lw_comes l hflags p e ha hc hk s m args below hf hfit hheap happ hpre
  exact ⟨k, _, h1, h2, h3, hL args s _, lw_frame hF⟩
