/-! the Shelf array's store, copies, makings, Object's constructor, max and min -/
def mi_hCopy (pc : Nat) (st : List Value) (cn : Nat × Nat) (h : mi_H) : Option (Nat × List Value × (Nat × Nat) × mi_H) := match st with
  | .int n :: .int dp :: .ref a :: .int sp :: .ref a0 :: r => (match Nat.blt a mi_RO && Nat.blt a0 mi_RO && Nat.ble (mi_sum r) 8 && !(decide (sp < 0) || decide (dp < 0) || decide (n < 0)) with
    | true => (match h[a0]?, h[a]? with
      | some (.inr (.int, .inl l)), some (.inr (.int, .inl g)) => (match Nat.ble (sp.toNatClampNeg + n.toNatClampNeg) l.length && Nat.ble (dp.toNatClampNeg + n.toNatClampNeg) g.length with
        | true => some (pc + 3, r, cn, h.set a (.inr (.int, .inl (mi_cpy l g sp.toNatClampNeg dp.toNatClampNeg n.toNatClampNeg))))
        | false => none)
      | some (.inr (.long, .inr (.inl l))), some (.inr (.long, .inr (.inl g))) => (match Nat.ble (sp.toNatClampNeg + n.toNatClampNeg) l.length && Nat.ble (dp.toNatClampNeg + n.toNatClampNeg) g.length with
        | true => some (pc + 3, r, cn, h.set a (.inr (.long, .inr (.inl (mi_cpy l g sp.toNatClampNeg dp.toNatClampNeg n.toNatClampNeg)))))
        | false => none)
      | _, _ => none)
    | false => none)
  | _ => none
def mi_hNew (ax : mi_X) (lim : Nat × Nat) (pc : Nat) (st : List Value) (cn : Nat × Nat) (h : mi_H) : Option (Nat × List Value × (Nat × Nat) × mi_H) := match vwCl[ax.1]? with
  | some q => (match Nat.beq ax.2.2.1 3 && Nat.ble (cn.1 + 1) lim.1 && Nat.ble (cn.2 + q.2.2) lim.2 && Nat.blt h.length mi_RO with
    | true => some (pc + 3, .ref h.length :: st, (cn.1 + 1, cn.2 + q.2.2), h ++ [.inl (ax.1, mi_df ax.1)])
    | false => none)
  | none => none
def mi_hNewa (t : ArrayType) (lim : Nat × Nat) (pc : Nat) (st : List Value) (cn : Nat × Nat) (h : mi_H) : Option (Nat × List Value × (Nat × Nat) × mi_H) := match st with
  | .int n :: r => (match !decide (n < 0) && Nat.ble n.toNatClampNeg 100000 && Nat.ble (cn.1 + 1) lim.1 && Nat.ble (cn.2 + n.toNatClampNeg) lim.2 && Nat.blt h.length mi_RO with
    | true => (match t with
      | .int => some (pc + 2, .ref h.length :: r, (cn.1 + 1, cn.2 + n.toNatClampNeg), h ++ [.inr (.int, .inl (List.replicate n.toNatClampNeg 0))])
      | .long => some (pc + 2, .ref h.length :: r, (cn.1 + 1, cn.2 + n.toNatClampNeg), h ++ [.inr (.long, .inr (.inl (List.replicate n.toNatClampNeg 0)))])
      | _ => none)
    | false => none)
  | _ => none
def mi_hNewq (ax : mi_X) (lim : Nat × Nat) (pc : Nat) (st : List Value) (cn : Nat × Nat) (h : mi_H) : Option (Nat × List Value × (Nat × Nat) × mi_H) := match st with
  | .int n :: r => (match Nat.beq ax.2.2.1 3 && Nat.beq ax.1 5 && !decide (n < 0) && Nat.ble n.toNatClampNeg 100000 && Nat.ble (cn.1 + 1) lim.1 && Nat.ble (cn.2 + n.toNatClampNeg) lim.2 && Nat.blt h.length mi_RO with
    | true => some (pc + 3, .ref h.length :: r, (cn.1 + 1, cn.2 + n.toNatClampNeg), h ++ [.inr (.object "ThirdAfter$Shelf", .inr (.inr (List.replicate n.toNatClampNeg none)))])
    | false => none)
  | _ => none
def mi_hMna (ax : mi_X) (d : Nat) (lim : Nat × Nat) (pc : Nat) (st : List Value) (cn : Nat × Nat) (h : mi_H) : Option (Nat × List Value × (Nat × Nat) × mi_H) := match st with
  | .int k :: .int n :: r => (match Nat.beq ax.2.2.1 5 && Nat.beq d 2 && !decide (n < 0) && !decide (k < 0) && Nat.ble n.toNatClampNeg 1000 && Nat.ble k.toNatClampNeg 1000 && Nat.ble (cn.1 + (1 + n.toNatClampNeg)) lim.1 && Nat.ble (cn.2 + (n.toNatClampNeg + n.toNatClampNeg * k.toNatClampNeg)) lim.2 && Nat.ble (h.length + 1 + n.toNatClampNeg) mi_RO with
    | true => some (pc + 4, .ref h.length :: r, (cn.1 + 1 + n.toNatClampNeg, cn.2 + n.toNatClampNeg + n.toNatClampNeg * k.toNatClampNeg), (h ++ [.inr (.array .int, .inr (.inr ((List.range n.toNatClampNeg).map (fun i => some (h.length + 1 + i)))))]) ++ List.replicate n.toNatClampNeg (.inr (.int, .inl (List.replicate k.toNatClampNeg 0))))
    | false => none)
  | _ => none
def mi_hObj (ax : mi_X) (pc : Nat) (st : List Value) (cn : Nat × Nat) (h : mi_H) : Option (Nat × List Value × (Nat × Nat) × mi_H) := match st with
  | .ref _ :: r => (match Nat.beq ax.2.2.1 12 && Nat.ble (mi_sum r) 8 with
    | true => some (pc + 3, r, cn, h)
    | false => none)
  | _ => none
def mi_hMm (ax : mi_X) (pc : Nat) (st : List Value) (cn : Nat × Nat) (h : mi_H) : Option (Nat × List Value × (Nat × Nat) × mi_H) := match st with
  | .int y :: .int x :: r => (match Nat.ble (mi_sum r) 8 with
    | true => (match ax.2.2.1 with
      | 14 => some (pc + 3, .int (bif decide (x < y) then y else x) :: r, cn, h)
      | 15 => some (pc + 3, .int (bif decide (y < x) then y else x) :: r, cn, h)
      | _ => none)
    | false => none)
  | _ => none
theorem mi_bif {c : Prop} [h : Decidable c] {α : Type} (a b : α) : (bif decide c then a else b) = if c then a else b := by
  by_cases hc : c <;> simp [hc]
theorem mi_W_app (base : Nat) (ra : Nat → Nat) (cT : FieldType → ClassId) (h g : mi_H) : mi_W base ra cT (h ++ g) = mi_W base ra cT h ++ g.mapIdx (fun k x => (base + (h.length + k), mi_rE (mi_ad base ra) cT x)) := by
  unfold mi_W
  rw [List.mapIdx_append]
  congr 2
  funext k x
  rw [Nat.add_comm k]
theorem mi_rep {α : Type} (n : Nat) (d : α) : (fun i => (List.replicate n d).getD i d) = fun _ => d := by
  funext i
  rw [List.getD_eq_getElem?_getD, List.getElem?_replicate]
  split <;> rfl
section MIN
variable {p : Program} {l : Launch} {e : Env} {R : Room} {s : State} {m : MethodId} {args : Array Value} {below : List Frame} {meth : Method} {c : Code} {Q : State → Prop}
variable {cc : ByteArray} {pc nL : Nat} {ls : mi_L} {st : List Value} {len : Nat} {N : mi_N} {base own : Nat} {ra : Nat → Nat} {cT : FieldType → ClassId} {D : va_G} {ini : Bool} {ax : mi_X} {cn cn1 lim : Nat × Nat} {h h1 : mi_H} {pc1 : Nat} {st1 : List Value}
theorem mi_q_aastore (cx : mi_Cx N base ra cT D own cc nL p s m args c) (hd : decode cc pc = .ok (.aastore, len)) (hlen : mi_len (.aastore) len = true) (hok : mi_ok own ini (.aastore) ax) (hh : mi_hAast pc st cn h = some (pc1, st1, cn1, h1)) (kk : mi_Wq base ra cT D nL p l e R s m args below meth c Q pc1 ls st1 cn1 h1) : mi_Wq base ra cT D nL p l e R s m args below meth c Q pc ls st cn h := by
  cases (beq_iff_eq.mp hlen)
  obtain ⟨hx, hb, hml, hown, hts, hKn, hX, hbs⟩ := cx
  intro H locs ar hsz hP hKA hS har
  unfold mi_hAast at hh
  split at hh
  next v i a r =>
    split at hh
    next hlo =>
      obtain ⟨hlo, hlv⟩ := Bool.and_eq_true_iff.mp hlo
      split at hh
      next C ll o hl ho =>
        split at hh
        next => cases hh
        next hi =>
          cases hh
          obtain ⟨hi2, hc⟩ := Bool.or_eq_false_iff.mp hi
          have hc : (Nat.beq o.1 5 && decide (C = RX5)) = true := by simpa using hc
          obtain ⟨hc1, hc2⟩ := Bool.and_eq_true_iff.mp hc
          have hc1 := Nat.eq_of_beq_eq_true hc1
          have hc2 := of_decide_eq_true hc2
          subst hc2
          have e0 : mi_st (mi_ad base ra) (.ref v :: .int i :: .ref a :: st1) = .ref (base + v) :: .int i :: .ref (base + a) :: mi_st (mi_ad base ra) st1 := by
            rw [← mi_ref_lo hlo]
            show Value.ref (mi_ad base ra v) :: _ = _
            rw [mi_ad_lo hlv]
            rfl
          rw [e0]
          refine mi_aast (r := (RX5, TX5, 5)) (f := fun j => (ll.getD j none).map (mi_ad base ra)) hx hb (hKA.K hKn hl) hP (mi_D base ra cT h) hS a 0 v o.1 (mi_W_get hl) rfl (mi_W_get ho) (by rw [hc1]; rfl) (mi_off_in hi2) hd (fun H1 locs1 hP1 hz1 hS1 => ?_)
          refine kk H1 locs1 ar (by rw [hz1, hsz, List.length_set]) ?_ (hKA.arr hl _) hS1 har
          rw [← mi_W_set]
          have e1 : (fun j => ((ll.set i.toNatClampNeg (some v)).getD j none).map (mi_ad base ra)) = va_up (fun j => (ll.getD j none).map (mi_ad base ra)) i.toNatClampNeg (some (base + v)) := by
            have e2 := mi_getD_set ll none _ (some v) (mi_off_lt hi2)
            funext j
            have e3 : (ll.set i.toNatClampNeg (some v)).getD j none = if j = i.toNatClampNeg then some v else ll.getD j none := congrFun e2 j
            rw [e3]
            unfold va_up
            by_cases ej : j = i.toNatClampNeg
            · rw [if_pos ej, if_pos ej, Option.map_some, mi_ad_lo hlv]
            · rw [if_neg ej, if_neg ej]
          show va_P D vwCl ((mi_W base ra cT h).set a (base + a, .inl (cT (.object RX5), (ll.set i.toNatClampNeg (some v)).length, .inr (.inr (.inr (.inr (fun j => ((ll.set i.toNatClampNeg (some v)).getD j none).map (mi_ad base ra)))))))) H1
          rw [e1, List.length_set]
          exact hP1
      next => cases hh
    next => cases hh
  next => cases hh
theorem mi_copyroom {ad : Nat → Nat} {r : List Value} {x : Nat} (h : mi_sum r ≤ 8) (hx : 60 ≤ x) : ((mi_st ad r).map fun v => v.category).sum + (nativeFrameWords "java/lang/System" "arraycopy" 5 + 11) ≤ x := by
  rw [mi_sum_st]
  have e : nativeFrameWords "java/lang/System" "arraycopy" 5 = 7 := by decide +kernel
  rw [e]
  omega
theorem mi_q_copy {i : Nat} (cx : mi_Cx N base ra cT D own cc nL p s m args c) (hd : decode cc pc = .ok (.invokestatic i, len)) (hlen : mi_len (.invokestatic i) len = true) (hok : mi_ok own ini (.invokestatic i) ax) (hk11 : ax.2.2.1 = 11) (hR : 1 ≤ R.frames ∧ 60 ≤ R.locals) (hh : mi_hCopy pc st cn h = some (pc1, st1, cn1, h1)) (kk : mi_Wq base ra cT D nL p l e R s m args below meth c Q pc1 ls st1 cn1 h1) : mi_Wq base ra cT D nL p l e R s m args below meth c Q pc ls st cn h := by
  cases (beq_iff_eq.mp hlen)
  obtain ⟨hx, hb, hml, hown, hts, hKn, hX, hbs⟩ := cx
  intro H locs ar hsz hP hKA hS har
  obtain ⟨⟨w, hw⟩, -⟩ := hok i rfl
  rw [hk11] at hw
  unfold mi_hCopy at hh
  split at hh
  next n dp a sp a0 r =>
    split at hh
    next hlo =>
      obtain ⟨hlo, hs0⟩ := Bool.and_eq_true_iff.mp hlo
      obtain ⟨hlo, hsum⟩ := Bool.and_eq_true_iff.mp hlo
      obtain ⟨hla, hla0⟩ := Bool.and_eq_true_iff.mp hlo
      have hsum := Nat.le_of_ble_eq_true hsum
      have hs0 : (decide (sp < 0) || decide (dp < 0) || decide (n < 0)) = false := by simpa using hs0
      obtain ⟨hs0, hs3⟩ := Bool.or_eq_false_iff.mp hs0
      obtain ⟨hs1, hs2⟩ := Bool.or_eq_false_iff.mp hs0
      have hs1 := of_decide_eq_false hs1
      have hs2 := of_decide_eq_false hs2
      have hs3 := of_decide_eq_false hs3
      have e0 : mi_st (mi_ad base ra) (.int n :: .int dp :: .ref a :: .int sp :: .ref a0 :: r) = .int n :: .int dp :: .ref (base + a) :: .int sp :: .ref (base + a0) :: mi_st (mi_ad base ra) r := by
        rw [← mi_ref_lo hla0]
        show Value.int n :: Value.int dp :: Value.ref (mi_ad base ra a) :: _ = _
        rw [mi_ad_lo hla]
        rfl
      rw [e0]
      split at hh
      next l0 g0 e1 e2 =>
        split at hh
        next hl2 =>
          cases hh
          obtain ⟨h4, h5⟩ := Bool.and_eq_true_iff.mp hl2
          have h4 := Nat.le_of_ble_eq_true h4
          have h5 := Nat.le_of_ble_eq_true h5
          refine mi_copyi (f := fun j => l0.getD j 0) (g := fun j => g0.getD j 0) hx hb (by rw [hml]; exact har.1.symm) hown (hts _ (mi_lk11 hw)) (hts _ mi_gCn) (hts _ mi_gCs) (hts _ mi_gCi) hP (mi_D base ra cT h) hS a0 a (mi_W_get e1) (mi_W_get e2) (hKA _ _ _ e1).1 (hKA _ _ _ e2).1 rfl hs1 hs2 hs3 h4 h5 (fun _ _ => rfl) hR.1 (mi_copyroom hsum hR.2) hd (fun H1 locs1 hP1 hz1 hS1 => ?_)
          refine kk H1 locs1 ar (by rw [hz1, hsz, List.length_set]) ?_ (hKA.arr e2 _) hS1 har
          rw [← mi_W_set]
          show va_P D vwCl ((mi_W base ra cT h).set a (base + a, .inl (cT .int, (mi_cpy l0 g0 sp.toNatClampNeg dp.toNatClampNeg n.toNatClampNeg).length, .inl (fun j => (mi_cpy l0 g0 sp.toNatClampNeg dp.toNatClampNeg n.toNatClampNeg).getD j 0)))) H1
          rw [mi_cpy_get 0 h4 h5, mi_cpy_len h4 h5]
          exact hP1
        next => cases hh
      next l0 g0 e1 e2 =>
        split at hh
        next hl2 =>
          cases hh
          obtain ⟨h4, h5⟩ := Bool.and_eq_true_iff.mp hl2
          have h4 := Nat.le_of_ble_eq_true h4
          have h5 := Nat.le_of_ble_eq_true h5
          refine mi_copyl (f := fun j => l0.getD j 0) (g := fun j => g0.getD j 0) hx hb (by rw [hml]; exact har.1.symm) hown (hts _ (mi_lk11 hw)) (hts _ mi_gCn) (hts _ mi_gCs) (hts _ mi_gCi) hP (mi_D base ra cT h) hS a0 a (mi_W_get e1) (mi_W_get e2) (hKA _ _ _ e1).1 (hKA _ _ _ e2).1 rfl hs1 hs2 hs3 h4 h5 (fun _ _ => rfl) hR.1 (mi_copyroom hsum hR.2) hd (fun H1 locs1 hP1 hz1 hS1 => ?_)
          refine kk H1 locs1 ar (by rw [hz1, hsz, List.length_set]) ?_ (hKA.arr e2 _) hS1 har
          rw [← mi_W_set]
          show va_P D vwCl ((mi_W base ra cT h).set a (base + a, .inl (cT .long, (mi_cpy l0 g0 sp.toNatClampNeg dp.toNatClampNeg n.toNatClampNeg).length, .inr (.inl (fun j => (mi_cpy l0 g0 sp.toNatClampNeg dp.toNatClampNeg n.toNatClampNeg).getD j 0))))) H1
          rw [mi_cpy_get 0 h4 h5, mi_cpy_len h4 h5]
          exact hP1
        next => cases hh
      next => cases hh
    next => cases hh
  next => cases hh
theorem mi_df_st (ad : Nat → Nat) (ci : Nat) : mi_st ad (mi_df ci) = mi_df ci := by
  unfold mi_df
  split <;> rfl
theorem mi_KA_reps {cT : FieldType → ClassId} {h : mi_H} {U : State} (hk : mi_KA cT h U) (x : mi_E) (hx : ∀ ty a, x = .inr (ty, a) → ArrOfT U (cT ty) ty ∧ va_RA U (cT ty) ty) : ∀ n, mi_KA cT (h ++ List.replicate n x) U
  | 0 => by simpa using hk
  | n + 1 => by
    rw [List.replicate_succ', ← List.append_assoc]
    exact (mi_KA_reps hk x hx n).push x hx
theorem mi_q_new {i : Nat} (cx : mi_Cx N base ra cT D own cc nL p s m args c) (hd : decode cc pc = .ok (.new i, len)) (hlen : mi_len (.new i) len = true) (hok : mi_ok own ini (.new i) ax) (hlim : lim.1 ≤ R.cells ∧ lim.2 ≤ R.slots) (hh : mi_hNew ax lim pc st cn h = some (pc1, st1, cn1, h1)) (kk : mi_Wq base ra cT D nL p l e R s m args below meth c Q pc1 ls st1 cn1 h1) : mi_Wq base ra cT D nL p l e R s m args below meth c Q pc ls st cn h := by
  cases (beq_iff_eq.mp hlen)
  obtain ⟨hx, hb, hml, hown, hts, hKn, hX, hbs⟩ := cx
  intro H locs ar hsz hP hKA hS har
  obtain ⟨⟨w, hw⟩, -⟩ := hok i rfl
  unfold mi_hNew at hh
  split at hh
  next q hq =>
    split at hh
    next hc =>
      cases hh
      obtain ⟨hc, h4⟩ := Bool.and_eq_true_iff.mp hc
      obtain ⟨hc, h3⟩ := Bool.and_eq_true_iff.mp hc
      obtain ⟨h1, h2⟩ := Bool.and_eq_true_iff.mp hc
      rw [Nat.eq_of_beq_eq_true h1] at hw
      have h2 := Nat.le_of_ble_eq_true h2
      have h3 := Nat.le_of_ble_eq_true h3
      have hcl := mi_cl_ok _ _ hq
      refine mi_new (D := D) (ci := ax.1) (C := q.1) (T := q.2.1) (N := q.2.2) (fs := mi_df ax.1) hx hb hts hcl.1 (mi_ft ax.1) hcl.2.2.1 hown (hts _ (mi_lk3 hq hw)) (hts _ hcl.2.2.2.2.2.1) (hts _ hcl.2.2.2.2.2.2.1) (hKn _ _ hq) hP hS hq hcl.2.2.2.1 (by omega) (by omega) hd (fun H1 hP1 hz1 hS1 => ?_)
      have hk := kk H1 locs ar (by rw [hz1, hsz, List.length_append]; rfl) ?_ (hKA.push _ (fun ty a e => by cases e)) hS1 har
      · rw [mi_ref_lo h4, ← hsz] at hk
        exact hk
      · rw [mi_W_push, ← hsz]
        have e2 : mi_st (mi_ad base ra) (mi_df ax.1) = mi_df ax.1 := mi_df_st _ _
        show va_P D vwCl (mi_W base ra cT h ++ [(H.size, .inr (ax.1, mi_st (mi_ad base ra) (mi_df ax.1)))]) H1
        rw [e2]
        exact hP1
    next => cases hh
  next => cases hh
theorem mi_q_newarray {t : ArrayType} (cx : mi_Cx N base ra cT D own cc nL p s m args c) (hd : decode cc pc = .ok (.newarray t, len)) (hlen : mi_len (.newarray t) len = true) (hok : mi_ok own ini (.newarray t) ax) (hlim : lim.1 ≤ R.cells ∧ lim.2 ≤ R.slots) (hh : mi_hNewa t lim pc st cn h = some (pc1, st1, cn1, h1)) (kk : mi_Wq base ra cT D nL p l e R s m args below meth c Q pc1 ls st1 cn1 h1) : mi_Wq base ra cT D nL p l e R s m args below meth c Q pc ls st cn h := by
  cases (beq_iff_eq.mp hlen)
  obtain ⟨hx, hb, hml, hown, hts, hKn, hX, hbs⟩ := cx
  intro H locs ar hsz hP hKA hS har
  unfold mi_hNewa at hh
  split at hh
  next n r =>
    split at hh
    next hc =>
      obtain ⟨hc, h5⟩ := Bool.and_eq_true_iff.mp hc
      obtain ⟨hc, h4⟩ := Bool.and_eq_true_iff.mp hc
      obtain ⟨hc, h3⟩ := Bool.and_eq_true_iff.mp hc
      obtain ⟨h1, h2⟩ := Bool.and_eq_true_iff.mp hc
      have h1 : ¬ n < 0 := by simpa using h1
      have h2 := Nat.le_of_ble_eq_true h2
      have h3 := Nat.le_of_ble_eq_true h3
      have h4 := Nat.le_of_ble_eq_true h4
      split at hh
      next =>
        cases hh
        refine mi_newa (atype := .int) (a0 := (n.toNatClampNeg, .inl (fun _ => 0))) (ty := .int) hx hb (hts _ mi_gAI) rfl hP hS (fun cA => rfl) h1 rfl (by show _ * 4 ≤ _; omega) (by omega) (by omega) hd (fun cA H1 hAr hNm hP1 hz1 hS1 => ?_)
        have hcA : cT .int = cA := hX.2.2.2.2.2.2.2 .int cA hNm
        have hk := kk H1 locs ar (by rw [hz1, hsz, List.length_append]; rfl) ?_ (hKA.push _ (fun ty a e => by cases e; rw [hcA]; exact ⟨hAr, hNm⟩)) hS1 har
        · rw [mi_ref_lo h5, ← hsz] at hk
          exact hk
        · rw [mi_W_push, ← hsz]
          show va_P D vwCl (mi_W base ra cT h ++ [(H.size, .inl (cT .int, (List.replicate n.toNatClampNeg (0 : Int32)).length, .inl (fun j => (List.replicate n.toNatClampNeg (0 : Int32)).getD j 0)))]) H1
          rw [mi_rep, List.length_replicate, hcA]
          exact hP1
      next =>
        cases hh
        refine mi_newa (atype := .long) (a0 := (n.toNatClampNeg, .inr (.inl (fun _ => 0)))) (ty := .long) hx hb (hts _ mi_gAL) rfl hP hS (fun cA => rfl) h1 rfl (by show _ * 8 ≤ _; omega) (by omega) (by omega) hd (fun cA H1 hAr hNm hP1 hz1 hS1 => ?_)
        have hcA : cT .long = cA := hX.2.2.2.2.2.2.2 .long cA hNm
        have hk := kk H1 locs ar (by rw [hz1, hsz, List.length_append]; rfl) ?_ (hKA.push _ (fun ty a e => by cases e; rw [hcA]; exact ⟨hAr, hNm⟩)) hS1 har
        · rw [mi_ref_lo h5, ← hsz] at hk
          exact hk
        · rw [mi_W_push, ← hsz]
          show va_P D vwCl (mi_W base ra cT h ++ [(H.size, .inl (cT .long, (List.replicate n.toNatClampNeg (0 : Int64)).length, .inr (.inl (fun j => (List.replicate n.toNatClampNeg (0 : Int64)).getD j 0))))]) H1
          rw [mi_rep, List.length_replicate, hcA]
          exact hP1
      next => cases hh
    next => cases hh
  next => cases hh
theorem mi_q_anewarray {i : Nat} (cx : mi_Cx N base ra cT D own cc nL p s m args c) (hd : decode cc pc = .ok (.anewarray i, len)) (hlen : mi_len (.anewarray i) len = true) (hok : mi_ok own ini (.anewarray i) ax) (hlim : lim.1 ≤ R.cells ∧ lim.2 ≤ R.slots) (hh : mi_hNewq ax lim pc st cn h = some (pc1, st1, cn1, h1)) (kk : mi_Wq base ra cT D nL p l e R s m args below meth c Q pc1 ls st1 cn1 h1) : mi_Wq base ra cT D nL p l e R s m args below meth c Q pc ls st cn h := by
  cases (beq_iff_eq.mp hlen)
  obtain ⟨hx, hb, hml, hown, hts, hKn, hX, hbs⟩ := cx
  intro H locs ar hsz hP hKA hS har
  obtain ⟨⟨w, hw⟩, -⟩ := hok i rfl
  unfold mi_hNewq at hh
  split at hh
  next n r =>
    split at hh
    next hc =>
      cases hh
      obtain ⟨hc, h5⟩ := Bool.and_eq_true_iff.mp hc
      obtain ⟨hc, h4⟩ := Bool.and_eq_true_iff.mp hc
      obtain ⟨hc, h3⟩ := Bool.and_eq_true_iff.mp hc
      obtain ⟨hc, h2⟩ := Bool.and_eq_true_iff.mp hc
      obtain ⟨hc, h1⟩ := Bool.and_eq_true_iff.mp hc
      obtain ⟨h7, h6⟩ := Bool.and_eq_true_iff.mp hc
      have h1 : ¬ n < 0 := by simpa using h1
      have h2 := Nat.le_of_ble_eq_true h2
      have h3 := Nat.le_of_ble_eq_true h3
      have h4 := Nat.le_of_ble_eq_true h4
      rw [Nat.eq_of_beq_eq_true h7, Nat.eq_of_beq_eq_true h6] at hw
      have hcl : Cond.classLink (mi_cname own) i "ThirdAfter$Shelf" ∈ mi_good := mi_lk3 (z := (RX5, TX5, 5)) rfl hw
      refine mi_newq hx hb hown (hts _ hcl) hX.2.2.2.2.2.1 hP hS h1 rfl (by omega) (by omega) (by omega) hd (fun cA H1 hAr hRA hNm hP1 hz1 hS1 => ?_)
      have hcA : cT (.object "ThirdAfter$Shelf") = cA := hX.2.2.2.2.2.2.2 (.object "ThirdAfter$Shelf") cA hNm
      have hk := kk H1 locs ar (by rw [hz1, hsz, List.length_append]; rfl) ?_ (hKA.push _ (fun ty a e => by cases e; rw [hcA]; exact ⟨hAr, hRA⟩)) hS1 har
      · rw [mi_ref_lo h5, ← hsz] at hk
        exact hk
      · rw [mi_W_push, ← hsz]
        show va_P D vwCl (mi_W base ra cT h ++ [(H.size, .inl (cT (.object "ThirdAfter$Shelf"), (List.replicate n.toNatClampNeg (none : Option Nat)).length, .inr (.inr (.inr (.inr (fun j => ((List.replicate n.toNatClampNeg (none : Option Nat)).getD j none).map (mi_ad base ra)))))))]) H1
        have e2 := mi_rep n.toNatClampNeg (none : Option Nat)
        have e3 : (fun j => ((List.replicate n.toNatClampNeg (none : Option Nat)).getD j none).map (mi_ad base ra)) = fun _ => none := by
          funext j
          have e4 : (List.replicate n.toNatClampNeg (none : Option Nat)).getD j none = none := congrFun e2 j
          rw [e4]
          rfl
        rw [e3, List.length_replicate, hcA]
        exact hP1
    next => cases hh
  next => cases hh
theorem mi_q_mna {i d : Nat} (cx : mi_Cx N base ra cT D own cc nL p s m args c) (hd : decode cc pc = .ok (.multianewarray i d, len)) (hlen : mi_len (.multianewarray i d) len = true) (hok : mi_ok own ini (.multianewarray i d) ax) (hlim : lim.1 ≤ R.cells ∧ lim.2 ≤ R.slots) (hh : mi_hMna ax d lim pc st cn h = some (pc1, st1, cn1, h1)) (kk : mi_Wq base ra cT D nL p l e R s m args below meth c Q pc1 ls st1 cn1 h1) : mi_Wq base ra cT D nL p l e R s m args below meth c Q pc ls st cn h := by
  cases (beq_iff_eq.mp hlen)
  obtain ⟨hx, hb, hml, hown, hts, hKn, hX, hbs⟩ := cx
  intro H locs ar hsz hP hKA hS har
  obtain ⟨⟨w, hw⟩, -⟩ := hok i rfl
  unfold mi_hMna at hh
  split at hh
  next k n r =>
    split at hh
    next hc =>
      cases hh
      obtain ⟨hc, h9⟩ := Bool.and_eq_true_iff.mp hc
      obtain ⟨hc, h8⟩ := Bool.and_eq_true_iff.mp hc
      obtain ⟨hc, h7⟩ := Bool.and_eq_true_iff.mp hc
      obtain ⟨hc, h6⟩ := Bool.and_eq_true_iff.mp hc
      obtain ⟨hc, h5⟩ := Bool.and_eq_true_iff.mp hc
      obtain ⟨hc, h4⟩ := Bool.and_eq_true_iff.mp hc
      obtain ⟨hc, h3⟩ := Bool.and_eq_true_iff.mp hc
      obtain ⟨h1, h2⟩ := Bool.and_eq_true_iff.mp hc
      rw [Nat.eq_of_beq_eq_true h1] at hw
      have h2 := Nat.eq_of_beq_eq_true h2
      subst h2
      have h3 : ¬ n < 0 := by simpa using h3
      have h4 : ¬ k < 0 := by simpa using h4
      have h5 := Nat.le_of_ble_eq_true h5
      have h6 := Nat.le_of_ble_eq_true h6
      have h7 := Nat.le_of_ble_eq_true h7
      have h8 := Nat.le_of_ble_eq_true h8
      have h9 := Nat.le_of_ble_eq_true h9
      refine mi_mna hx hb hown (hts _ (mi_lk5 hw)) hX.2.2.2.2.2.2.1 (hts _ mi_gAI) hP hS h3 h4 rfl rfl (by omega) (by omega) (by omega) (by omega) hd (fun cA cy H1 hAr hNm hAr2 hNm2 hP1 hz1 hS1 => ?_)
      have hcA : cT (.array .int) = cA := hX.2.2.2.2.2.2.2 (.array .int) cA hNm
      have hcy : cT .int = cy := hX.2.2.2.2.2.2.2 .int cy hNm2
      have hbl : ∀ x, x < mi_RO → Nat.blt x mi_RO = true := fun x hx => Nat.ble_eq_true_of_le hx
      have hKA1 := hKA.push (.inr (.array .int, .inr (.inr ((List.range n.toNatClampNeg).map (fun i => some (h.length + 1 + i)))))) (fun ty a e => by cases e; rw [hcA]; exact ⟨hAr, hNm⟩)
      have hKA2 := mi_KA_reps hKA1 (.inr (.int, .inl (List.replicate k.toNatClampNeg 0))) (fun ty a e => by cases e; rw [hcy]; exact ⟨hAr2, hNm2⟩) n.toNatClampNeg
      have hk := kk H1 locs ar (by rw [hz1, hsz, List.length_append, List.length_append, List.length_replicate]; show _ = base + (h.length + 1 + n.toNatClampNeg); omega) ?_ hKA2 hS1 har
      · rw [mi_ref_lo (hbl _ (by omega)), ← hsz] at hk
        exact hk
      · rw [mi_W_app, mi_W_push, ← hsz]
        have e1 : mi_rE (mi_ad base ra) cT (.inr (.array .int, .inr (.inr ((List.range n.toNatClampNeg).map (fun i => some (h.length + 1 + i)))))) = .inl (cA, n.toNatClampNeg, .inr (.inr (.inr (.inr (fun i => if i < n.toNatClampNeg then some (H.size + 1 + i) else none))))) := by
          show Sum.inl (cT (.array .int), ((List.range n.toNatClampNeg).map (fun i => some (h.length + 1 + i))).length, Sum.inr (Sum.inr (Sum.inr (Sum.inr (fun j => (((List.range n.toNatClampNeg).map (fun i => some (h.length + 1 + i))).getD j none).map (mi_ad base ra)))))) = _
          rw [List.length_map, List.length_range, hcA]
          congr 7
          funext j
          rw [List.getD_eq_getElem?_getD, List.getElem?_map]
          by_cases hj : j < n.toNatClampNeg
          · rw [List.getElem?_range hj, if_pos hj]
            show some (mi_ad base ra (h.length + 1 + j)) = _
            rw [mi_ad_lo (hbl _ (by omega)), hsz]
            congr 1
            omega
          · rw [if_neg hj, List.getElem?_eq_none (by rw [List.length_range]; omega)]
            rfl
        have e2 : (List.replicate n.toNatClampNeg (Sum.inr (FieldType.int, Sum.inl (List.replicate k.toNatClampNeg 0)) : mi_E)).mapIdx (fun j x => (base + ((h ++ [(Sum.inr (FieldType.array .int, Sum.inr (Sum.inr ((List.range n.toNatClampNeg).map (fun i => some (h.length + 1 + i))))) : mi_E)]).length + j), mi_rE (mi_ad base ra) cT x)) = (List.range n.toNatClampNeg).map (fun i => (H.size + 1 + i, .inl (cy, k.toNatClampNeg, .inl (fun _ => 0)))) := by
          apply List.ext_getElem?
          intro j
          rw [List.getElem?_mapIdx, List.getElem?_map, List.getElem?_replicate, List.length_append]
          by_cases hj : j < n.toNatClampNeg
          · rw [if_pos hj, List.getElem?_range hj]
            show some (base + (h.length + 1 + j), Sum.inl (cT .int, (List.replicate k.toNatClampNeg (0 : Int32)).length, Sum.inl (fun i => (List.replicate k.toNatClampNeg (0 : Int32)).getD i 0))) = some (H.size + 1 + j, _)
            rw [mi_rep, List.length_replicate, hcy, hsz]
            congr 2
            omega
          · rw [if_neg hj, List.getElem?_eq_none (by rw [List.length_range]; omega)]
            rfl
        rw [e1, e2]
        exact hP1
    next => cases hh
  next => cases hh
theorem mi_q_obj {i : Nat} (cx : mi_Cx N base ra cT D own cc nL p s m args c) (hd : decode cc pc = .ok (.invokespecial i, len)) (hlen : mi_len (.invokespecial i) len = true) (hok : mi_ok own ini (.invokespecial i) ax) (hR : 1 ≤ R.frames ∧ 60 ≤ R.locals) (hh : mi_hObj ax pc st cn h = some (pc1, st1, cn1, h1)) (kk : mi_Wq base ra cT D nL p l e R s m args below meth c Q pc1 ls st1 cn1 h1) : mi_Wq base ra cT D nL p l e R s m args below meth c Q pc ls st cn h := by
  cases (beq_iff_eq.mp hlen)
  obtain ⟨hx, hb, hml, hown, hts, hKn, hX, hbs⟩ := cx
  intro H locs ar hsz hP hKA hS har
  obtain ⟨⟨w, hw⟩, -⟩ := hok i rfl
  unfold mi_hObj at hh
  split at hh
  next a r =>
    split at hh
    next hc =>
      cases hh
      obtain ⟨h1, h2⟩ := Bool.and_eq_true_iff.mp hc
      rw [Nat.eq_of_beq_eq_true h1] at hw
      have h2 := Nat.le_of_ble_eq_true h2
      refine W.objInit hx hb hown (hts _ (mi_lk12 hw)) (hts _ mi_gOi) (hts _ mi_gOc) rfl (by rw [hml]; exact har.1) rfl hd hR.1 ?_ (kk H locs ar hsz hP hKA hS har)
      show 2 * 0 + ((mi_st (mi_ad base ra) st1).map fun v => v.category).sum + 12 ≤ R.locals
      rw [mi_sum_st]
      have := hR.2
      omega
    next => cases hh
  next => cases hh
theorem mi_q_mm {i : Nat} (cx : mi_Cx N base ra cT D own cc nL p s m args c) (hd : decode cc pc = .ok (.invokestatic i, len)) (hlen : mi_len (.invokestatic i) len = true) (hok : mi_ok own ini (.invokestatic i) ax) (hR : 1 ≤ R.frames ∧ 60 ≤ R.locals) (hcs : cn.1 ≤ R.cells ∧ cn.2 ≤ R.slots) (hh : mi_hMm ax pc st cn h = some (pc1, st1, cn1, h1)) (kk : mi_Wq base ra cT D nL p l e R s m args below meth c Q pc1 ls st1 cn1 h1) : mi_Wq base ra cT D nL p l e R s m args below meth c Q pc ls st cn h := by
  cases (beq_iff_eq.mp hlen)
  obtain ⟨hx, hb, hml, hown, hts, hKn, hX, hbs⟩ := cx
  intro H locs ar hsz hP hKA hS har
  obtain ⟨⟨w, hw⟩, -⟩ := hok i rfl
  unfold mi_hMm at hh
  split at hh
  next y x r =>
    split at hh
    next hc =>
      have hc := Nat.le_of_ble_eq_true hc
      have hrm : ((mi_st (mi_ad base ra) r).map fun v => v.category).sum + 13 ≤ R.locals := by
        rw [mi_sum_st]
        have := hR.2
        omega
      split at hh
      next e0 =>
        cases hh
        rw [e0] at hw
        have hk := kk H locs ar hsz hP hKA hS har
        rw [mi_bif] at hk
        exact va_mmax hx hb (by rw [hml]; exact har.1.symm) hown (hts _ (mi_lk14 hw)) (hts _ mi_gMXs) (hts _ mi_gMi) (hts _ mi_gMXc) hR.1 hrm hcs.1 hcs.2 hd hk
      next e0 =>
        cases hh
        rw [e0] at hw
        have hk := kk H locs ar hsz hP hKA hS har
        rw [mi_bif] at hk
        exact va_mmin hx hb (by rw [hml]; exact har.1.symm) hown (hts _ (mi_lk15 hw)) (hts _ mi_gMNs) (hts _ mi_gMi) (hts _ mi_gMNc) hR.1 hrm hcs.1 hcs.2 hd hk
      next => cases hh
    next => cases hh
  next => cases hh
end MIN
