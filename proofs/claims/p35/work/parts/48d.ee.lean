theorem koe0 : (0 : Int32).toInt = 0 := by decide
theorem koe1 : (1 : Int32).toInt = 1 := by decide
theorem koe59 : (59 : Int32).toInt = 59 := by decide
theorem koem100 : ((-100) : Int32).toInt = (-100) := by decide
theorem oe0 {a0 : Int} (h0 : a0 = 0) : (0 : Int) ≤ a0 := by omega
theorem oe1 {a0 : Int} (h0 : a0 = 0) : a0 ≤ 120 := by omega
theorem oe8 {a0 : Int} (h0 : a0 = 1) : (0 : Int) ≤ a0 := by omega
theorem oe9 {a0 : Int} (h0 : a0 = 1) : a0 ≤ 1 := by omega
theorem oe11 {a0 : Int} (h0 : a0 = 59) : (0 : Int) ≤ a0 := by omega
theorem oe12 {a0 a1 : Int} (h0 : (0 : Int) ≤ a0) (h1 : a1 = 1) : (-2147483648 : Int) ≤ a0 + a1 := by omega
theorem oe16 {a0 a1 : Int} (h0 : a0 < a1) : (1 : Int) ≤ (a1 - a0) := by omega
theorem oe17 {a0 : Int} (h0 : a0 = 0) : a0 = 0 := by omega
theorem oe18 {a0 : Int} (h0 : a0 = 0) : a0 ≤ 200 := by omega
theorem oe19 {a0 : Int} (h0 : a0 = 0) : a0 ≤ 61 := by omega
theorem oe20 {a0 : Int} (h0 : (0 : Int) ≤ a0) : (0 : Int) ≤ a0 := by omega
theorem oe22 {a0 a1 : Int} (h0 : a0 ≤ a1) : a0 ≤ a1 := by omega
theorem oe30 {a0 : Int}  : a0 = a0 := by omega
theorem oe32 {a0 a1 : Int} (h0 : a0 = a1) : a0 = a1 := by omega
theorem oe35 {a0 a1 a2 : Int} (h0 : a0 = a1) (h1 : a2 = a0) : a2 = a1 := by omega
theorem oe39 {a0 a1 : Int} (h0 : (0 : Int) ≤ a0) (h1 : a1 = 0) : (a1 = 0) ∧ (a1 ≤ a1) ∧ (a1 ≤ a0) := by omega
theorem oe40 {a0 : Int} (h0 : a0 = 0) : (2 * a0) ≤ a0 := by omega
theorem oe41 {a0 a1 : Int} (h0 : a0 ≤ 120) (h1 : a1 = (-100)) : (-2147483648 : Int) ≤ a1 - a0 := by omega
theorem oe43 {a0 a1 : Int} (h0 : a0 ≠ a1) (h1 : a0 = a1) (h2 : (0 : Int) ≤ a0) (h3 : a1 = 0) : False := by omega
theorem oe46 {a0 a1 : Int} (h0 : a0 ≠ a1) (h1 : (0 : Int) ≤ a0) (h2 : a0 ≤ 1) (h3 : a1 = 0) : a0 = 1 := by omega
theorem oe47 {a0 : Int} (h0 : a0 = 1) : ((0 : Int) ≤ a0) ∧ (a0 ≤ 1) := by omega
theorem oe48 {a0 a1 a2 a3 a4 a5 : Int} (h0 : a0 = 0) (h1 : a1 ≤ a2) (h2 : a2 ≤ a3) (h3 : (2 * a4) ≤ (a2 + 1)) (h4 : a5 = 1) : ((a5 = 1) → ((a0 = 0) ∧ (a1 ≤ a2) ∧ (a2 ≤ a3) ∧ ((2 * a4) ≤ (a2 + 1)))) := by omega
theorem oe49 {a0 a1 a2 a3 a4 a5 a6 a7 a8 : Int} (h0 : a0 ≠ a1) (h1 : a2 = a3) (h2 : a4 = a2) (h3 : (0 : Int) ≤ a0) (h4 : a5 = (a6 + 1)) (h5 : a5 ≤ a7) (h6 : a1 = 0) (h7 : a8 = 1) : (((200 * a8) + a4) - a7) < (((200 * a0) + a3) - a6) := by omega
theorem oe50 {a0 a1 a2 a3 a4 : Int} (h0 : a0 = a1) (h1 : (0 : Int) ≤ a2) (h2 : a3 = (a4 + 1)) (h3 : a3 ≤ a0) : (1 : Int) ≤ (((200 * a2) + a1) - a4) := by omega
theorem oe51 {a0 : Int} (h0 : a0 = 0) : ((0 : Int) ≤ a0) ∧ (a0 ≤ 1) := by omega
theorem oe52 {a0 a1 a2 a3 a4 a5 : Int} (h0 : a0 = 0) : ((a0 = 1) → ((a1 = 0) ∧ (a2 ≤ a3) ∧ (a3 ≤ a4) ∧ ((2 * a5) ≤ (a3 + 1)))) := by omega
theorem oe53 {a0 a1 a2 a3 a4 a5 a6 a7 : Int} (h0 : a0 ≠ a1) (h1 : a2 = a3) (h2 : a4 ≤ 120) (h3 : (0 : Int) ≤ a5) (h4 : (0 : Int) ≤ a0) (h5 : a6 = (a7 + 1)) (h6 : a6 ≤ a2) (h7 : a1 = 0) : (((200 * a1) + a4) - a5) < (((200 * a0) + a3) - a7) := by omega
theorem oe57 {a0 a1 a2 : Int} (h0 : a0 = a1) (h1 : a2 = a0) (h2 : (0 : Int) ≤ a2) (h3 : a1 = 0) : a2 = 0 := by omega
theorem oe58 {a0 a1 a2 : Int} (h0 : a0 ≤ a1) (h1 : a0 = a2) : a2 ≤ a1 := by omega
theorem oe59 {a0 a1 a2 a3 : Int} (h0 : a0 ≤ a1) (h1 : a2 = a3) (h2 : a0 = a2) : a3 ≤ a1 := by omega
theorem oe60 {a0 a1 : Int} (h0 : a0 < a1) (h1 : a1 ≤ 200) : a0 < 200 := by omega
theorem oe61 {a0 a1 a2 : Int} (h0 : a0 < a1) (h1 : a1 ≤ 200) (h2 : a2 = 1) : a0 + a2 ≤ 2147483647 := by omega
theorem oe62 {a0 a1 a2 a3 : Int} (h0 : a0 < a1) (h1 : (0 : Int) ≤ a0) (h2 : a2 = a0 + a3) (h3 : a3 = 1) : ((0 : Int) ≤ a2) ∧ (a2 ≤ a1) := by omega
theorem oe63 {a0 a1 a2 : Int} (h0 : a0 = a1 + a2) (h1 : a2 = 1) : a0 = a1 + 1 := by omega
theorem oe64 {a0 a1 a2 a3 : Int} (h0 : a0 = a1 + a2) (h1 : a2 = 1) : (a3 - a0) < (a3 - a1) := by omega
theorem oe65 {a0 a1 : Int} (h0 : (0 : Int) ≤ a0) (h1 : a1 = 0) : ((0 : Int) ≤ a1) ∧ (a1 ≤ a0) := by omega
theorem oe66 {a0 a1 : Int} (h0 : a0 < a1) (h1 : a1 ≤ 60) : a0 < 61 := by omega
theorem oe67 {a0 a1 : Int} (h0 : a0 < a1) (h1 : a1 ≤ 60) : a0 < 60 := by omega
theorem oe68 {a0 a1 a2 : Int} (h0 : a0 < a1) (h1 : a1 ≤ 60) (h2 : a2 = 1) : a0 + a2 ≤ 2147483647 := by omega
theorem oe70 {a0 a1 : Int} (h0 : (0 : Int) ≤ a0) (h1 : a1 = (-100)) : a1 - a0 ≤ 2147483647 := by omega
theorem oe71 {a0 a1 : Int} (h0 : a0 = a1) (h1 : a0 ≠ a1) (h2 : (0 : Int) ≤ a0) (h3 : a1 = 0) : False := by omega
theorem oe72 {a0 a1 a2 a3 a4 a5 a6 a7 a8 a9 a10 : Int} (h0 : a0 ≠ a1) (h1 : a2 = a3) (h2 : a4 = a5) (h3 : (0 : Int) ≤ a0) (h4 : a0 ≤ 1) (h5 : ((a0 = 1) → ((a3 = 0) ∧ (a5 ≤ a6) ∧ (a6 ≤ a7) ∧ ((2 * a8) ≤ (a6 + 1))))) (h6 : a9 = (a6 + 1)) (h7 : a9 ≤ a10) (h8 : a1 = 0) : (a2 = 0) ∧ (a4 ≤ a9) ∧ (a9 ≤ a10) := by omega
theorem oe73 {a0 a1 a2 a3 a4 a5 a6 a7 a8 : Int} (h0 : a0 ≠ a1) (h1 : a2 = a3) (h2 : (0 : Int) ≤ a0) (h3 : a0 ≤ 1) (h4 : ((a0 = 1) → ((a4 = 0) ∧ (a5 ≤ a6) ∧ (a6 ≤ a7) ∧ ((2 * a3) ≤ (a6 + 1))))) (h5 : a8 = (a6 + 1)) (h6 : a1 = 0) : (2 * a2) ≤ a8 := by omega
theorem oe74 {a0 a1 a2 a3 a4 a5 a6 a7 : Int} (h0 : a0 ≠ a1) (h1 : a2 = a3) (h2 : a4 ≤ 120) (h3 : (0 : Int) ≤ a0) (h4 : a0 ≤ 1) (h5 : ((a0 = 1) → ((a5 = 0) ∧ (a6 ≤ a4) ∧ (a4 ≤ a7) ∧ ((2 * a3) ≤ (a4 + 1))))) (h6 : a1 = 0) : a2 ≤ 60 := by omega
def yw86_0 : kW := ([640, 643, 6273, 6274, 6275, 6400, 6403], [11, 12, 101, 102], [], [0, 2])
set_option maxRecDepth 100000 in
theorem ke86_0 {i : Nat → Int32} {a : Nat → List Int32} {q : Nat → List Int64} {r : Nat → Nat} (hI : kI i a q) (hr : kr r)  : km 57 86 [.ref 0] (ks i a q r) (kVI yw86_0 i a q r (fun v i1 a1 q1 r1 => (i1 6273).toInt = 0)) := by
  have hG := kG_self yw86_0 hI hr
  refine km_ofI (q := (mi_h86, mi_c86)) rfl (by decide) (Nat.le_of_ble_eq_true rfl) ?_
  intro P hP
  refine ft_go mi_k86 2 4 [(0, .ref 0)] [.ref 98] i a q r (by rfl) ?_
  refine ko_callI mi_k86.1 (pc := 4) (ls := [(0, .ref 0)]) (st := [.ref 98]) (h := ks i a q r) (i := (.invokevirtual 113, 3, 44, 0, 9, 0, 175)) (mi_k86.2 _ _ (by rfl)) (ft_invS mi_pq44 (by rfl)) (cy := mi_c44) mi_pq44 rfl (kc44_98 hG.I hG.R ) (by decide) ?_
  intro vg1 ig1 ag1 qg1 rg1 kg1 hg1
  have hGg1 := kG_call hG kg1 (by decide +kernel)
  have z2 : (vg1.toInt = (-1)) ∨ ((0 : Int) ≤ vg1.toInt) := hg1
  have hJ3 := kG_i hGg1 6273 rfl (v := 0) ⟨(oe0 koe0), (oe1 koe0)⟩
  refine ft_go mi_k86 6 17 [(1, .int vg1), (0, .ref 0)] [.int vg1] (ku ig1 6273 0) ag1 qg1 rg1 (by rfl) ?_
  refine ft_if mi_k86 (decide (vg1 < 0)) 25 20 [(1, .int vg1), (0, .ref 0)] [] (by rfl) (fun c => ?_) (fun c => ?_)
  ·
    have c4 : vg1.toInt < (0 : Int32).toInt := kd_lt c; clear c
    refine ft_go mi_k86 7 40 [(1, .int vg1), (0, .ref 0)] [.ref (rg1 0), .ref 98, .ref 1] (ku ig1 6273 0) ag1 qg1 rg1 (by rfl) ?_
    rcases hJ3.R.1 with ⟨eRrg1_0, eRrg1_2⟩ | ⟨eRrg1_0, eRrg1_2⟩
    ·
      have eRrg1_0 : rg1 0 = 10 := eRrg1_0
      have eRrg1_2 : rg1 2 = 100 := eRrg1_2
      refine ko_eq (x1 := (40, [(1, .int vg1), (0, .ref 0)], [.ref 10, .ref 98, .ref 1], (0, 0), ks (ku ig1 6273 0) ag1 qg1 rg1)) (by rw [eRrg1_0]) ?_
      refine ko_callP mi_k86.1 (pc := 40) (ls := [(1, .int vg1), (0, .ref 0)]) (st := [.ref 10, .ref 98, .ref 1]) (h := ks (ku ig1 6273 0) ag1 qg1 rg1) (i := (.invokevirtual 121, 3, 43, 0, 9, 0, 205)) (mi_k86.2 _ _ (by rfl)) (ft_invS mi_pq43 (by rfl)) (cy := mi_c43) mi_pq43 rfl (kc43 (ku ig1 6273 0) ag1 qg1 rg1 10) (by decide) ?_
      rintro _ _ ⟨rfl, rfl⟩
      refine ko_eq (x1 := (43, [(1, .int vg1), (0, .ref 0)], [.ref 100, .ref 1], (0, 0), ks (ku ig1 6273 0) ag1 qg1 (ku rg1 2 10))) (by rw [eRrg1_2] <;> rfl) ?_
      have hJ5 := kG_r2 hJ3 2 rfl 0 rfl (v := 10) (v2 := 100) (by first | exact ⟨Or.inl ⟨rfl, rfl⟩, hJ3.R.2⟩ | exact ⟨Or.inr ⟨rfl, rfl⟩, hJ3.R.2⟩)
      refine ko_steps mi_in86 2 _ (47, [(1, .int vg1), (0, .ref 0)], [.int 1], (0, 0), ks (ku ig1 6273 0) ag1 qg1 (ku (ku rg1 2 10) 0 100)) (by rfl) ?_
      exact ft_ret mi_k86 (by rfl) (hP 1 _ _ _ _ hJ5 (oe17 koe0))
    ·
      have eRrg1_0 : rg1 0 = 100 := eRrg1_0
      have eRrg1_2 : rg1 2 = 10 := eRrg1_2
      refine ko_eq (x1 := (40, [(1, .int vg1), (0, .ref 0)], [.ref 100, .ref 98, .ref 1], (0, 0), ks (ku ig1 6273 0) ag1 qg1 rg1)) (by rw [eRrg1_0]) ?_
      refine ko_callP mi_k86.1 (pc := 40) (ls := [(1, .int vg1), (0, .ref 0)]) (st := [.ref 100, .ref 98, .ref 1]) (h := ks (ku ig1 6273 0) ag1 qg1 rg1) (i := (.invokevirtual 121, 3, 43, 0, 9, 0, 205)) (mi_k86.2 _ _ (by rfl)) (ft_invS mi_pq43 (by rfl)) (cy := mi_c43) mi_pq43 rfl (kc43 (ku ig1 6273 0) ag1 qg1 rg1 100) (by decide) ?_
      rintro _ _ ⟨rfl, rfl⟩
      refine ko_eq (x1 := (43, [(1, .int vg1), (0, .ref 0)], [.ref 10, .ref 1], (0, 0), ks (ku ig1 6273 0) ag1 qg1 (ku rg1 2 100))) (by rw [eRrg1_2] <;> rfl) ?_
      have hJ6 := kG_r2 hJ3 2 rfl 0 rfl (v := 100) (v2 := 10) (by first | exact ⟨Or.inl ⟨rfl, rfl⟩, hJ3.R.2⟩ | exact ⟨Or.inr ⟨rfl, rfl⟩, hJ3.R.2⟩)
      refine ko_steps mi_in86 2 _ (47, [(1, .int vg1), (0, .ref 0)], [.int 1], (0, 0), ks (ku ig1 6273 0) ag1 qg1 (ku (ku rg1 2 100) 0 10)) (by rfl) ?_
      exact ft_ret mi_k86 (by rfl) (hP 1 _ _ _ _ hJ6 (oe17 koe0))
  ·
    have c7 : (0 : Int32).toInt ≤ vg1.toInt := kd_ltF c; clear c
    have b8 : ((-2147483648 : Int) ≤ vg1.toInt) ∧ (vg1.toInt ≤ 2147483647) := kd_bd vg1
    refine ft_go mi_k86 3 24 [(1, .int vg1), (0, .ref 0)] [.int ((-100) - vg1)] (ku ig1 6273 0) ag1 qg1 rg1 (by rfl) ?_
    exact ft_ret mi_k86 (by rfl) (hP ((-100) - vg1) _ _ _ _ hJ3 (oe17 koe0))
def yw159_116 : kW := ([7429, 7431, 7432, 7437, 7438, 7439, 7440], [120, 121, 122, 123, 124, 125, 126, 127], [], [])
def yw159_116_L25 : kW := ([7437, 7438, 7439, 7440], [124, 125, 126, 127], [], [])
def yw159_116_L99 : kW := ([], [120, 121, 122], [], [])
def yw159_116_L151 : kW := ([], [123], [], [])
set_option maxRecDepth 100000 in
theorem ke159_116 {i : Nat → Int32} {a : Nat → List Int32} {q : Nat → List Int64} {r : Nat → Nat} (hI : kI i a q) (hr : kr r) (hE_code : kCode i a) : km 55 159 [.ref 116] (ks i a q r) (kVI yw159_116 i a q r (fun v i1 a1 q1 r1 => ((i1 7429).toInt = 0) ∧ kCode i1 a1)) := by
  have hG := kG_self yw159_116 hI hr
  refine km_ofI (q := (mi_h159, mi_c159)) rfl (by decide) (Nat.le_of_ble_eq_true rfl) ?_
  intro P hP
  have hJ1 := kG_i hG 7437 rfl (v := 0) ⟨(oe0 koe0), (oe1 koe0)⟩
  have hJ2 := kG_i hJ1 7438 rfl (v := 0) (kd_bd _)
  have hJ3 := kG_i hJ2 7439 rfl (v := 0) ⟨(oe0 koe0), (oe18 koe0)⟩
  have hJ4 := kG_i hJ3 7440 rfl (v := 0) ⟨(oe0 koe0), (oe19 koe0)⟩
  refine ft_go mi_k159 13 21 [(0, .ref 116)] [.ref 116] (ku (ku (ku (ku i 7437 0) 7438 0) 7439 0) 7440 0) a q r (by rfl) ?_
  have fi_7429 : ((0 : Int) ≤ (i 7429).toInt) ∧ ((i 7429).toInt ≤ 120) := hJ4.I.1 7429
  refine ko_callI mi_k159.1 (pc := 21) (ls := [(0, .ref 116)]) (st := [.ref 116]) (h := ks (ku (ku (ku (ku i 7437 0) 7438 0) 7439 0) 7440 0) a q r) (i := (.invokevirtual 211, 3, 158, 0, 9, 0, 396)) (mi_k159.2 _ _ (by rfl)) (ft_invS mi_pq158 (by rfl)) (cy := mi_c158) mi_pq158 rfl (kc158_116 hJ4.I hJ4.R (oe39 fi_7429.1 koe0) (oe40 koe0) (kNw_z kn0)) (by decide) ?_
  intro vg5 ig5 ag5 qg5 rg5 kg5 hg5
  have hGg5 := kG_call hJ4 kg5 (by decide +kernel)
  rcases hg5 with ⟨eg5, hg5⟩ | ⟨eg5, hg5⟩
  ·
    subst eg5
    obtain ⟨hg5, og5⟩ := hg5
    have fig5_7439 : ((0 : Int) ≤ (ig5 7439).toInt) ∧ ((ig5 7439).toInt ≤ 200) := hGg5.I.1 7439
    have fig5_7437 : ((0 : Int) ≤ (ig5 7437).toInt) ∧ ((ig5 7437).toInt ≤ 120) := hGg5.I.1 7437
    have fig5_7429 : ((0 : Int) ≤ (ig5 7429).toInt) ∧ ((ig5 7429).toInt ≤ 120) := hGg5.I.1 7429
    have efig5_7429 : (ig5 7429).toInt = (i 7429).toInt := kg5.ti 7429 rfl
    have fig5_7440 : ((0 : Int) ≤ (ig5 7440).toInt) ∧ ((ig5 7440).toInt ≤ 61) := hGg5.I.1 7440
    have z6 : ((ig5 7438).toInt = 0) ∧ ((ig5 7439).toInt ≤ (ig5 7437).toInt) ∧ ((ig5 7437).toInt ≤ (ig5 7429).toInt) ∧ ((2 * (ig5 7440).toInt) ≤ ((ig5 7437).toInt + 1)) ∧ ((ig5 7440).toInt = ((0 : Int32).toInt + 1)) ∧ ((0 : Int32).toInt ≤ (ig5 7437).toInt) := hg5
    refine ft_go mi_k159 1 25 [(1, .int 1), (0, .ref 116)] [] ig5 ag5 qg5 rg5 (by rfl) ?_
    have lp7 : ∀ (nz : Nat) (i7 : Nat → Int32) (a7 : Nat → List Int32) (q7 : Nat → List Int64) (r7 : Nat → Nat) (l1_7 : Int32), kG yw159_116_L25 ig5 ag5 qg5 rg5 i7 a7 q7 r7 → ((0 : Int) ≤ l1_7.toInt) ∧ (l1_7.toInt ≤ 1) → ((l1_7.toInt = 1) → (((i7 7438).toInt = 0) ∧ ((i7 7439).toInt ≤ (i7 7437).toInt) ∧ ((i7 7437).toInt ≤ (i7 7429).toInt) ∧ ((2 * (i7 7440).toInt) ≤ ((i7 7437).toInt + 1)))) → (i7 7437).toInt ≤ (i7 7429).toInt → (l1_7.toInt = 1 → kNw (i7 7440).toInt.toNat (i7 7439).toInt.toNat (a7 124) (a7 125) (a7 126) (a7 127)) → ((((200 * l1_7.toInt) + (i7 7429).toInt) - (i7 7437).toInt)).toNat < nz → ko 55 (mi_h159, mi_c159) P (25, [(1, .int l1_7), (0, .ref 116)], [], (0, 0), ks i7 a7 q7 r7) := by
      intro nz
      induction nz with
      | zero =>
        intro _ _ _ _ _ _ _ _ _ _ hm
        exact absurd hm (Nat.not_lt_zero _)
      | succ nz ih7 =>
        intro i7 a7 q7 r7 l1_7 hL7 p7_0 p7_1 p7_2 O7_0 hm7
        have fi7_7439 : ((0 : Int) ≤ (i7 7439).toInt) ∧ ((i7 7439).toInt ≤ 200) := hL7.I.1 7439
        have fi7_7437 : ((0 : Int) ≤ (i7 7437).toInt) ∧ ((i7 7437).toInt ≤ 120) := hL7.I.1 7437
        have fi7_7429 : ((0 : Int) ≤ (i7 7429).toInt) ∧ ((i7 7429).toInt ≤ 120) := hL7.I.1 7429
        have efi7_7429 : (i7 7429).toInt = (ig5 7429).toInt := hL7.ti 7429 rfl
        have fi7_7440 : ((0 : Int) ≤ (i7 7440).toInt) ∧ ((i7 7440).toInt ≤ 61) := hL7.I.1 7440
        refine ft_go mi_k159 1 26 [(1, .int l1_7), (0, .ref 116)] [.int l1_7] i7 a7 q7 r7 (by rfl) ?_
        refine ft_if mi_k159 (l1_7 == 0) 46 29 [(1, .int l1_7), (0, .ref 116)] [] (by rfl) (fun c => ?_) (fun c => ?_)
        ·
          have c8 : l1_7.toInt = (0 : Int32).toInt := kd_eq c; clear c
          have hG9 := kG_call hGg5 hL7 (by decide +kernel)
          refine ft_go mi_k159 1 47 [(1, .int l1_7), (0, .ref 116)] [.int l1_7] i7 a7 q7 r7 (by rfl) ?_
          refine ft_if mi_k159 (l1_7 == 0) 65 50 [(1, .int l1_7), (0, .ref 116)] [] (by rfl) (fun c => ?_) (fun c => ?_)
          ·
            have c10 : l1_7.toInt = (0 : Int32).toInt := kd_eq c; clear c
            have hJ11 := kG_i hG9 7429 rfl (v := 0) ⟨(oe0 koe0), (oe1 koe0)⟩
            have s12 : ((-100) - (i7 7437)).toInt = ((-100) : Int32).toInt - (i7 7437).toInt := kd_sub (oe41 fi7_7437.2 koem100) (oe70 fi7_7437.1 koem100)
            refine ft_go mi_k159 11 83 [(2, .int 0), (1, .int l1_7), (0, .ref 116)] [.int ((-100) - (i7 7437))] (ku i7 7429 0) a7 q7 r7 (by rfl) ?_
            exact ft_ret mi_k159 (by rfl) (hP ((-100) - (i7 7437)) _ _ _ _ hJ11 ⟨(oe17 koe0), (kCode_of (i1 := ku i7 7429 0) hE_code ((hL7.fi 7432 rfl).trans (kg5.fi 7432 rfl)) ((hL7.fa 120 rfl).trans (kg5.fa 120 rfl)) ((hL7.fa 121 rfl).trans (kg5.fa 121 rfl)) ((hL7.fa 122 rfl).trans (kg5.fa 122 rfl)) ((hL7.fa 123 rfl).trans (kg5.fa 123 rfl)))⟩)
          ·
            have c13 : l1_7.toInt ≠ (0 : Int32).toInt := kd_eqF c; clear c
            exact (oe43 c13 c8 p7_0.1 koe0).elim
        ·
          have c14 : l1_7.toInt ≠ (0 : Int32).toInt := kd_eqF c; clear c
          refine ft_go mi_k159 2 32 [(1, .int l1_7), (0, .ref 116)] [.int 59, .ref 116] i7 a7 q7 r7 (by rfl) ?_
          refine ko_callI mi_k159.1 (pc := 32) (ls := [(1, .int l1_7), (0, .ref 116)]) (st := [.int 59, .ref 116]) (h := ks i7 a7 q7 r7) (i := (.invokevirtual 187, 3, 148, 0, 9, 0, 407)) (mi_k159.2 _ _ (by rfl)) (ft_invS mi_pq148 (by rfl)) (cy := mi_c148) mi_pq148 rfl (kc148_116 hL7.I hL7.R 59 (oe11 koe59)) (by decide) ?_
          intro vg15 ig15 ag15 qg15 rg15 kg15 hg15
          have hGg15 := kG_call hL7 kg15 (by decide +kernel)
          rcases hg15 with ⟨eg15, hg15⟩ | ⟨eg15, hg15⟩
          ·
            subst eg15
            have fig15_7437 : ((0 : Int) ≤ (ig15 7437).toInt) ∧ ((ig15 7437).toInt ≤ 120) := hGg15.I.1 7437
            have fig15_7429 : ((0 : Int) ≤ (ig15 7429).toInt) ∧ ((ig15 7429).toInt ≤ 120) := hGg15.I.1 7429
            have efig15_7429 : (ig15 7429).toInt = (i7 7429).toInt := kg15.ti 7429 rfl
            have z16 : ((ig15 7437).toInt = ((i7 7437).toInt + 1)) ∧ ((ig15 7437).toInt ≤ (ig15 7429).toInt) := hg15
            refine ft_go mi_k159 2 39 [(1, .int l1_7), (0, .ref 116)] [.ref 116] ig15 ag15 qg15 rg15 (by rfl) ?_
            have efig15_7438 : (ig15 7438).toInt = (i7 7438).toInt := kg15.ti 7438 rfl
            have fig15_7439 : ((0 : Int) ≤ (ig15 7439).toInt) ∧ ((ig15 7439).toInt ≤ 200) := hGg15.I.1 7439
            have efig15_7439 : (ig15 7439).toInt = (i7 7439).toInt := kg15.ti 7439 rfl
            have fig15_7440 : ((0 : Int) ≤ (ig15 7440).toInt) ∧ ((ig15 7440).toInt ≤ 61) := hGg15.I.1 7440
            have efig15_7440 : (ig15 7440).toInt = (i7 7440).toInt := kg15.ti 7440 rfl
            refine ko_callI mi_k159.1 (pc := 39) (ls := [(1, .int l1_7), (0, .ref 116)]) (st := [.ref 116]) (h := ks ig15 ag15 qg15 rg15) (i := (.invokevirtual 211, 3, 158, 0, 9, 0, 396)) (mi_k159.2 _ _ (by rfl)) (ft_invS mi_pq158 (by rfl)) (cy := mi_c158) mi_pq158 rfl (kc158_116 hGg15.I hGg15.R (oe72 c14 efig15_7438 efig15_7439 p7_0.1 p7_0.2 p7_1 z16.1 z16.2 koe0) (oe73 c14 efig15_7440 p7_0.1 p7_0.2 p7_1 z16.1 koe0) (kNw_cast (O7_0 (oe46 c14 p7_0.1 p7_0.2 koe0)) (congrArg Int.toNat (oe32 efig15_7440)) (congrArg Int.toNat (oe32 efig15_7439)) (kg15.fa 124 rfl) (kg15.fa 125 rfl) (kg15.fa 126 rfl) (kg15.fa 127 rfl))) (by decide) ?_
            intro vg17 ig17 ag17 qg17 rg17 kg17 hg17
            have hGg17 := kG_call hGg15 kg17 (by decide +kernel)
            rcases hg17 with ⟨eg17, hg17⟩ | ⟨eg17, hg17⟩
            ·
              subst eg17
              obtain ⟨hg17, og17⟩ := hg17
              have fig17_7439 : ((0 : Int) ≤ (ig17 7439).toInt) ∧ ((ig17 7439).toInt ≤ 200) := hGg17.I.1 7439
              have fig17_7437 : ((0 : Int) ≤ (ig17 7437).toInt) ∧ ((ig17 7437).toInt ≤ 120) := hGg17.I.1 7437
              have fig17_7429 : ((0 : Int) ≤ (ig17 7429).toInt) ∧ ((ig17 7429).toInt ≤ 120) := hGg17.I.1 7429
              have efig17_7429 : (ig17 7429).toInt = (ig15 7429).toInt := kg17.ti 7429 rfl
              have fig17_7440 : ((0 : Int) ≤ (ig17 7440).toInt) ∧ ((ig17 7440).toInt ≤ 61) := hGg17.I.1 7440
              have z18 : ((ig17 7438).toInt = 0) ∧ ((ig17 7439).toInt ≤ (ig17 7437).toInt) ∧ ((ig17 7437).toInt ≤ (ig17 7429).toInt) ∧ ((2 * (ig17 7440).toInt) ≤ ((ig17 7437).toInt + 1)) ∧ ((ig17 7440).toInt = ((ig15 7440).toInt + 1)) ∧ ((ig15 7437).toInt ≤ (ig17 7437).toInt) := hg17
              refine ft_go mi_k159 2 25 [(1, .int 1), (0, .ref 116)] [] ig17 ag17 qg17 rg17 (by rfl) ?_
              exact ih7 _ _ _ _ _ hGg17 (oe47 koe1) (oe48 z18.1 z18.2.1 z18.2.2.1 z18.2.2.2.1 koe1) (oe22 z18.2.2.1) (fun _ => (kNw_cast og17 (congrArg Int.toNat oe30) (congrArg Int.toNat oe30) rfl rfl rfl rfl)) (kj_meas (oe49 c14 efig15_7429 efig17_7429 p7_0.1 z16.1 z18.2.2.2.2.2 koe0 koe1) (oe50 efig15_7429 p7_0.1 z16.1 z16.2) hm7)
            ·
              subst eg17
              have fig17_7437 : ((0 : Int) ≤ (ig17 7437).toInt) ∧ ((ig17 7437).toInt ≤ 120) := hGg17.I.1 7437
              have fig17_7429 : ((0 : Int) ≤ (ig17 7429).toInt) ∧ ((ig17 7429).toInt ≤ 120) := hGg17.I.1 7429
              have efig17_7429 : (ig17 7429).toInt = (ig15 7429).toInt := kg17.ti 7429 rfl
              have z19 : (ig17 7437).toInt ≤ (ig17 7429).toInt := hg17
              refine ft_go mi_k159 2 25 [(1, .int 0), (0, .ref 116)] [] ig17 ag17 qg17 rg17 (by rfl) ?_
              have fig17_7439 : ((0 : Int) ≤ (ig17 7439).toInt) ∧ ((ig17 7439).toInt ≤ 200) := hGg17.I.1 7439
              have fig17_7440 : ((0 : Int) ≤ (ig17 7440).toInt) ∧ ((ig17 7440).toInt ≤ 61) := hGg17.I.1 7440
              exact ih7 _ _ _ _ _ hGg17 (oe51 koe0) (oe52 koe0) (oe22 z19) (fun h => absurd (kn0.symm.trans h) (by decide)) (kj_meas (oe53 c14 efig15_7429 fig17_7429.2 fig17_7437.1 p7_0.1 z16.1 z16.2 koe0) (oe50 efig15_7429 p7_0.1 z16.1 z16.2) hm7)
          ·
            subst eg15
            have fig15_7437 : ((0 : Int) ≤ (ig15 7437).toInt) ∧ ((ig15 7437).toInt ≤ 120) := hGg15.I.1 7437
            have z20 : (ig15 7437).toInt = (i7 7437).toInt := hg15
            refine ft_go mi_k159 1 46 [(1, .int l1_7), (0, .ref 116)] [] ig15 ag15 qg15 rg15 (by rfl) ?_
            have hG21 := kG_call hGg5 hGg15 (by decide +kernel)
            refine ft_go mi_k159 1 47 [(1, .int l1_7), (0, .ref 116)] [.int l1_7] ig15 ag15 qg15 rg15 (by rfl) ?_
            refine ft_if mi_k159 (l1_7 == 0) 65 50 [(1, .int l1_7), (0, .ref 116)] [] (by rfl) (fun c => ?_) (fun c => ?_)
            ·
              have c22 : l1_7.toInt = (0 : Int32).toInt := kd_eq c; clear c
              exact (oe43 c14 c22 p7_0.1 koe0).elim
            ·
              have c23 : l1_7.toInt ≠ (0 : Int32).toInt := kd_eqF c; clear c
              have fig15_7429 : ((0 : Int) ≤ (ig15 7429).toInt) ∧ ((ig15 7429).toInt ≤ 120) := hG21.I.1 7429
              have efig15_7429 : (ig15 7429).toInt = (i7 7429).toInt := kg15.ti 7429 rfl
              refine ft_go mi_k159 4 58 [(1, .int l1_7), (0, .ref 116)] [.int (ig15 7429), .int (ig15 7437)] ig15 ag15 qg15 rg15 (by rfl) ?_
              refine ft_if mi_k159 ((ig15 7437) != (ig15 7429)) 65 61 [(1, .int l1_7), (0, .ref 116)] [] (by rfl) (fun c => ?_) (fun c => ?_)
              ·
                have c24 : (ig15 7437).toInt ≠ (ig15 7429).toInt := kd_ne c; clear c
                have hJ25 := kG_i hG21 7429 rfl (v := 0) ⟨(oe0 koe0), (oe1 koe0)⟩
                have s26 : ((-100) - (ig15 7437)).toInt = ((-100) : Int32).toInt - (ig15 7437).toInt := kd_sub (oe41 fig15_7437.2 koem100) (oe70 fig15_7437.1 koem100)
                refine ft_go mi_k159 11 83 [(2, .int 0), (1, .int l1_7), (0, .ref 116)] [.int ((-100) - (ig15 7437))] (ku ig15 7429 0) ag15 qg15 rg15 (by rfl) ?_
                exact ft_ret mi_k159 (by rfl) (hP ((-100) - (ig15 7437)) _ _ _ _ hJ25 ⟨(oe17 koe0), (kCode_of (i1 := ku ig15 7429 0) hE_code ((kg15.fi 7432 rfl).trans ((hL7.fi 7432 rfl).trans (kg5.fi 7432 rfl))) (((kg15.fa 120 rfl).trans (hL7.fa 120 rfl)).trans (kg5.fa 120 rfl)) (((kg15.fa 121 rfl).trans (hL7.fa 121 rfl)).trans (kg5.fa 121 rfl)) (((kg15.fa 122 rfl).trans (hL7.fa 122 rfl)).trans (kg5.fa 122 rfl)) (((kg15.fa 123 rfl).trans (hL7.fa 123 rfl)).trans (kg5.fa 123 rfl)))⟩)
              ·
                have c27 : (ig15 7437).toInt = (ig15 7429).toInt := kd_neF c; clear c
                have hJ28 := kG_i hG21 7429 rfl (v := 0) ⟨(oe0 koe0), (oe1 koe0)⟩
                have hJ29 := kG_i hJ28 7431 rfl (v := 1) ⟨(oe8 koe1), (oe9 koe1)⟩
                have fig15_7440 : ((0 : Int) ≤ (ig15 7440).toInt) ∧ ((ig15 7440).toInt ≤ 61) := hJ29.I.1 7440
                have efig15_7440 : (ig15 7440).toInt = (i7 7440).toInt := kg15.ti 7440 rfl
                have hJ30 := kG_i hJ29 7432 rfl (v := (ig15 7440)) ⟨(oe20 fig15_7440.1), (oe74 c14 efig15_7440 fi7_7437.2 p7_0.1 p7_0.2 p7_1 koe0)⟩
                have fig15_7439 : ((0 : Int) ≤ (ig15 7439).toInt) ∧ ((ig15 7439).toInt ≤ 200) := hJ30.I.1 7439
                have efig15_7439 : (ig15 7439).toInt = (i7 7439).toInt := kg15.ti 7439 rfl
                have hN31 := (kNw_cast (O7_0 (oe46 c14 p7_0.1 p7_0.2 koe0)) (congrArg Int.toNat (oe32 efig15_7440)) (congrArg Int.toNat (oe32 efig15_7439)) (kg15.fa 124 rfl) (kg15.fa 125 rfl) (kg15.fa 126 rfl) (kg15.fa 127 rfl))
                refine ft_go mi_k159 17 99 [(3, .int 0), (2, .int 1), (1, .int l1_7), (0, .ref 116)] [] (ku (ku (ku ig15 7429 0) 7431 1) 7432 (ig15 7440)) ag15 qg15 rg15 (by rfl) ?_
                have lp32 : ∀ (nz : Nat) (i32 : Nat → Int32) (a32 : Nat → List Int32) (q32 : Nat → List Int64) (r32 : Nat → Nat) (l3_32 : Int32), kG yw159_116_L99 (ku (ku (ku ig15 7429 0) 7431 1) 7432 (ig15 7440)) ag15 qg15 rg15 i32 a32 q32 r32 → ((0 : Int) ≤ l3_32.toInt) ∧ (l3_32.toInt ≤ (i32 7432).toInt) → kCp (ag15 124) (a32 120) l3_32.toInt.toNat → kCp (ag15 125) (a32 121) l3_32.toInt.toNat → kCp (ag15 126) (a32 122) l3_32.toInt.toNat → (((i32 7432).toInt - l3_32.toInt)).toNat < nz → ko 55 (mi_h159, mi_c159) P (99, [(3, .int l3_32), (2, .int 1), (1, .int l1_7), (0, .ref 116)], [], (0, 0), ks i32 a32 q32 r32) := by
                  intro nz
                  induction nz with
                  | zero =>
                    intro _ _ _ _ _ _ _ _ _ _ hm
                    exact absurd hm (Nat.not_lt_zero _)
                  | succ nz ih32 =>
                    intro i32 a32 q32 r32 l3_32 hL32 p32_0 O32_0 O32_1 O32_2 hm32
                    have fi32_7432 : ((0 : Int) ≤ (i32 7432).toInt) ∧ ((i32 7432).toInt ≤ 60) := hL32.I.1 7432
                    have efi32_7432 : (i32 7432).toInt = (ig15 7440).toInt := hL32.ti 7432 rfl
                    refine ft_go mi_k159 3 104 [(3, .int l3_32), (2, .int 1), (1, .int l1_7), (0, .ref 116)] [.int (i32 7432), .int l3_32] i32 a32 q32 r32 (by rfl) ?_
                    refine ft_if mi_k159 (decide ((i32 7432) ≤ l3_32)) 149 107 [(3, .int l3_32), (2, .int 1), (1, .int l1_7), (0, .ref 116)] [] (by rfl) (fun c => ?_) (fun c => ?_)
                    ·
                      have c33 : (i32 7432).toInt ≤ l3_32.toInt := kd_le c; clear c
                      have hG34 := kG_call hJ30 hL32 (by decide +kernel)
                      refine ft_go mi_k159 2 151 [(3, .int 0), (2, .int 1), (1, .int l1_7), (0, .ref 116)] [] i32 a32 q32 r32 (by rfl) ?_
                      have lp35 : ∀ (nz : Nat) (i35 : Nat → Int32) (a35 : Nat → List Int32) (q35 : Nat → List Int64) (r35 : Nat → Nat) (l3_35 : Int32), kG yw159_116_L151 i32 a32 q32 r32 i35 a35 q35 r35 → ((0 : Int) ≤ l3_35.toInt) ∧ (l3_35.toInt ≤ (i35 7439).toInt) → kCp (ag15 127) (a35 123) l3_35.toInt.toNat → (((i35 7439).toInt - l3_35.toInt)).toNat < nz → ko 55 (mi_h159, mi_c159) P (151, [(3, .int l3_35), (2, .int 1), (1, .int l1_7), (0, .ref 116)], [], (0, 0), ks i35 a35 q35 r35) := by
                        intro nz
                        induction nz with
                        | zero =>
                          intro _ _ _ _ _ _ _ _ hm
                          exact absurd hm (Nat.not_lt_zero _)
                        | succ nz ih35 =>
                          intro i35 a35 q35 r35 l3_35 hL35 p35_0 O35_0 hm35
                          have fi35_7439 : ((0 : Int) ≤ (i35 7439).toInt) ∧ ((i35 7439).toInt ≤ 200) := hL35.I.1 7439
                          have fi32_7439 : ((0 : Int) ≤ (i32 7439).toInt) ∧ ((i32 7439).toInt ≤ 200) := hG34.I.1 7439
                          have efi32_7439 : (i32 7439).toInt = (ig15 7439).toInt := hL32.ti 7439 rfl
                          have efi35_7439 : (i35 7439).toInt = (i32 7439).toInt := hL35.ti 7439 rfl
                          refine ft_go mi_k159 3 156 [(3, .int l3_35), (2, .int 1), (1, .int l1_7), (0, .ref 116)] [.int (i35 7439), .int l3_35] i35 a35 q35 r35 (by rfl) ?_
                          refine ft_if mi_k159 (decide ((i35 7439) ≤ l3_35)) 177 159 [(3, .int l3_35), (2, .int 1), (1, .int l1_7), (0, .ref 116)] [] (by rfl) (fun c => ?_) (fun c => ?_)
                          ·
                            have c36 : (i35 7439).toInt ≤ l3_35.toInt := kd_le c; clear c
                            have hG37 := kG_call hG34 hL35 (by decide +kernel)
                            refine ft_go mi_k159 1 178 [(3, .int l3_35), (2, .int 1), (1, .int l1_7), (0, .ref 116)] [.int 1] i35 a35 q35 r35 (by rfl) ?_
                            have fi35_7429 : ((0 : Int) ≤ (i35 7429).toInt) ∧ ((i35 7429).toInt ≤ 120) := hG37.I.1 7429
                            have fi32_7429 : ((0 : Int) ≤ (i32 7429).toInt) ∧ ((i32 7429).toInt ≤ 120) := hG34.I.1 7429
                            have efi32_7429 : (i32 7429).toInt = (0 : Int32).toInt := hL32.ti 7429 rfl
                            have efi35_7429 : (i35 7429).toInt = (i32 7429).toInt := hL35.ti 7429 rfl
                            have fi35_7432 : ((0 : Int) ≤ (i35 7432).toInt) ∧ ((i35 7432).toInt ≤ 60) := hG37.I.1 7432
                            have efi35_7432 : (i35 7432).toInt = (i32 7432).toInt := hL35.ti 7432 rfl
                            exact ft_ret mi_k159 (by rfl) (hP 1 _ _ _ _ hG37 ⟨(oe57 efi32_7429 efi35_7429 fi35_7429.1 koe0), (kCode_made hN31 (kCp_le O32_0 (hL35.fa 120 rfl) (kj_nle (oe58 c33 efi32_7432))) (kCp_le O32_1 (hL35.fa 121 rfl) (kj_nle (oe58 c33 efi32_7432))) (kCp_le O32_2 (hL35.fa 122 rfl) (kj_nle (oe58 c33 efi32_7432))) (kCp_le O35_0 rfl (kj_nle (oe59 c36 efi32_7439 efi35_7439))) (kj_ile (oe35 efi32_7432 efi35_7432) (oe20 fig15_7440.1)))⟩)
                          ·
                            have c38 : l3_35.toInt < (i35 7439).toInt := kd_leF c; clear c
                            refine ft_go mi_k159 6 169 [(3, .int l3_35), (2, .int 1), (1, .int l1_7), (0, .ref 116)] [.int l3_35, .ref 127, .int l3_35, .ref 123] i35 a35 q35 r35 (by rfl) ?_
                            refine ko_iald3 mi_k159.1 (n := 200) (c := 200) (ax := (0, 0, 0, 0, 0)) (mi_k159.2 _ _ (by rfl)) (by rfl) (ksG127 _ _ _ _) (hL35.I.2.1 127) rfl (oe20 p35_0.1) (oe60 c38 fi35_7439.2) ?_
                            refine ko_iast3 mi_k159.1 (n := 200) (c := 200) (ax := (0, 0, 0, 0, 0)) (mi_k159.2 _ _ (by rfl)) (by rfl) (ksG123 _ _ _ _) (ksA123 _ _ _ _) (hL35.I.2.1 123) rfl (oe20 p35_0.1) (oe60 c38 fi35_7439.2) ?_
                            intro a39 ea39 fa39
                            have hJ39 := kG_a3 hL35 123 rfl ea39 fa39 (kd_bd _)
                            have s40 : (l3_35 + 1).toInt = l3_35.toInt + (1 : Int32).toInt := kd_add (oe12 p35_0.1 koe1) (oe61 c38 fi35_7439.2 koe1)
                            refine ft_go mi_k159 2 151 [(3, .int (l3_35 + 1)), (2, .int 1), (1, .int l1_7), (0, .ref 116)] [] i35 a39 q35 r35 (by rfl) ?_
                            exact ih35 _ _ _ _ _ hJ39 (oe62 c38 p35_0.1 s40 koe1) (kCp_le (kCp_step (kCp_le O35_0 rfl (Nat.le_refl _)) (hL35.I.2.1 123) (oe20 p35_0.1) (oe60 c38 fi35_7439.2) (oe63 s40 koe1) ea39 (congrArg (fun z : List Int32 => z.getD l3_35.toNatClampNeg 0) ((hL35.fa 127 rfl).trans (hL32.fa 127 rfl)))) rfl (Nat.le_refl _)) (kj_meas (oe64 s40 koe1) (oe16 c38) hm35)
                      have fi32_7439 : ((0 : Int) ≤ (i32 7439).toInt) ∧ ((i32 7439).toInt ≤ 200) := hG34.I.1 7439
                      have efi32_7439 : (i32 7439).toInt = (ig15 7439).toInt := hL32.ti 7439 rfl
                      exact lp35 _ _ _ _ _ _ (kG_self _ hG34.I hG34.R) (oe65 fi32_7439.1 koe0) (kCp_zero kn0) (Nat.lt_succ_self _)
                    ·
                      have c41 : l3_32.toInt < (i32 7432).toInt := kd_leF c; clear c
                      refine ft_go mi_k159 6 117 [(3, .int l3_32), (2, .int 1), (1, .int l1_7), (0, .ref 116)] [.int l3_32, .ref 124, .int l3_32, .ref 120] i32 a32 q32 r32 (by rfl) ?_
                      refine ko_iald3 mi_k159.1 (n := 61) (c := 61) (ax := (0, 0, 0, 0, 0)) (mi_k159.2 _ _ (by rfl)) (by rfl) (ksG124 _ _ _ _) (hL32.I.2.1 124) rfl (oe20 p32_0.1) (oe66 c41 fi32_7432.2) ?_
                      refine ko_iast3 mi_k159.1 (n := 60) (c := 60) (ax := (0, 0, 0, 0, 0)) (mi_k159.2 _ _ (by rfl)) (by rfl) (ksG120 _ _ _ _) (ksA120 _ _ _ _) (hL32.I.2.1 120) rfl (oe20 p32_0.1) (oe67 c41 fi32_7432.2) ?_
                      intro a42 ea42 fa42
                      have hJ42 := kG_a3 hL32 120 rfl ea42 fa42 (kd_bd _)
                      refine ft_go mi_k159 6 129 [(3, .int l3_32), (2, .int 1), (1, .int l1_7), (0, .ref 116)] [.int l3_32, .ref 125, .int l3_32, .ref 121] i32 a42 q32 r32 (by rfl) ?_
                      refine ko_iald3 mi_k159.1 (n := 61) (c := 61) (ax := (0, 0, 0, 0, 0)) (mi_k159.2 _ _ (by rfl)) (by rfl) (ksG125 _ _ _ _) (hJ42.I.2.1 125) rfl (oe20 p32_0.1) (oe66 c41 fi32_7432.2) ?_
                      refine ko_iast3 mi_k159.1 (n := 60) (c := 60) (ax := (0, 0, 0, 0, 0)) (mi_k159.2 _ _ (by rfl)) (by rfl) (ksG121 _ _ _ _) (ksA121 _ _ _ _) (hJ42.I.2.1 121) rfl (oe20 p32_0.1) (oe67 c41 fi32_7432.2) ?_
                      intro a43 ea43 fa43
                      have hJ43 := kG_a3 hJ42 121 rfl ea43 fa43 (kd_bd _)
                      refine ft_go mi_k159 6 141 [(3, .int l3_32), (2, .int 1), (1, .int l1_7), (0, .ref 116)] [.int l3_32, .ref 126, .int l3_32, .ref 122] i32 a43 q32 r32 (by rfl) ?_
                      refine ko_iald3 mi_k159.1 (n := 61) (c := 61) (ax := (0, 0, 0, 0, 0)) (mi_k159.2 _ _ (by rfl)) (by rfl) (ksG126 _ _ _ _) (hJ43.I.2.1 126) rfl (oe20 p32_0.1) (oe66 c41 fi32_7432.2) ?_
                      refine ko_iast3 mi_k159.1 (n := 60) (c := 60) (ax := (0, 0, 0, 0, 0)) (mi_k159.2 _ _ (by rfl)) (by rfl) (ksG122 _ _ _ _) (ksA122 _ _ _ _) (hJ43.I.2.1 122) rfl (oe20 p32_0.1) (oe67 c41 fi32_7432.2) ?_
                      intro a44 ea44 fa44
                      have hJ44 := kG_a3 hJ43 122 rfl ea44 fa44 (kd_bd _)
                      have s45 : (l3_32 + 1).toInt = l3_32.toInt + (1 : Int32).toInt := kd_add (oe12 p32_0.1 koe1) (oe68 c41 fi32_7432.2 koe1)
                      refine ft_go mi_k159 2 99 [(3, .int (l3_32 + 1)), (2, .int 1), (1, .int l1_7), (0, .ref 116)] [] i32 a44 q32 r32 (by rfl) ?_
                      exact ih32 _ _ _ _ _ hJ44 (oe62 c41 p32_0.1 s45 koe1) (kCp_le (kCp_step (kCp_le O32_0 rfl (Nat.le_refl _)) (hL32.I.2.1 120) (oe20 p32_0.1) (oe67 c41 fi32_7432.2) (oe63 s45 koe1) ea42 (congrArg (fun z : List Int32 => z.getD l3_32.toNatClampNeg 0) (hL32.fa 124 rfl))) ((fa44 120 (by decide)).trans (fa43 120 (by decide))) (Nat.le_refl _)) (kCp_le (kCp_step (kCp_le O32_1 (fa42 121 (by decide)) (Nat.le_refl _)) (hJ42.I.2.1 121) (oe20 p32_0.1) (oe67 c41 fi32_7432.2) (oe63 s45 koe1) ea43 (congrArg (fun z : List Int32 => z.getD l3_32.toNatClampNeg 0) ((fa42 125 (by decide)).trans (hL32.fa 125 rfl)))) (fa44 121 (by decide)) (Nat.le_refl _)) (kCp_le (kCp_step (kCp_le O32_2 ((fa43 122 (by decide)).trans (fa42 122 (by decide))) (Nat.le_refl _)) (hJ43.I.2.1 122) (oe20 p32_0.1) (oe67 c41 fi32_7432.2) (oe63 s45 koe1) ea44 (congrArg (fun z : List Int32 => z.getD l3_32.toNatClampNeg 0) (((fa43 126 (by decide)).trans (fa42 126 (by decide))).trans (hL32.fa 126 rfl)))) rfl (Nat.le_refl _)) (kj_meas (oe64 s45 koe1) (oe16 c41) hm32)
                exact lp32 _ _ _ _ _ _ (kG_self _ hJ30.I hJ30.R) (oe65 fig15_7440.1 koe0) (kCp_zero kn0) (kCp_zero kn0) (kCp_zero kn0) (Nat.lt_succ_self _)
    exact lp7 _ _ _ _ _ _ (kG_self _ hGg5.I hGg5.R) (oe47 koe1) (oe48 z6.1 z6.2.1 z6.2.2.1 z6.2.2.2.1 koe1) (oe22 z6.2.2.1) (fun _ => (kNw_cast og5 (congrArg Int.toNat oe30) (congrArg Int.toNat oe30) rfl rfl rfl rfl)) (Nat.lt_succ_self _)
  ·
    subst eg5
    have fig5_7437 : ((0 : Int) ≤ (ig5 7437).toInt) ∧ ((ig5 7437).toInt ≤ 120) := hGg5.I.1 7437
    have fig5_7429 : ((0 : Int) ≤ (ig5 7429).toInt) ∧ ((ig5 7429).toInt ≤ 120) := hGg5.I.1 7429
    have efig5_7429 : (ig5 7429).toInt = (i 7429).toInt := kg5.ti 7429 rfl
    have z46 : (ig5 7437).toInt ≤ (ig5 7429).toInt := hg5
    refine ft_go mi_k159 1 25 [(1, .int 0), (0, .ref 116)] [] ig5 ag5 qg5 rg5 (by rfl) ?_
    have lp47 : ∀ (nz : Nat) (i47 : Nat → Int32) (a47 : Nat → List Int32) (q47 : Nat → List Int64) (r47 : Nat → Nat) (l1_47 : Int32), kG yw159_116_L25 ig5 ag5 qg5 rg5 i47 a47 q47 r47 → ((0 : Int) ≤ l1_47.toInt) ∧ (l1_47.toInt ≤ 1) → ((l1_47.toInt = 1) → (((i47 7438).toInt = 0) ∧ ((i47 7439).toInt ≤ (i47 7437).toInt) ∧ ((i47 7437).toInt ≤ (i47 7429).toInt) ∧ ((2 * (i47 7440).toInt) ≤ ((i47 7437).toInt + 1)))) → (i47 7437).toInt ≤ (i47 7429).toInt → (l1_47.toInt = 1 → kNw (i47 7440).toInt.toNat (i47 7439).toInt.toNat (a47 124) (a47 125) (a47 126) (a47 127)) → ((((200 * l1_47.toInt) + (i47 7429).toInt) - (i47 7437).toInt)).toNat < nz → ko 55 (mi_h159, mi_c159) P (25, [(1, .int l1_47), (0, .ref 116)], [], (0, 0), ks i47 a47 q47 r47) := by
      intro nz
      induction nz with
      | zero =>
        intro _ _ _ _ _ _ _ _ _ _ hm
        exact absurd hm (Nat.not_lt_zero _)
      | succ nz ih47 =>
        intro i47 a47 q47 r47 l1_47 hL47 p47_0 p47_1 p47_2 O47_0 hm47
        have fi47_7439 : ((0 : Int) ≤ (i47 7439).toInt) ∧ ((i47 7439).toInt ≤ 200) := hL47.I.1 7439
        have fi47_7437 : ((0 : Int) ≤ (i47 7437).toInt) ∧ ((i47 7437).toInt ≤ 120) := hL47.I.1 7437
        have fi47_7429 : ((0 : Int) ≤ (i47 7429).toInt) ∧ ((i47 7429).toInt ≤ 120) := hL47.I.1 7429
        have efi47_7429 : (i47 7429).toInt = (ig5 7429).toInt := hL47.ti 7429 rfl
        have fi47_7440 : ((0 : Int) ≤ (i47 7440).toInt) ∧ ((i47 7440).toInt ≤ 61) := hL47.I.1 7440
        refine ft_go mi_k159 1 26 [(1, .int l1_47), (0, .ref 116)] [.int l1_47] i47 a47 q47 r47 (by rfl) ?_
        refine ft_if mi_k159 (l1_47 == 0) 46 29 [(1, .int l1_47), (0, .ref 116)] [] (by rfl) (fun c => ?_) (fun c => ?_)
        ·
          have c48 : l1_47.toInt = (0 : Int32).toInt := kd_eq c; clear c
          have hG49 := kG_call hGg5 hL47 (by decide +kernel)
          refine ft_go mi_k159 1 47 [(1, .int l1_47), (0, .ref 116)] [.int l1_47] i47 a47 q47 r47 (by rfl) ?_
          refine ft_if mi_k159 (l1_47 == 0) 65 50 [(1, .int l1_47), (0, .ref 116)] [] (by rfl) (fun c => ?_) (fun c => ?_)
          ·
            have c50 : l1_47.toInt = (0 : Int32).toInt := kd_eq c; clear c
            have hJ51 := kG_i hG49 7429 rfl (v := 0) ⟨(oe0 koe0), (oe1 koe0)⟩
            have s52 : ((-100) - (i47 7437)).toInt = ((-100) : Int32).toInt - (i47 7437).toInt := kd_sub (oe41 fi47_7437.2 koem100) (oe70 fi47_7437.1 koem100)
            refine ft_go mi_k159 11 83 [(2, .int 0), (1, .int l1_47), (0, .ref 116)] [.int ((-100) - (i47 7437))] (ku i47 7429 0) a47 q47 r47 (by rfl) ?_
            exact ft_ret mi_k159 (by rfl) (hP ((-100) - (i47 7437)) _ _ _ _ hJ51 ⟨(oe17 koe0), (kCode_of (i1 := ku i47 7429 0) hE_code ((hL47.fi 7432 rfl).trans (kg5.fi 7432 rfl)) ((hL47.fa 120 rfl).trans (kg5.fa 120 rfl)) ((hL47.fa 121 rfl).trans (kg5.fa 121 rfl)) ((hL47.fa 122 rfl).trans (kg5.fa 122 rfl)) ((hL47.fa 123 rfl).trans (kg5.fa 123 rfl)))⟩)
          ·
            have c53 : l1_47.toInt ≠ (0 : Int32).toInt := kd_eqF c; clear c
            exact (oe71 c48 c53 p47_0.1 koe0).elim
        ·
          have c54 : l1_47.toInt ≠ (0 : Int32).toInt := kd_eqF c; clear c
          refine ft_go mi_k159 2 32 [(1, .int l1_47), (0, .ref 116)] [.int 59, .ref 116] i47 a47 q47 r47 (by rfl) ?_
          refine ko_callI mi_k159.1 (pc := 32) (ls := [(1, .int l1_47), (0, .ref 116)]) (st := [.int 59, .ref 116]) (h := ks i47 a47 q47 r47) (i := (.invokevirtual 187, 3, 148, 0, 9, 0, 407)) (mi_k159.2 _ _ (by rfl)) (ft_invS mi_pq148 (by rfl)) (cy := mi_c148) mi_pq148 rfl (kc148_116 hL47.I hL47.R 59 (oe11 koe59)) (by decide) ?_
          intro vg55 ig55 ag55 qg55 rg55 kg55 hg55
          have hGg55 := kG_call hL47 kg55 (by decide +kernel)
          rcases hg55 with ⟨eg55, hg55⟩ | ⟨eg55, hg55⟩
          ·
            subst eg55
            have fig55_7437 : ((0 : Int) ≤ (ig55 7437).toInt) ∧ ((ig55 7437).toInt ≤ 120) := hGg55.I.1 7437
            have fig55_7429 : ((0 : Int) ≤ (ig55 7429).toInt) ∧ ((ig55 7429).toInt ≤ 120) := hGg55.I.1 7429
            have efig55_7429 : (ig55 7429).toInt = (i47 7429).toInt := kg55.ti 7429 rfl
            have z56 : ((ig55 7437).toInt = ((i47 7437).toInt + 1)) ∧ ((ig55 7437).toInt ≤ (ig55 7429).toInt) := hg55
            refine ft_go mi_k159 2 39 [(1, .int l1_47), (0, .ref 116)] [.ref 116] ig55 ag55 qg55 rg55 (by rfl) ?_
            have efig55_7438 : (ig55 7438).toInt = (i47 7438).toInt := kg55.ti 7438 rfl
            have fig55_7439 : ((0 : Int) ≤ (ig55 7439).toInt) ∧ ((ig55 7439).toInt ≤ 200) := hGg55.I.1 7439
            have efig55_7439 : (ig55 7439).toInt = (i47 7439).toInt := kg55.ti 7439 rfl
            have fig55_7440 : ((0 : Int) ≤ (ig55 7440).toInt) ∧ ((ig55 7440).toInt ≤ 61) := hGg55.I.1 7440
            have efig55_7440 : (ig55 7440).toInt = (i47 7440).toInt := kg55.ti 7440 rfl
            refine ko_callI mi_k159.1 (pc := 39) (ls := [(1, .int l1_47), (0, .ref 116)]) (st := [.ref 116]) (h := ks ig55 ag55 qg55 rg55) (i := (.invokevirtual 211, 3, 158, 0, 9, 0, 396)) (mi_k159.2 _ _ (by rfl)) (ft_invS mi_pq158 (by rfl)) (cy := mi_c158) mi_pq158 rfl (kc158_116 hGg55.I hGg55.R (oe72 c54 efig55_7438 efig55_7439 p47_0.1 p47_0.2 p47_1 z56.1 z56.2 koe0) (oe73 c54 efig55_7440 p47_0.1 p47_0.2 p47_1 z56.1 koe0) (kNw_cast (O47_0 (oe46 c54 p47_0.1 p47_0.2 koe0)) (congrArg Int.toNat (oe32 efig55_7440)) (congrArg Int.toNat (oe32 efig55_7439)) (kg55.fa 124 rfl) (kg55.fa 125 rfl) (kg55.fa 126 rfl) (kg55.fa 127 rfl))) (by decide) ?_
            intro vg57 ig57 ag57 qg57 rg57 kg57 hg57
            have hGg57 := kG_call hGg55 kg57 (by decide +kernel)
            rcases hg57 with ⟨eg57, hg57⟩ | ⟨eg57, hg57⟩
            ·
              subst eg57
              obtain ⟨hg57, og57⟩ := hg57
              have fig57_7439 : ((0 : Int) ≤ (ig57 7439).toInt) ∧ ((ig57 7439).toInt ≤ 200) := hGg57.I.1 7439
              have fig57_7437 : ((0 : Int) ≤ (ig57 7437).toInt) ∧ ((ig57 7437).toInt ≤ 120) := hGg57.I.1 7437
              have fig57_7429 : ((0 : Int) ≤ (ig57 7429).toInt) ∧ ((ig57 7429).toInt ≤ 120) := hGg57.I.1 7429
              have efig57_7429 : (ig57 7429).toInt = (ig55 7429).toInt := kg57.ti 7429 rfl
              have fig57_7440 : ((0 : Int) ≤ (ig57 7440).toInt) ∧ ((ig57 7440).toInt ≤ 61) := hGg57.I.1 7440
              have z58 : ((ig57 7438).toInt = 0) ∧ ((ig57 7439).toInt ≤ (ig57 7437).toInt) ∧ ((ig57 7437).toInt ≤ (ig57 7429).toInt) ∧ ((2 * (ig57 7440).toInt) ≤ ((ig57 7437).toInt + 1)) ∧ ((ig57 7440).toInt = ((ig55 7440).toInt + 1)) ∧ ((ig55 7437).toInt ≤ (ig57 7437).toInt) := hg57
              refine ft_go mi_k159 2 25 [(1, .int 1), (0, .ref 116)] [] ig57 ag57 qg57 rg57 (by rfl) ?_
              exact ih47 _ _ _ _ _ hGg57 (oe47 koe1) (oe48 z58.1 z58.2.1 z58.2.2.1 z58.2.2.2.1 koe1) (oe22 z58.2.2.1) (fun _ => (kNw_cast og57 (congrArg Int.toNat oe30) (congrArg Int.toNat oe30) rfl rfl rfl rfl)) (kj_meas (oe49 c54 efig55_7429 efig57_7429 p47_0.1 z56.1 z58.2.2.2.2.2 koe0 koe1) (oe50 efig55_7429 p47_0.1 z56.1 z56.2) hm47)
            ·
              subst eg57
              have fig57_7437 : ((0 : Int) ≤ (ig57 7437).toInt) ∧ ((ig57 7437).toInt ≤ 120) := hGg57.I.1 7437
              have fig57_7429 : ((0 : Int) ≤ (ig57 7429).toInt) ∧ ((ig57 7429).toInt ≤ 120) := hGg57.I.1 7429
              have efig57_7429 : (ig57 7429).toInt = (ig55 7429).toInt := kg57.ti 7429 rfl
              have z59 : (ig57 7437).toInt ≤ (ig57 7429).toInt := hg57
              refine ft_go mi_k159 2 25 [(1, .int 0), (0, .ref 116)] [] ig57 ag57 qg57 rg57 (by rfl) ?_
              have fig57_7439 : ((0 : Int) ≤ (ig57 7439).toInt) ∧ ((ig57 7439).toInt ≤ 200) := hGg57.I.1 7439
              have fig57_7440 : ((0 : Int) ≤ (ig57 7440).toInt) ∧ ((ig57 7440).toInt ≤ 61) := hGg57.I.1 7440
              exact ih47 _ _ _ _ _ hGg57 (oe51 koe0) (oe52 koe0) (oe22 z59) (fun h => absurd (kn0.symm.trans h) (by decide)) (kj_meas (oe53 c54 efig55_7429 fig57_7429.2 fig57_7437.1 p47_0.1 z56.1 z56.2 koe0) (oe50 efig55_7429 p47_0.1 z56.1 z56.2) hm47)
          ·
            subst eg55
            have fig55_7437 : ((0 : Int) ≤ (ig55 7437).toInt) ∧ ((ig55 7437).toInt ≤ 120) := hGg55.I.1 7437
            have z60 : (ig55 7437).toInt = (i47 7437).toInt := hg55
            refine ft_go mi_k159 1 46 [(1, .int l1_47), (0, .ref 116)] [] ig55 ag55 qg55 rg55 (by rfl) ?_
            have hG61 := kG_call hGg5 hGg55 (by decide +kernel)
            refine ft_go mi_k159 1 47 [(1, .int l1_47), (0, .ref 116)] [.int l1_47] ig55 ag55 qg55 rg55 (by rfl) ?_
            refine ft_if mi_k159 (l1_47 == 0) 65 50 [(1, .int l1_47), (0, .ref 116)] [] (by rfl) (fun c => ?_) (fun c => ?_)
            ·
              have c62 : l1_47.toInt = (0 : Int32).toInt := kd_eq c; clear c
              exact (oe43 c54 c62 p47_0.1 koe0).elim
            ·
              have c63 : l1_47.toInt ≠ (0 : Int32).toInt := kd_eqF c; clear c
              have fig55_7429 : ((0 : Int) ≤ (ig55 7429).toInt) ∧ ((ig55 7429).toInt ≤ 120) := hG61.I.1 7429
              have efig55_7429 : (ig55 7429).toInt = (i47 7429).toInt := kg55.ti 7429 rfl
              refine ft_go mi_k159 4 58 [(1, .int l1_47), (0, .ref 116)] [.int (ig55 7429), .int (ig55 7437)] ig55 ag55 qg55 rg55 (by rfl) ?_
              refine ft_if mi_k159 ((ig55 7437) != (ig55 7429)) 65 61 [(1, .int l1_47), (0, .ref 116)] [] (by rfl) (fun c => ?_) (fun c => ?_)
              ·
                have c64 : (ig55 7437).toInt ≠ (ig55 7429).toInt := kd_ne c; clear c
                have hJ65 := kG_i hG61 7429 rfl (v := 0) ⟨(oe0 koe0), (oe1 koe0)⟩
                have s66 : ((-100) - (ig55 7437)).toInt = ((-100) : Int32).toInt - (ig55 7437).toInt := kd_sub (oe41 fig55_7437.2 koem100) (oe70 fig55_7437.1 koem100)
                refine ft_go mi_k159 11 83 [(2, .int 0), (1, .int l1_47), (0, .ref 116)] [.int ((-100) - (ig55 7437))] (ku ig55 7429 0) ag55 qg55 rg55 (by rfl) ?_
                exact ft_ret mi_k159 (by rfl) (hP ((-100) - (ig55 7437)) _ _ _ _ hJ65 ⟨(oe17 koe0), (kCode_of (i1 := ku ig55 7429 0) hE_code ((kg55.fi 7432 rfl).trans ((hL47.fi 7432 rfl).trans (kg5.fi 7432 rfl))) (((kg55.fa 120 rfl).trans (hL47.fa 120 rfl)).trans (kg5.fa 120 rfl)) (((kg55.fa 121 rfl).trans (hL47.fa 121 rfl)).trans (kg5.fa 121 rfl)) (((kg55.fa 122 rfl).trans (hL47.fa 122 rfl)).trans (kg5.fa 122 rfl)) (((kg55.fa 123 rfl).trans (hL47.fa 123 rfl)).trans (kg5.fa 123 rfl)))⟩)
              ·
                have c67 : (ig55 7437).toInt = (ig55 7429).toInt := kd_neF c; clear c
                have hJ68 := kG_i hG61 7429 rfl (v := 0) ⟨(oe0 koe0), (oe1 koe0)⟩
                have hJ69 := kG_i hJ68 7431 rfl (v := 1) ⟨(oe8 koe1), (oe9 koe1)⟩
                have fig55_7440 : ((0 : Int) ≤ (ig55 7440).toInt) ∧ ((ig55 7440).toInt ≤ 61) := hJ69.I.1 7440
                have efig55_7440 : (ig55 7440).toInt = (i47 7440).toInt := kg55.ti 7440 rfl
                have hJ70 := kG_i hJ69 7432 rfl (v := (ig55 7440)) ⟨(oe20 fig55_7440.1), (oe74 c54 efig55_7440 fi47_7437.2 p47_0.1 p47_0.2 p47_1 koe0)⟩
                have fig55_7439 : ((0 : Int) ≤ (ig55 7439).toInt) ∧ ((ig55 7439).toInt ≤ 200) := hJ70.I.1 7439
                have efig55_7439 : (ig55 7439).toInt = (i47 7439).toInt := kg55.ti 7439 rfl
                have hN71 := (kNw_cast (O47_0 (oe46 c54 p47_0.1 p47_0.2 koe0)) (congrArg Int.toNat (oe32 efig55_7440)) (congrArg Int.toNat (oe32 efig55_7439)) (kg55.fa 124 rfl) (kg55.fa 125 rfl) (kg55.fa 126 rfl) (kg55.fa 127 rfl))
                refine ft_go mi_k159 17 99 [(3, .int 0), (2, .int 1), (1, .int l1_47), (0, .ref 116)] [] (ku (ku (ku ig55 7429 0) 7431 1) 7432 (ig55 7440)) ag55 qg55 rg55 (by rfl) ?_
                have lp72 : ∀ (nz : Nat) (i72 : Nat → Int32) (a72 : Nat → List Int32) (q72 : Nat → List Int64) (r72 : Nat → Nat) (l3_72 : Int32), kG yw159_116_L99 (ku (ku (ku ig55 7429 0) 7431 1) 7432 (ig55 7440)) ag55 qg55 rg55 i72 a72 q72 r72 → ((0 : Int) ≤ l3_72.toInt) ∧ (l3_72.toInt ≤ (i72 7432).toInt) → kCp (ag55 124) (a72 120) l3_72.toInt.toNat → kCp (ag55 125) (a72 121) l3_72.toInt.toNat → kCp (ag55 126) (a72 122) l3_72.toInt.toNat → (((i72 7432).toInt - l3_72.toInt)).toNat < nz → ko 55 (mi_h159, mi_c159) P (99, [(3, .int l3_72), (2, .int 1), (1, .int l1_47), (0, .ref 116)], [], (0, 0), ks i72 a72 q72 r72) := by
                  intro nz
                  induction nz with
                  | zero =>
                    intro _ _ _ _ _ _ _ _ _ _ hm
                    exact absurd hm (Nat.not_lt_zero _)
                  | succ nz ih72 =>
                    intro i72 a72 q72 r72 l3_72 hL72 p72_0 O72_0 O72_1 O72_2 hm72
                    have fi72_7432 : ((0 : Int) ≤ (i72 7432).toInt) ∧ ((i72 7432).toInt ≤ 60) := hL72.I.1 7432
                    have efi72_7432 : (i72 7432).toInt = (ig55 7440).toInt := hL72.ti 7432 rfl
                    refine ft_go mi_k159 3 104 [(3, .int l3_72), (2, .int 1), (1, .int l1_47), (0, .ref 116)] [.int (i72 7432), .int l3_72] i72 a72 q72 r72 (by rfl) ?_
                    refine ft_if mi_k159 (decide ((i72 7432) ≤ l3_72)) 149 107 [(3, .int l3_72), (2, .int 1), (1, .int l1_47), (0, .ref 116)] [] (by rfl) (fun c => ?_) (fun c => ?_)
                    ·
                      have c73 : (i72 7432).toInt ≤ l3_72.toInt := kd_le c; clear c
                      have hG74 := kG_call hJ70 hL72 (by decide +kernel)
                      refine ft_go mi_k159 2 151 [(3, .int 0), (2, .int 1), (1, .int l1_47), (0, .ref 116)] [] i72 a72 q72 r72 (by rfl) ?_
                      have lp75 : ∀ (nz : Nat) (i75 : Nat → Int32) (a75 : Nat → List Int32) (q75 : Nat → List Int64) (r75 : Nat → Nat) (l3_75 : Int32), kG yw159_116_L151 i72 a72 q72 r72 i75 a75 q75 r75 → ((0 : Int) ≤ l3_75.toInt) ∧ (l3_75.toInt ≤ (i75 7439).toInt) → kCp (ag55 127) (a75 123) l3_75.toInt.toNat → (((i75 7439).toInt - l3_75.toInt)).toNat < nz → ko 55 (mi_h159, mi_c159) P (151, [(3, .int l3_75), (2, .int 1), (1, .int l1_47), (0, .ref 116)], [], (0, 0), ks i75 a75 q75 r75) := by
                        intro nz
                        induction nz with
                        | zero =>
                          intro _ _ _ _ _ _ _ _ hm
                          exact absurd hm (Nat.not_lt_zero _)
                        | succ nz ih75 =>
                          intro i75 a75 q75 r75 l3_75 hL75 p75_0 O75_0 hm75
                          have fi75_7439 : ((0 : Int) ≤ (i75 7439).toInt) ∧ ((i75 7439).toInt ≤ 200) := hL75.I.1 7439
                          have fi72_7439 : ((0 : Int) ≤ (i72 7439).toInt) ∧ ((i72 7439).toInt ≤ 200) := hG74.I.1 7439
                          have efi72_7439 : (i72 7439).toInt = (ig55 7439).toInt := hL72.ti 7439 rfl
                          have efi75_7439 : (i75 7439).toInt = (i72 7439).toInt := hL75.ti 7439 rfl
                          refine ft_go mi_k159 3 156 [(3, .int l3_75), (2, .int 1), (1, .int l1_47), (0, .ref 116)] [.int (i75 7439), .int l3_75] i75 a75 q75 r75 (by rfl) ?_
                          refine ft_if mi_k159 (decide ((i75 7439) ≤ l3_75)) 177 159 [(3, .int l3_75), (2, .int 1), (1, .int l1_47), (0, .ref 116)] [] (by rfl) (fun c => ?_) (fun c => ?_)
                          ·
                            have c76 : (i75 7439).toInt ≤ l3_75.toInt := kd_le c; clear c
                            have hG77 := kG_call hG74 hL75 (by decide +kernel)
                            refine ft_go mi_k159 1 178 [(3, .int l3_75), (2, .int 1), (1, .int l1_47), (0, .ref 116)] [.int 1] i75 a75 q75 r75 (by rfl) ?_
                            have fi75_7429 : ((0 : Int) ≤ (i75 7429).toInt) ∧ ((i75 7429).toInt ≤ 120) := hG77.I.1 7429
                            have fi72_7429 : ((0 : Int) ≤ (i72 7429).toInt) ∧ ((i72 7429).toInt ≤ 120) := hG74.I.1 7429
                            have efi72_7429 : (i72 7429).toInt = (0 : Int32).toInt := hL72.ti 7429 rfl
                            have efi75_7429 : (i75 7429).toInt = (i72 7429).toInt := hL75.ti 7429 rfl
                            have fi75_7432 : ((0 : Int) ≤ (i75 7432).toInt) ∧ ((i75 7432).toInt ≤ 60) := hG77.I.1 7432
                            have efi75_7432 : (i75 7432).toInt = (i72 7432).toInt := hL75.ti 7432 rfl
                            exact ft_ret mi_k159 (by rfl) (hP 1 _ _ _ _ hG77 ⟨(oe57 efi72_7429 efi75_7429 fi75_7429.1 koe0), (kCode_made hN71 (kCp_le O72_0 (hL75.fa 120 rfl) (kj_nle (oe58 c73 efi72_7432))) (kCp_le O72_1 (hL75.fa 121 rfl) (kj_nle (oe58 c73 efi72_7432))) (kCp_le O72_2 (hL75.fa 122 rfl) (kj_nle (oe58 c73 efi72_7432))) (kCp_le O75_0 rfl (kj_nle (oe59 c76 efi72_7439 efi75_7439))) (kj_ile (oe35 efi72_7432 efi75_7432) (oe20 fig55_7440.1)))⟩)
                          ·
                            have c78 : l3_75.toInt < (i75 7439).toInt := kd_leF c; clear c
                            refine ft_go mi_k159 6 169 [(3, .int l3_75), (2, .int 1), (1, .int l1_47), (0, .ref 116)] [.int l3_75, .ref 127, .int l3_75, .ref 123] i75 a75 q75 r75 (by rfl) ?_
                            refine ko_iald3 mi_k159.1 (n := 200) (c := 200) (ax := (0, 0, 0, 0, 0)) (mi_k159.2 _ _ (by rfl)) (by rfl) (ksG127 _ _ _ _) (hL75.I.2.1 127) rfl (oe20 p75_0.1) (oe60 c78 fi75_7439.2) ?_
                            refine ko_iast3 mi_k159.1 (n := 200) (c := 200) (ax := (0, 0, 0, 0, 0)) (mi_k159.2 _ _ (by rfl)) (by rfl) (ksG123 _ _ _ _) (ksA123 _ _ _ _) (hL75.I.2.1 123) rfl (oe20 p75_0.1) (oe60 c78 fi75_7439.2) ?_
                            intro a79 ea79 fa79
                            have hJ79 := kG_a3 hL75 123 rfl ea79 fa79 (kd_bd _)
                            have s80 : (l3_75 + 1).toInt = l3_75.toInt + (1 : Int32).toInt := kd_add (oe12 p75_0.1 koe1) (oe61 c78 fi75_7439.2 koe1)
                            refine ft_go mi_k159 2 151 [(3, .int (l3_75 + 1)), (2, .int 1), (1, .int l1_47), (0, .ref 116)] [] i75 a79 q75 r75 (by rfl) ?_
                            exact ih75 _ _ _ _ _ hJ79 (oe62 c78 p75_0.1 s80 koe1) (kCp_le (kCp_step (kCp_le O75_0 rfl (Nat.le_refl _)) (hL75.I.2.1 123) (oe20 p75_0.1) (oe60 c78 fi75_7439.2) (oe63 s80 koe1) ea79 (congrArg (fun z : List Int32 => z.getD l3_75.toNatClampNeg 0) ((hL75.fa 127 rfl).trans (hL72.fa 127 rfl)))) rfl (Nat.le_refl _)) (kj_meas (oe64 s80 koe1) (oe16 c78) hm75)
                      have fi72_7439 : ((0 : Int) ≤ (i72 7439).toInt) ∧ ((i72 7439).toInt ≤ 200) := hG74.I.1 7439
                      have efi72_7439 : (i72 7439).toInt = (ig55 7439).toInt := hL72.ti 7439 rfl
                      exact lp75 _ _ _ _ _ _ (kG_self _ hG74.I hG74.R) (oe65 fi72_7439.1 koe0) (kCp_zero kn0) (Nat.lt_succ_self _)
                    ·
                      have c81 : l3_72.toInt < (i72 7432).toInt := kd_leF c; clear c
                      refine ft_go mi_k159 6 117 [(3, .int l3_72), (2, .int 1), (1, .int l1_47), (0, .ref 116)] [.int l3_72, .ref 124, .int l3_72, .ref 120] i72 a72 q72 r72 (by rfl) ?_
                      refine ko_iald3 mi_k159.1 (n := 61) (c := 61) (ax := (0, 0, 0, 0, 0)) (mi_k159.2 _ _ (by rfl)) (by rfl) (ksG124 _ _ _ _) (hL72.I.2.1 124) rfl (oe20 p72_0.1) (oe66 c81 fi72_7432.2) ?_
                      refine ko_iast3 mi_k159.1 (n := 60) (c := 60) (ax := (0, 0, 0, 0, 0)) (mi_k159.2 _ _ (by rfl)) (by rfl) (ksG120 _ _ _ _) (ksA120 _ _ _ _) (hL72.I.2.1 120) rfl (oe20 p72_0.1) (oe67 c81 fi72_7432.2) ?_
                      intro a82 ea82 fa82
                      have hJ82 := kG_a3 hL72 120 rfl ea82 fa82 (kd_bd _)
                      refine ft_go mi_k159 6 129 [(3, .int l3_72), (2, .int 1), (1, .int l1_47), (0, .ref 116)] [.int l3_72, .ref 125, .int l3_72, .ref 121] i72 a82 q72 r72 (by rfl) ?_
                      refine ko_iald3 mi_k159.1 (n := 61) (c := 61) (ax := (0, 0, 0, 0, 0)) (mi_k159.2 _ _ (by rfl)) (by rfl) (ksG125 _ _ _ _) (hJ82.I.2.1 125) rfl (oe20 p72_0.1) (oe66 c81 fi72_7432.2) ?_
                      refine ko_iast3 mi_k159.1 (n := 60) (c := 60) (ax := (0, 0, 0, 0, 0)) (mi_k159.2 _ _ (by rfl)) (by rfl) (ksG121 _ _ _ _) (ksA121 _ _ _ _) (hJ82.I.2.1 121) rfl (oe20 p72_0.1) (oe67 c81 fi72_7432.2) ?_
                      intro a83 ea83 fa83
                      have hJ83 := kG_a3 hJ82 121 rfl ea83 fa83 (kd_bd _)
                      refine ft_go mi_k159 6 141 [(3, .int l3_72), (2, .int 1), (1, .int l1_47), (0, .ref 116)] [.int l3_72, .ref 126, .int l3_72, .ref 122] i72 a83 q72 r72 (by rfl) ?_
                      refine ko_iald3 mi_k159.1 (n := 61) (c := 61) (ax := (0, 0, 0, 0, 0)) (mi_k159.2 _ _ (by rfl)) (by rfl) (ksG126 _ _ _ _) (hJ83.I.2.1 126) rfl (oe20 p72_0.1) (oe66 c81 fi72_7432.2) ?_
                      refine ko_iast3 mi_k159.1 (n := 60) (c := 60) (ax := (0, 0, 0, 0, 0)) (mi_k159.2 _ _ (by rfl)) (by rfl) (ksG122 _ _ _ _) (ksA122 _ _ _ _) (hJ83.I.2.1 122) rfl (oe20 p72_0.1) (oe67 c81 fi72_7432.2) ?_
                      intro a84 ea84 fa84
                      have hJ84 := kG_a3 hJ83 122 rfl ea84 fa84 (kd_bd _)
                      have s85 : (l3_72 + 1).toInt = l3_72.toInt + (1 : Int32).toInt := kd_add (oe12 p72_0.1 koe1) (oe68 c81 fi72_7432.2 koe1)
                      refine ft_go mi_k159 2 99 [(3, .int (l3_72 + 1)), (2, .int 1), (1, .int l1_47), (0, .ref 116)] [] i72 a84 q72 r72 (by rfl) ?_
                      exact ih72 _ _ _ _ _ hJ84 (oe62 c81 p72_0.1 s85 koe1) (kCp_le (kCp_step (kCp_le O72_0 rfl (Nat.le_refl _)) (hL72.I.2.1 120) (oe20 p72_0.1) (oe67 c81 fi72_7432.2) (oe63 s85 koe1) ea82 (congrArg (fun z : List Int32 => z.getD l3_72.toNatClampNeg 0) (hL72.fa 124 rfl))) ((fa84 120 (by decide)).trans (fa83 120 (by decide))) (Nat.le_refl _)) (kCp_le (kCp_step (kCp_le O72_1 (fa82 121 (by decide)) (Nat.le_refl _)) (hJ82.I.2.1 121) (oe20 p72_0.1) (oe67 c81 fi72_7432.2) (oe63 s85 koe1) ea83 (congrArg (fun z : List Int32 => z.getD l3_72.toNatClampNeg 0) ((fa82 125 (by decide)).trans (hL72.fa 125 rfl)))) (fa84 121 (by decide)) (Nat.le_refl _)) (kCp_le (kCp_step (kCp_le O72_2 ((fa83 122 (by decide)).trans (fa82 122 (by decide))) (Nat.le_refl _)) (hJ83.I.2.1 122) (oe20 p72_0.1) (oe67 c81 fi72_7432.2) (oe63 s85 koe1) ea84 (congrArg (fun z : List Int32 => z.getD l3_72.toNatClampNeg 0) (((fa83 126 (by decide)).trans (fa82 126 (by decide))).trans (hL72.fa 126 rfl)))) rfl (Nat.le_refl _)) (kj_meas (oe64 s85 koe1) (oe16 c81) hm72)
                exact lp72 _ _ _ _ _ _ (kG_self _ hJ70.I hJ70.R) (oe65 fig55_7440.1 koe0) (kCp_zero kn0) (kCp_zero kn0) (kCp_zero kn0) (Nat.lt_succ_self _)
    have fig5_7439 : ((0 : Int) ≤ (ig5 7439).toInt) ∧ ((ig5 7439).toInt ≤ 200) := hGg5.I.1 7439
    have fig5_7440 : ((0 : Int) ≤ (ig5 7440).toInt) ∧ ((ig5 7440).toInt ≤ 61) := hGg5.I.1 7440
    exact lp47 _ _ _ _ _ _ (kG_self _ hGg5.I hGg5.R) (oe51 koe0) (oe52 koe0) (oe22 z46) (fun h => absurd (kn0.symm.trans h) (by decide)) (Nat.lt_succ_self _)
