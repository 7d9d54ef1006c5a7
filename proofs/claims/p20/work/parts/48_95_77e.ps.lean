def zw159_116 : kW := ([7429, 7431, 7432, 7437, 7438, 7439, 7440], [120, 121, 122, 123, 124, 125, 126, 127], [], [])
def zw159_116_L25 : kW := ([7437, 7438, 7439, 7440], [124, 125, 126, 127], [], [])
def zw159_116_L99 : kW := ([], [120, 121, 122], [], [])
def zw159_116_L151 : kW := ([], [123], [], [])
set_option maxRecDepth 100000 in
set_option maxHeartbeats 4000000 in
theorem kf159_116 {i : Nat → Int32} {a : Nat → List Int32} {q : Nat → List Int64} {r : Nat → Nat} (hI : kI i a q) (hr : kr r) (t : List Int32) (nn : Int32) (hT : a 119 = t) (hN : i 7429 = nn) (hX : kBy t) : km 55 159 [.ref 116] (ks i a q r) (kVI zw159_116 i a q r (fun v i1 a1 q1 r1 => ((i1 7429).toInt = 0) ∧ ((rOk nn (rTxt t nn (a 127) (a 124) (a 125) (a 126)) ∧ v = 1 ∧ i1 7431 = 1 ∧ i1 7432 = (rTxt t nn (a 127) (a 124) (a 125) (a 126)).2.2.1 ∧ kCp (rTxt t nn (a 127) (a 124) (a 125) (a 126)).2.2.2.1 (a1 120) (rTxt t nn (a 127) (a 124) (a 125) (a 126)).2.2.1.toInt.toNat ∧ kCp (rTxt t nn (a 127) (a 124) (a 125) (a 126)).2.2.2.2.1 (a1 121) (rTxt t nn (a 127) (a 124) (a 125) (a 126)).2.2.1.toInt.toNat ∧ kCp (rTxt t nn (a 127) (a 124) (a 125) (a 126)).2.2.2.2.2 (a1 122) (rTxt t nn (a 127) (a 124) (a 125) (a 126)).2.2.1.toInt.toNat ∧ kCp (rTxt t nn (a 127) (a 124) (a 125) (a 126)).2.1.2.2 (a1 123) (rTxt t nn (a 127) (a 124) (a 125) (a 126)).2.1.2.1.toInt.toNat) ∨ (¬ rOk nn (rTxt t nn (a 127) (a 124) (a 125) (a 126)) ∧ v = -100 - (rTxt t nn (a 127) (a 124) (a 125) (a 126)).2.1.1 ∧ i1 7431 = i 7431 ∧ i1 7432 = i 7432 ∧ a1 120 = a 120 ∧ a1 121 = a 121 ∧ a1 122 = a 122 ∧ a1 123 = a 123)))) := by
  have hG := kG_self zw159_116 hI hr
  refine km_ofI (q := (mi_h159, mi_c159)) rfl (by decide) (Nat.le_of_ble_eq_true rfl) ?_
  intro P hP
  have hn1 : (i 7429).toInt = nn.toInt := congrArg Int32.toInt hN
  have hJ2 := kG_i hG 7437 rfl (v := 0) ⟨(oq387 koq0), (oq388 koq0)⟩
  have hJ3 := kG_i hJ2 7438 rfl (v := 0) (kd_bd _)
  have hJ4 := kG_i hJ3 7439 rfl (v := 0) ⟨(oq387 koq0), (oq389 koq0)⟩
  have hJ5 := kG_i hJ4 7440 rfl (v := 0) ⟨(oq387 koq0), (oq390 koq0)⟩
  refine ft_go mi_k159 13 21 [(0, .ref 116)] [.ref 116] (ku (ku (ku (ku i 7437 0) 7438 0) 7439 0) 7440 0) a q r (by rfl) ?_
  have fi_7429 : ((0 : Int) ≤ (i 7429).toInt) ∧ ((i 7429).toInt ≤ 120) := hJ5.I.1 7429
  refine ko_callI mi_k159.1 (pc := 21) (ls := [(0, .ref 116)]) (st := [.ref 116]) (h := ks (ku (ku (ku (ku i 7437 0) 7438 0) 7439 0) 7440 0) a q r) (i := (.invokevirtual 211, 3, 158, 0, 9, 0, 396)) (mi_k159.2 _ _ (by rfl)) (ft_invS mi_pq158 (by rfl)) (cy := mi_c158) mi_pq158 rfl (ke158_116 hJ5.I hJ5.R (oq391 fi_7429.1 koq0) (oq392 koq0) t nn hT hN hX) (by decide) ?_
  intro vg6 ig6 ag6 qg6 rg6 kg6 hg6
  have hGg6 := kG_call hJ5 kg6 (by decide +kernel)
  obtain ⟨hg6, og6⟩ := hg6
  have fig6_7437 : ((0 : Int) ≤ (ig6 7437).toInt) ∧ ((ig6 7437).toInt ≤ 120) := hGg6.I.1 7437
  have fig6_7429 : ((0 : Int) ≤ (ig6 7429).toInt) ∧ ((ig6 7429).toInt ≤ 120) := hGg6.I.1 7429
  have efig6_7429 : (ig6 7429).toInt = (i 7429).toInt := kg6.ti 7429 rfl
  have fig6_7439 : ((0 : Int) ≤ (ig6 7439).toInt) ∧ ((ig6 7439).toInt ≤ 200) := hGg6.I.1 7439
  have fig6_7440 : ((0 : Int) ≤ (ig6 7440).toInt) ∧ ((ig6 7440).toInt ≤ 61) := hGg6.I.1 7440
  have z7 : ((ig6 7437).toInt ≤ (ig6 7429).toInt) ∧ ((0 : Int32).toInt ≤ (ig6 7437).toInt) ∧ ((0 : Int) ≤ vg6.toInt) ∧ (vg6.toInt ≤ 1) ∧ (((vg6.toInt = 1) → (((ig6 7438).toInt = 0) ∧ ((ig6 7439).toInt ≤ (ig6 7437).toInt) ∧ ((ig6 7437).toInt ≤ (ig6 7429).toInt) ∧ ((2 * (ig6 7440).toInt) ≤ ((ig6 7437).toInt + 1)) ∧ ((ig6 7440).toInt = ((0 : Int32).toInt + 1))))) := hg6
  refine ft_go mi_k159 1 25 [(1, .int vg6), (0, .ref 116)] [] ig6 ag6 qg6 rg6 (by rfl) ?_
  have lp8 : ∀ (nz : Nat) (i8 : Nat → Int32) (a8 : Nat → List Int32) (q8 : Nat → List Int64) (r8 : Nat → Nat) (l1_8 : Int32), kG zw159_116_L25 ig6 ag6 qg6 rg6 i8 a8 q8 r8 → ((0 : Int) ≤ l1_8.toInt) ∧ (l1_8.toInt ≤ 1) → ((l1_8.toInt = 1) → (((i8 7438).toInt = 0) ∧ ((i8 7439).toInt ≤ (i8 7437).toInt) ∧ ((i8 7437).toInt ≤ (i8 7429).toInt) ∧ ((2 * (i8 7440).toInt) ≤ ((i8 7437).toInt + 1)))) → (i8 7437).toInt ≤ (i8 7429).toInt → rGl t nn (l1_8, ((i8 7437, i8 7439, a8 127), i8 7440, a8 124, a8 125, a8 126)) (rTxt t nn (a 127) (a 124) (a 125) (a 126)) → ((((200 * l1_8.toInt) + (i8 7429).toInt) - (i8 7437).toInt)).toNat < nz → ko 55 (mi_h159, mi_c159) P (25, [(1, .int l1_8), (0, .ref 116)], [], (0, 0), ks i8 a8 q8 r8) := by
    intro nz
    induction nz with
    | zero =>
      intro _ _ _ _ _ _ _ _ _ _ hm
      exact absurd hm (Nat.not_lt_zero _)
    | succ nz ih8 =>
      intro i8 a8 q8 r8 l1_8 hL8 p8_0 p8_1 p8_2 O8_0 hm8
      have fi8_7439 : ((0 : Int) ≤ (i8 7439).toInt) ∧ ((i8 7439).toInt ≤ 200) := hL8.I.1 7439
      have fi8_7437 : ((0 : Int) ≤ (i8 7437).toInt) ∧ ((i8 7437).toInt ≤ 120) := hL8.I.1 7437
      have fi8_7429 : ((0 : Int) ≤ (i8 7429).toInt) ∧ ((i8 7429).toInt ≤ 120) := hL8.I.1 7429
      have efi8_7429 : (i8 7429).toInt = (ig6 7429).toInt := hL8.ti 7429 rfl
      have fi8_7440 : ((0 : Int) ≤ (i8 7440).toInt) ∧ ((i8 7440).toInt ≤ 61) := hL8.I.1 7440
      refine ft_go mi_k159 1 26 [(1, .int l1_8), (0, .ref 116)] [.int l1_8] i8 a8 q8 r8 (by rfl) ?_
      refine ft_if mi_k159 (l1_8 == 0) 46 29 [(1, .int l1_8), (0, .ref 116)] [] (by rfl) (fun c => ?_) (fun c => ?_)
      ·
        have c9 : l1_8.toInt = (0 : Int32).toInt := kd_eq c; clear c
        have hG10 := kG_call hGg6 hL8 (by decide +kernel)
        have hD11 : (l1_8, ((i8 7437, i8 7439, a8 127), i8 7440, a8 124, a8 125, a8 126)) = (rTxt t nn (a 127) (a 124) (a 125) (a 126)) := rGl_end O8_0 (oq143 c9 p8_0.1 koq0)
        refine ft_go mi_k159 1 47 [(1, .int l1_8), (0, .ref 116)] [.int l1_8] i8 a8 q8 r8 (by rfl) ?_
        refine ft_if mi_k159 (l1_8 == 0) 65 50 [(1, .int l1_8), (0, .ref 116)] [] (by rfl) (fun c => ?_) (fun c => ?_)
        ·
          have c12 : l1_8.toInt = (0 : Int32).toInt := kd_eq c; clear c
          have hJ13 := kG_i hG10 7429 rfl (v := 0) ⟨(oq387 koq0), (oq388 koq0)⟩
          have s14 : ((-100) - (i8 7437)).toInt = ((-100) : Int32).toInt - (i8 7437).toInt := kd_sub (oq393 fi8_7437.2 koqm100) (oq394 fi8_7437.1 koqm100)
          refine ft_go mi_k159 11 83 [(2, .int 0), (1, .int l1_8), (0, .ref 116)] [.int ((-100) - (i8 7437))] (ku i8 7429 0) a8 q8 r8 (by rfl) ?_
          exact ft_ret mi_k159 (by rfl) (hP ((-100) - (i8 7437)) _ _ _ _ hJ13 ⟨(oq395 koq0), (Eq.subst (motive := fun z : Int32 × rL => ((rOk nn z ∧ ((-100) - (i8 7437)) = 1 ∧ i8 7431 = 1 ∧ i8 7432 = z.2.2.1 ∧ kCp z.2.2.2.1 (a8 120) z.2.2.1.toInt.toNat ∧ kCp z.2.2.2.2.1 (a8 121) z.2.2.1.toInt.toNat ∧ kCp z.2.2.2.2.2 (a8 122) z.2.2.1.toInt.toNat ∧ kCp z.2.1.2.2 (a8 123) z.2.1.2.1.toInt.toNat) ∨ (¬ rOk nn z ∧ ((-100) - (i8 7437)) = -100 - z.2.1.1 ∧ i8 7431 = i 7431 ∧ i8 7432 = i 7432 ∧ a8 120 = a 120 ∧ a8 121 = a 121 ∧ a8 122 = a 122 ∧ a8 123 = a 123))) hD11 (Or.inr ⟨(fun z => absurd z (oq396 c9 p8_0.1 koq0)), (show ((-100) - (i8 7437)) = -100 - i8 7437 from by first | rfl | (simp only []; done) | (simp only []; rfl)), ((hL8.fi 7431 rfl).trans (kg6.fi 7431 rfl)), ((hL8.fi 7432 rfl).trans (kg6.fi 7432 rfl)), ((hL8.fa 120 rfl).trans (kg6.fa 120 rfl)), ((hL8.fa 121 rfl).trans (kg6.fa 121 rfl)), ((hL8.fa 122 rfl).trans (kg6.fa 122 rfl)), ((hL8.fa 123 rfl).trans (kg6.fa 123 rfl))⟩))⟩)
        ·
          have c15 : l1_8.toInt ≠ (0 : Int32).toInt := kd_eqF c; clear c
          exact (oq397 c15 c9 p8_0.1 koq0).elim
      ·
        have c16 : l1_8.toInt ≠ (0 : Int32).toInt := kd_eqF c; clear c
        refine ft_go mi_k159 2 32 [(1, .int l1_8), (0, .ref 116)] [.int 59, .ref 116] i8 a8 q8 r8 (by rfl) ?_
        refine ko_callI mi_k159.1 (pc := 32) (ls := [(1, .int l1_8), (0, .ref 116)]) (st := [.int 59, .ref 116]) (h := ks i8 a8 q8 r8) (i := (.invokevirtual 187, 3, 148, 0, 9, 0, 407)) (mi_k159.2 _ _ (by rfl)) (ft_invS mi_pq148 (by rfl)) (cy := mi_c148) mi_pq148 rfl (ke148_116 hL8.I hL8.R 59 (oq398 koq59) t nn (((hL8.fa 119 rfl).trans (kg6.fa 119 rfl)).trans hT) (((hL8.fi 7429 rfl).trans (kg6.fi 7429 rfl)).trans hN) hX) (by decide) ?_
        intro vg17 ig17 ag17 qg17 rg17 kg17 hg17
        have hGg17 := kG_call hL8 kg17 (by decide +kernel)
        obtain ⟨hg17, og17⟩ := hg17
        have fig17_7437 : ((0 : Int) ≤ (ig17 7437).toInt) ∧ ((ig17 7437).toInt ≤ 120) := hGg17.I.1 7437
        have z18 : (((vg17.toInt = 1) ∧ ((ig17 7437).toInt = ((i8 7437).toInt + 1)) ∧ ((i8 7437).toInt < (i8 7429).toInt) ∧ ((cHr t nn (i8 7437) 0).toInt = (59 : Int32).toInt)) ∨ ((vg17.toInt = 0) ∧ ((ig17 7437).toInt = (i8 7437).toInt))) ∧ (((vg17.toInt = 0) → ((cHr t nn (i8 7437) 0).toInt ≠ (59 : Int32).toInt))) := hg17
        have q19 : ((ig17 7437).toInt = (i8 7437).toInt → (cHr t nn (ig17 7437) 0).toInt = (cHr t nn (i8 7437) 0).toInt) := fun h => congrArg Int32.toInt (kHr_c (t := t) (n := nn) (kj_v h) rfl)
        refine ft_if mi_k159 (vg17 == 0) 46 38 [(1, .int l1_8), (0, .ref 116)] [] (by rfl) (fun c => ?_) (fun c => ?_)
        ·
          have c20 : vg17.toInt = (0 : Int32).toInt := kd_eq c; clear c
          have hG21 := kG_call hGg6 hGg17 (by decide +kernel)
          have tk17 : (vg17, (ig17 7437, ig17 7439, ag17 127)) = rTk t nn 59 (i8 7437, i8 7439, a8 127) := tTkR og17 (kT2 (kg17.fi 7439 rfl) (kg17.fa 127 rfl))
          have hD22 : (l1_8, ((ig17 7437, ig17 7439, ag17 127), ig17 7440, ag17 124, ag17 125, ag17 126)) = (rTxt t nn (a 127) (a 124) (a 125) (a 126)) := by
            rw [kg17.fi 7440 rfl, kg17.fa 124 rfl, kg17.fa 125 rfl, kg17.fa 126 rfl]
            exact rGl_out O8_0 (oq151 c16 p8_0.1 koq0) tk17 (oq145 c20 koq0)
          refine ft_go mi_k159 1 47 [(1, .int l1_8), (0, .ref 116)] [.int l1_8] ig17 ag17 qg17 rg17 (by rfl) ?_
          refine ft_if mi_k159 (l1_8 == 0) 65 50 [(1, .int l1_8), (0, .ref 116)] [] (by rfl) (fun c => ?_) (fun c => ?_)
          ·
            have c23 : l1_8.toInt = (0 : Int32).toInt := kd_eq c; clear c
            exact (oq397 c16 c23 p8_0.1 koq0).elim
          ·
            have c24 : l1_8.toInt ≠ (0 : Int32).toInt := kd_eqF c; clear c
            have fig17_7429 : ((0 : Int) ≤ (ig17 7429).toInt) ∧ ((ig17 7429).toInt ≤ 120) := hG21.I.1 7429
            have efig17_7429 : (ig17 7429).toInt = (i8 7429).toInt := kg17.ti 7429 rfl
            refine ft_go mi_k159 4 58 [(1, .int l1_8), (0, .ref 116)] [.int (ig17 7429), .int (ig17 7437)] ig17 ag17 qg17 rg17 (by rfl) ?_
            refine ft_if mi_k159 ((ig17 7437) != (ig17 7429)) 65 61 [(1, .int l1_8), (0, .ref 116)] [] (by rfl) (fun c => ?_) (fun c => ?_)
            ·
              have c25 : (ig17 7437).toInt ≠ (ig17 7429).toInt := kd_ne c; clear c
              have hJ26 := kG_i hG21 7429 rfl (v := 0) ⟨(oq387 koq0), (oq388 koq0)⟩
              have s27 : ((-100) - (ig17 7437)).toInt = ((-100) : Int32).toInt - (ig17 7437).toInt := kd_sub (oq393 fig17_7437.2 koqm100) (oq394 fig17_7437.1 koqm100)
              refine ft_go mi_k159 11 83 [(2, .int 0), (1, .int l1_8), (0, .ref 116)] [.int ((-100) - (ig17 7437))] (ku ig17 7429 0) ag17 qg17 rg17 (by rfl) ?_
              exact ft_ret mi_k159 (by rfl) (hP ((-100) - (ig17 7437)) _ _ _ _ hJ26 ⟨(oq395 koq0), (Eq.subst (motive := fun z : Int32 × rL => ((rOk nn z ∧ ((-100) - (ig17 7437)) = 1 ∧ ig17 7431 = 1 ∧ ig17 7432 = z.2.2.1 ∧ kCp z.2.2.2.1 (ag17 120) z.2.2.1.toInt.toNat ∧ kCp z.2.2.2.2.1 (ag17 121) z.2.2.1.toInt.toNat ∧ kCp z.2.2.2.2.2 (ag17 122) z.2.2.1.toInt.toNat ∧ kCp z.2.1.2.2 (ag17 123) z.2.1.2.1.toInt.toNat) ∨ (¬ rOk nn z ∧ ((-100) - (ig17 7437)) = -100 - z.2.1.1 ∧ ig17 7431 = i 7431 ∧ ig17 7432 = i 7432 ∧ ag17 120 = a 120 ∧ ag17 121 = a 121 ∧ ag17 122 = a 122 ∧ ag17 123 = a 123))) hD22 (Or.inr ⟨(fun z => absurd z (oq428 c20 c25 efi8_7429 efig17_7429 efig6_7429 hn1 p8_2 z18.1 koq0 koq59)), (show ((-100) - (ig17 7437)) = -100 - ig17 7437 from by first | rfl | (simp only []; done) | (simp only []; rfl)), ((kg17.fi 7431 rfl).trans ((hL8.fi 7431 rfl).trans (kg6.fi 7431 rfl))), ((kg17.fi 7432 rfl).trans ((hL8.fi 7432 rfl).trans (kg6.fi 7432 rfl))), (((kg17.fa 120 rfl).trans (hL8.fa 120 rfl)).trans (kg6.fa 120 rfl)), (((kg17.fa 121 rfl).trans (hL8.fa 121 rfl)).trans (kg6.fa 121 rfl)), (((kg17.fa 122 rfl).trans (hL8.fa 122 rfl)).trans (kg6.fa 122 rfl)), (((kg17.fa 123 rfl).trans (hL8.fa 123 rfl)).trans (kg6.fa 123 rfl))⟩))⟩)
            ·
              have c28 : (ig17 7437).toInt = (ig17 7429).toInt := kd_neF c; clear c
              have hJ29 := kG_i hG21 7429 rfl (v := 0) ⟨(oq387 koq0), (oq388 koq0)⟩
              have hJ30 := kG_i hJ29 7431 rfl (v := 1) ⟨(oq400 koq1), (oq401 koq1)⟩
              have fig17_7440 : ((0 : Int) ≤ (ig17 7440).toInt) ∧ ((ig17 7440).toInt ≤ 61) := hJ30.I.1 7440
              have efig17_7440 : (ig17 7440).toInt = (i8 7440).toInt := kg17.ti 7440 rfl
              have hJ31 := kG_i hJ30 7432 rfl (v := (ig17 7440)) ⟨(oq2 fig17_7440.1), (oq402 c16 efig17_7440 fi8_7437.2 p8_0.1 p8_0.2 p8_1 koq0)⟩
              refine ft_go mi_k159 17 99 [(3, .int 0), (2, .int 1), (1, .int l1_8), (0, .ref 116)] [] (ku (ku (ku ig17 7429 0) 7431 1) 7432 (ig17 7440)) ag17 qg17 rg17 (by rfl) ?_
              have lp32 : ∀ (nz : Nat) (i32 : Nat → Int32) (a32 : Nat → List Int32) (q32 : Nat → List Int64) (r32 : Nat → Nat) (l3_32 : Int32), kG zw159_116_L99 (ku (ku (ku ig17 7429 0) 7431 1) 7432 (ig17 7440)) ag17 qg17 rg17 i32 a32 q32 r32 → ((0 : Int) ≤ l3_32.toInt) ∧ (l3_32.toInt ≤ (i32 7432).toInt) → kCp (ag17 124) (a32 120) l3_32.toInt.toNat → kCp (ag17 125) (a32 121) l3_32.toInt.toNat → kCp (ag17 126) (a32 122) l3_32.toInt.toNat → (((i32 7432).toInt - l3_32.toInt)).toNat < nz → ko 55 (mi_h159, mi_c159) P (99, [(3, .int l3_32), (2, .int 1), (1, .int l1_8), (0, .ref 116)], [], (0, 0), ks i32 a32 q32 r32) := by
                intro nz
                induction nz with
                | zero =>
                  intro _ _ _ _ _ _ _ _ _ _ hm
                  exact absurd hm (Nat.not_lt_zero _)
                | succ nz ih32 =>
                  intro i32 a32 q32 r32 l3_32 hL32 p32_0 O32_0 O32_1 O32_2 hm32
                  have fi32_7432 : ((0 : Int) ≤ (i32 7432).toInt) ∧ ((i32 7432).toInt ≤ 60) := hL32.I.1 7432
                  have efi32_7432 : (i32 7432).toInt = (ig17 7440).toInt := hL32.ti 7432 rfl
                  refine ft_go mi_k159 3 104 [(3, .int l3_32), (2, .int 1), (1, .int l1_8), (0, .ref 116)] [.int (i32 7432), .int l3_32] i32 a32 q32 r32 (by rfl) ?_
                  refine ft_if mi_k159 (decide ((i32 7432) ≤ l3_32)) 149 107 [(3, .int l3_32), (2, .int 1), (1, .int l1_8), (0, .ref 116)] [] (by rfl) (fun c => ?_) (fun c => ?_)
                  ·
                    have c33 : (i32 7432).toInt ≤ l3_32.toInt := kd_le c; clear c
                    have hG34 := kG_call hJ31 hL32 (by decide +kernel)
                    refine ft_go mi_k159 2 151 [(3, .int 0), (2, .int 1), (1, .int l1_8), (0, .ref 116)] [] i32 a32 q32 r32 (by rfl) ?_
                    have lp35 : ∀ (nz : Nat) (i35 : Nat → Int32) (a35 : Nat → List Int32) (q35 : Nat → List Int64) (r35 : Nat → Nat) (l3_35 : Int32), kG zw159_116_L151 i32 a32 q32 r32 i35 a35 q35 r35 → ((0 : Int) ≤ l3_35.toInt) ∧ (l3_35.toInt ≤ (i35 7439).toInt) → kCp (ag17 127) (a35 123) l3_35.toInt.toNat → (((i35 7439).toInt - l3_35.toInt)).toNat < nz → ko 55 (mi_h159, mi_c159) P (151, [(3, .int l3_35), (2, .int 1), (1, .int l1_8), (0, .ref 116)], [], (0, 0), ks i35 a35 q35 r35) := by
                      intro nz
                      induction nz with
                      | zero =>
                        intro _ _ _ _ _ _ _ _ hm
                        exact absurd hm (Nat.not_lt_zero _)
                      | succ nz ih35 =>
                        intro i35 a35 q35 r35 l3_35 hL35 p35_0 O35_0 hm35
                        have fi35_7439 : ((0 : Int) ≤ (i35 7439).toInt) ∧ ((i35 7439).toInt ≤ 200) := hL35.I.1 7439
                        have fi32_7439 : ((0 : Int) ≤ (i32 7439).toInt) ∧ ((i32 7439).toInt ≤ 200) := hG34.I.1 7439
                        have fig17_7439 : ((0 : Int) ≤ (ig17 7439).toInt) ∧ ((ig17 7439).toInt ≤ 200) := hJ31.I.1 7439
                        have efig17_7439 : (ig17 7439).toInt = (i8 7439).toInt := kg17.ti 7439 rfl
                        have efi32_7439 : (i32 7439).toInt = (ig17 7439).toInt := hL32.ti 7439 rfl
                        have efi35_7439 : (i35 7439).toInt = (i32 7439).toInt := hL35.ti 7439 rfl
                        refine ft_go mi_k159 3 156 [(3, .int l3_35), (2, .int 1), (1, .int l1_8), (0, .ref 116)] [.int (i35 7439), .int l3_35] i35 a35 q35 r35 (by rfl) ?_
                        refine ft_if mi_k159 (decide ((i35 7439) ≤ l3_35)) 177 159 [(3, .int l3_35), (2, .int 1), (1, .int l1_8), (0, .ref 116)] [] (by rfl) (fun c => ?_) (fun c => ?_)
                        ·
                          have c36 : (i35 7439).toInt ≤ l3_35.toInt := kd_le c; clear c
                          have hG37 := kG_call hG34 hL35 (by decide +kernel)
                          refine ft_go mi_k159 1 178 [(3, .int l3_35), (2, .int 1), (1, .int l1_8), (0, .ref 116)] [.int 1] i35 a35 q35 r35 (by rfl) ?_
                          have fi35_7429 : ((0 : Int) ≤ (i35 7429).toInt) ∧ ((i35 7429).toInt ≤ 120) := hG37.I.1 7429
                          have fi32_7429 : ((0 : Int) ≤ (i32 7429).toInt) ∧ ((i32 7429).toInt ≤ 120) := hG34.I.1 7429
                          have efi32_7429 : (i32 7429).toInt = (0 : Int32).toInt := hL32.ti 7429 rfl
                          have efi35_7429 : (i35 7429).toInt = (i32 7429).toInt := hL35.ti 7429 rfl
                          have fi35_7432 : ((0 : Int) ≤ (i35 7432).toInt) ∧ ((i35 7432).toInt ≤ 60) := hG37.I.1 7432
                          have efi35_7432 : (i35 7432).toInt = (i32 7432).toInt := hL35.ti 7432 rfl
                          exact ft_ret mi_k159 (by rfl) (hP 1 _ _ _ _ hG37 ⟨(oq403 efi32_7429 efi35_7429 fi35_7429.1 koq0), (Eq.subst (motive := fun z : Int32 × rL => ((rOk nn z ∧ (1 : Int32) = 1 ∧ i35 7431 = 1 ∧ i35 7432 = z.2.2.1 ∧ kCp z.2.2.2.1 (a35 120) z.2.2.1.toInt.toNat ∧ kCp z.2.2.2.2.1 (a35 121) z.2.2.1.toInt.toNat ∧ kCp z.2.2.2.2.2 (a35 122) z.2.2.1.toInt.toNat ∧ kCp z.2.1.2.2 (a35 123) z.2.1.2.1.toInt.toNat) ∨ (¬ rOk nn z ∧ (1 : Int32) = -100 - z.2.1.1 ∧ i35 7431 = i 7431 ∧ i35 7432 = i 7432 ∧ a35 120 = a 120 ∧ a35 121 = a 121 ∧ a35 122 = a 122 ∧ a35 123 = a 123))) hD22 (Or.inl ⟨⟨(oq404 c16 p8_0.1 koq0), (oq405 c28 efi8_7429 efig17_7429 efig6_7429 hn1)⟩, rfl, (show i35 7431 = 1 from by first | rfl | (simp only [(show i35 7431 = i32 7431 from hL35.fi 7431 rfl), (show i32 7431 = (1 : Int32) from hL32.fi 7431 rfl)]; done) | (simp only [(show i35 7431 = i32 7431 from hL35.fi 7431 rfl), (show i32 7431 = (1 : Int32) from hL32.fi 7431 rfl)]; rfl)), (kj_v (oq408 efi32_7432 efi35_7432)), (kCp_from rfl (kCp_le O32_0 (hL35.fa 120 rfl) (kj_nle (oq406 c33 efi32_7432)))), (kCp_from rfl (kCp_le O32_1 (hL35.fa 121 rfl) (kj_nle (oq406 c33 efi32_7432)))), (kCp_from rfl (kCp_le O32_2 (hL35.fa 122 rfl) (kj_nle (oq406 c33 efi32_7432)))), (kCp_from rfl (kCp_le O35_0 rfl (kj_nle (oq407 c36 efi32_7439 efi35_7439))))⟩))⟩)
                        ·
                          have c38 : l3_35.toInt < (i35 7439).toInt := kd_leF c; clear c
                          refine ft_go mi_k159 6 169 [(3, .int l3_35), (2, .int 1), (1, .int l1_8), (0, .ref 116)] [.int l3_35, .ref 127, .int l3_35, .ref 123] i35 a35 q35 r35 (by rfl) ?_
                          refine ko_iald3 mi_k159.1 (n := 200) (c := 200) (ax := (0, 0, 0, 0, 0)) (mi_k159.2 _ _ (by rfl)) (by rfl) (ksG127 _ _ _ _) (hL35.I.2.1 127) rfl (oq2 p35_0.1) (oq409 c38 fi35_7439.2) ?_
                          refine ko_iast3 mi_k159.1 (n := 200) (c := 200) (ax := (0, 0, 0, 0, 0)) (mi_k159.2 _ _ (by rfl)) (by rfl) (ksG123 _ _ _ _) (ksA123 _ _ _ _) (hL35.I.2.1 123) rfl (oq2 p35_0.1) (oq409 c38 fi35_7439.2) ?_
                          intro a39 ea39 fa39
                          have hJ39 := kG_a3 hL35 123 rfl ea39 fa39 (kd_bd _)
                          have s40 : (l3_35 + 1).toInt = l3_35.toInt + (1 : Int32).toInt := kd_add (oq115 p35_0.1 koq1) (oq410 c38 fi35_7439.2 koq1)
                          refine ft_go mi_k159 2 151 [(3, .int (l3_35 + 1)), (2, .int 1), (1, .int l1_8), (0, .ref 116)] [] i35 a39 q35 r35 (by rfl) ?_
                          exact ih35 _ _ _ _ _ hJ39 (oq411 c38 p35_0.1 s40 koq1) (kCp_le (kCp_step (kCp_le O35_0 rfl (Nat.le_refl _)) (hL35.I.2.1 123) (oq2 p35_0.1) (oq409 c38 fi35_7439.2) (oq214 s40 koq1) ea39 (congrArg (fun z : List Int32 => z.getD l3_35.toNatClampNeg 0) ((hL35.fa 127 rfl).trans (hL32.fa 127 rfl)))) rfl (Nat.le_refl _)) (kj_meas (oq412 s40 koq1) (oq413 c38) hm35)
                    have fi32_7439 : ((0 : Int) ≤ (i32 7439).toInt) ∧ ((i32 7439).toInt ≤ 200) := hG34.I.1 7439
                    have fig17_7439 : ((0 : Int) ≤ (ig17 7439).toInt) ∧ ((ig17 7439).toInt ≤ 200) := hJ31.I.1 7439
                    have efig17_7439 : (ig17 7439).toInt = (i8 7439).toInt := kg17.ti 7439 rfl
                    have efi32_7439 : (i32 7439).toInt = (ig17 7439).toInt := hL32.ti 7439 rfl
                    exact lp35 _ _ _ _ _ _ (kG_self _ hG34.I hG34.R) (oq414 fi32_7439.1 koq0) (kCp_zero kn0) (Nat.lt_succ_self _)
                  ·
                    have c41 : l3_32.toInt < (i32 7432).toInt := kd_leF c; clear c
                    refine ft_go mi_k159 6 117 [(3, .int l3_32), (2, .int 1), (1, .int l1_8), (0, .ref 116)] [.int l3_32, .ref 124, .int l3_32, .ref 120] i32 a32 q32 r32 (by rfl) ?_
                    refine ko_iald3 mi_k159.1 (n := 61) (c := 61) (ax := (0, 0, 0, 0, 0)) (mi_k159.2 _ _ (by rfl)) (by rfl) (ksG124 _ _ _ _) (hL32.I.2.1 124) rfl (oq2 p32_0.1) (oq415 c41 fi32_7432.2) ?_
                    refine ko_iast3 mi_k159.1 (n := 60) (c := 60) (ax := (0, 0, 0, 0, 0)) (mi_k159.2 _ _ (by rfl)) (by rfl) (ksG120 _ _ _ _) (ksA120 _ _ _ _) (hL32.I.2.1 120) rfl (oq2 p32_0.1) (oq416 c41 fi32_7432.2) ?_
                    intro a42 ea42 fa42
                    have hJ42 := kG_a3 hL32 120 rfl ea42 fa42 (kd_bd _)
                    refine ft_go mi_k159 6 129 [(3, .int l3_32), (2, .int 1), (1, .int l1_8), (0, .ref 116)] [.int l3_32, .ref 125, .int l3_32, .ref 121] i32 a42 q32 r32 (by rfl) ?_
                    refine ko_iald3 mi_k159.1 (n := 61) (c := 61) (ax := (0, 0, 0, 0, 0)) (mi_k159.2 _ _ (by rfl)) (by rfl) (ksG125 _ _ _ _) (hJ42.I.2.1 125) rfl (oq2 p32_0.1) (oq415 c41 fi32_7432.2) ?_
                    refine ko_iast3 mi_k159.1 (n := 60) (c := 60) (ax := (0, 0, 0, 0, 0)) (mi_k159.2 _ _ (by rfl)) (by rfl) (ksG121 _ _ _ _) (ksA121 _ _ _ _) (hJ42.I.2.1 121) rfl (oq2 p32_0.1) (oq416 c41 fi32_7432.2) ?_
                    intro a43 ea43 fa43
                    have hJ43 := kG_a3 hJ42 121 rfl ea43 fa43 (kd_bd _)
                    refine ft_go mi_k159 6 141 [(3, .int l3_32), (2, .int 1), (1, .int l1_8), (0, .ref 116)] [.int l3_32, .ref 126, .int l3_32, .ref 122] i32 a43 q32 r32 (by rfl) ?_
                    refine ko_iald3 mi_k159.1 (n := 61) (c := 61) (ax := (0, 0, 0, 0, 0)) (mi_k159.2 _ _ (by rfl)) (by rfl) (ksG126 _ _ _ _) (hJ43.I.2.1 126) rfl (oq2 p32_0.1) (oq415 c41 fi32_7432.2) ?_
                    refine ko_iast3 mi_k159.1 (n := 60) (c := 60) (ax := (0, 0, 0, 0, 0)) (mi_k159.2 _ _ (by rfl)) (by rfl) (ksG122 _ _ _ _) (ksA122 _ _ _ _) (hJ43.I.2.1 122) rfl (oq2 p32_0.1) (oq416 c41 fi32_7432.2) ?_
                    intro a44 ea44 fa44
                    have hJ44 := kG_a3 hJ43 122 rfl ea44 fa44 (kd_bd _)
                    have s45 : (l3_32 + 1).toInt = l3_32.toInt + (1 : Int32).toInt := kd_add (oq115 p32_0.1 koq1) (oq417 c41 fi32_7432.2 koq1)
                    refine ft_go mi_k159 2 99 [(3, .int (l3_32 + 1)), (2, .int 1), (1, .int l1_8), (0, .ref 116)] [] i32 a44 q32 r32 (by rfl) ?_
                    exact ih32 _ _ _ _ _ hJ44 (oq411 c41 p32_0.1 s45 koq1) (kCp_le (kCp_step (kCp_le O32_0 rfl (Nat.le_refl _)) (hL32.I.2.1 120) (oq2 p32_0.1) (oq416 c41 fi32_7432.2) (oq214 s45 koq1) ea42 (congrArg (fun z : List Int32 => z.getD l3_32.toNatClampNeg 0) (hL32.fa 124 rfl))) ((fa44 120 (by decide)).trans (fa43 120 (by decide))) (Nat.le_refl _)) (kCp_le (kCp_step (kCp_le O32_1 (fa42 121 (by decide)) (Nat.le_refl _)) (hJ42.I.2.1 121) (oq2 p32_0.1) (oq416 c41 fi32_7432.2) (oq214 s45 koq1) ea43 (congrArg (fun z : List Int32 => z.getD l3_32.toNatClampNeg 0) ((fa42 125 (by decide)).trans (hL32.fa 125 rfl)))) (fa44 121 (by decide)) (Nat.le_refl _)) (kCp_le (kCp_step (kCp_le O32_2 ((fa43 122 (by decide)).trans (fa42 122 (by decide))) (Nat.le_refl _)) (hJ43.I.2.1 122) (oq2 p32_0.1) (oq416 c41 fi32_7432.2) (oq214 s45 koq1) ea44 (congrArg (fun z : List Int32 => z.getD l3_32.toNatClampNeg 0) (((fa43 126 (by decide)).trans (fa42 126 (by decide))).trans (hL32.fa 126 rfl)))) rfl (Nat.le_refl _)) (kj_meas (oq412 s45 koq1) (oq413 c41) hm32)
              exact lp32 _ _ _ _ _ _ (kG_self _ hJ31.I hJ31.R) (oq414 fig17_7440.1 koq0) (kCp_zero kn0) (kCp_zero kn0) (kCp_zero kn0) (Nat.lt_succ_self _)
        ·
          have c46 : vg17.toInt ≠ (0 : Int32).toInt := kd_eqF c; clear c
          refine ft_go mi_k159 1 39 [(1, .int l1_8), (0, .ref 116)] [.ref 116] ig17 ag17 qg17 rg17 (by rfl) ?_
          have efig17_7438 : (ig17 7438).toInt = (i8 7438).toInt := kg17.ti 7438 rfl
          have fig17_7439 : ((0 : Int) ≤ (ig17 7439).toInt) ∧ ((ig17 7439).toInt ≤ 200) := hGg17.I.1 7439
          have efig17_7439 : (ig17 7439).toInt = (i8 7439).toInt := kg17.ti 7439 rfl
          have fig17_7429 : ((0 : Int) ≤ (ig17 7429).toInt) ∧ ((ig17 7429).toInt ≤ 120) := hGg17.I.1 7429
          have efig17_7429 : (ig17 7429).toInt = (i8 7429).toInt := kg17.ti 7429 rfl
          have fig17_7440 : ((0 : Int) ≤ (ig17 7440).toInt) ∧ ((ig17 7440).toInt ≤ 61) := hGg17.I.1 7440
          have efig17_7440 : (ig17 7440).toInt = (i8 7440).toInt := kg17.ti 7440 rfl
          refine ko_callI mi_k159.1 (pc := 39) (ls := [(1, .int l1_8), (0, .ref 116)]) (st := [.ref 116]) (h := ks ig17 ag17 qg17 rg17) (i := (.invokevirtual 211, 3, 158, 0, 9, 0, 396)) (mi_k159.2 _ _ (by rfl)) (ft_invS mi_pq158 (by rfl)) (cy := mi_c158) mi_pq158 rfl (ke158_116 hGg17.I hGg17.R (oq418 c16 efig17_7429 efig17_7438 efig17_7439 p8_0.1 p8_0.2 p8_1 p8_2 z18.1 koq0 koq59) (oq419 c16 c46 efig17_7440 p8_0.1 p8_0.2 p8_1 z18.1 koq0 koq59) t nn ((((kg17.fa 119 rfl).trans (hL8.fa 119 rfl)).trans (kg6.fa 119 rfl)).trans hT) (((kg17.fi 7429 rfl).trans ((hL8.fi 7429 rfl).trans (kg6.fi 7429 rfl))).trans hN) hX) (by decide) ?_
          intro vg47 ig47 ag47 qg47 rg47 kg47 hg47
          have hGg47 := kG_call hGg17 kg47 (by decide +kernel)
          obtain ⟨hg47, og47⟩ := hg47
          have fig47_7437 : ((0 : Int) ≤ (ig47 7437).toInt) ∧ ((ig47 7437).toInt ≤ 120) := hGg47.I.1 7437
          have fig47_7429 : ((0 : Int) ≤ (ig47 7429).toInt) ∧ ((ig47 7429).toInt ≤ 120) := hGg47.I.1 7429
          have efig47_7429 : (ig47 7429).toInt = (ig17 7429).toInt := kg47.ti 7429 rfl
          have fig47_7439 : ((0 : Int) ≤ (ig47 7439).toInt) ∧ ((ig47 7439).toInt ≤ 200) := hGg47.I.1 7439
          have fig47_7440 : ((0 : Int) ≤ (ig47 7440).toInt) ∧ ((ig47 7440).toInt ≤ 61) := hGg47.I.1 7440
          have z48 : ((ig47 7437).toInt ≤ (ig47 7429).toInt) ∧ ((ig17 7437).toInt ≤ (ig47 7437).toInt) ∧ ((0 : Int) ≤ vg47.toInt) ∧ (vg47.toInt ≤ 1) ∧ (((vg47.toInt = 1) → (((ig47 7438).toInt = 0) ∧ ((ig47 7439).toInt ≤ (ig47 7437).toInt) ∧ ((ig47 7437).toInt ≤ (ig47 7429).toInt) ∧ ((2 * (ig47 7440).toInt) ≤ ((ig47 7437).toInt + 1)) ∧ ((ig47 7440).toInt = ((ig17 7440).toInt + 1))))) := hg47
          refine ft_go mi_k159 2 25 [(1, .int vg47), (0, .ref 116)] [] ig47 ag47 qg47 rg47 (by rfl) ?_
          have tk17 : (vg17, (ig17 7437, ig17 7439, ag17 127)) = rTk t nn 59 (i8 7437, i8 7439, a8 127) := tTkR og17 (kT2 (kg17.fi 7439 rfl) (kg17.fa 127 rfl))
          have o47 := og47
          rw [kg17.fi 7440 rfl, kg17.fa 124 rfl, kg17.fa 125 rfl, kg17.fa 126 rfl] at o47
          exact ih8 _ _ _ _ _ hGg47 (oq420 z48.2.2.1 z48.2.2.2.1) (oq421 z48.1 z48.2.2.2.1 z48.2.2.2.2) (oq222 z48.1) (rGl_again O8_0 (oq151 c16 p8_0.1 koq0) tk17 (oq422 c46 z18.1 koq0 koq59) (oq423 c46 efi8_7429 efig17_7429 efig47_7429 efig6_7429 hn1 z18.1 z48.1 z48.2.1 koq0 koq59) o47 (oq424 c46 z18.1 z48.2.1 koq0 koq59)) (kj_meas (oq425 c16 c46 efig17_7429 efig47_7429 p8_0.1 z18.1 z48.2.1 z48.2.2.2.1 koq0 koq59) (oq426 c16 fi8_7429.1 fi8_7437.2 p8_0.1 koq0) hm8)
  exact lp8 _ _ _ _ _ _ (kG_self _ hGg6.I hGg6.R) (oq420 z7.2.2.1 z7.2.2.2.1) (oq427 z7.1 z7.2.2.2.1 z7.2.2.2.2 koq0) (oq222 z7.1) (rGl_begin og6 (oq2 fig6_7437.1)) (Nat.lt_succ_self _)
