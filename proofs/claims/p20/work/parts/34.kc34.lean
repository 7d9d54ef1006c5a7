theorem kn32 : (32 : Int32).toInt = 32 := by decide
theorem oz1170 {a0 a1 : Int} (h0 : a0 ≠ a1) (h1 : a1 ≤ a0) (h2 : (a0 < 0) ∨ (a0 = 0)) (h3 : a1 = 0) : False := by omega
theorem oz1172 {a0 a1 : Int} (h0 : a0 = (a1 % 10)) (h1 : ¬ (a0 = 0)) (h2 : ¬ (a0 = 1)) (h3 : ¬ (a0 = 2)) (h4 : ¬ (a0 = 3)) (h5 : ¬ (a0 = 4)) (h6 : ¬ (a0 = 5)) (h7 : (a1 % 10) ≤ 5) : False := by omega
theorem oz1173 {a0 a1 a2 a3 : Int} (h0 : a0 ≠ a1) (h1 : a0 ≠ a2) (h2 : a0 < a3) (h3 : a2 ≤ a0) (h4 : a1 = 1) (h5 : a2 = 0) (h6 : a3 = 2) : False := by omega
theorem oz1174 {a0 a1 : Int} (h0 : a0 = a1) (h1 : a1 = 1) : ¬ (a0 = 0) := by omega
theorem oz1175 {a0 a1 a2 a3 a4 a5 : Int} (h0 : a0 = a1) (h1 : a2 = a0) (h2 : a3 = a4 + a5) (h3 : a5 = 1) : (a2 - a3) < (a1 - a4) := by omega
theorem oz1176 {a0 a1 a2 : Int} (h0 : a0 < a1) (h1 : a2 ≤ a0) (h2 : a1 ≤ 20) (h3 : a2 = 0) : ((0 : Int) ≤ a0) ∧ (a0 ≤ 19) := by omega
theorem oz1177 {a0 a1 a2 : Int} (h0 : a0 = a1) (h1 : a0 < a2) (h2 : ¬ (a0 = 1)) (h3 : a1 = 1) (h4 : a2 = 2) : ¬ (a0 = 2) := by omega
theorem oz1178 {a0 a1 a2 : Int} (h0 : a0 = a1) (h1 : a0 < a2) (h2 : ¬ (a0 = 1)) (h3 : a1 = 1) (h4 : a2 = 2) : False := by omega
theorem oz1179 {a0 a1 : Int} (h0 : a0 ≤ a1) (h1 : a0 = 2) : ¬ (a1 = 0) := by omega
theorem oz1180 {a0 a1 : Int} (h0 : a0 ≤ a1) (h1 : a0 = 2) : ¬ (a1 = 1) := by omega
theorem oz1181 {a0 : Int} (h0 : a0 = 1) : a0 < 7 := by omega
theorem oz1182 {a0 a1 a2 : Int} (h0 : a0 ≤ a1) (h1 : a1 ≤ 999) (h2 : a2 = 1) : a0 + a2 ≤ 2147483647 := by omega
theorem oz1183 {a0 a1 a2 : Int} (h0 : a0 = a1 + a2) (h1 : a2 = 1) : (1001 - a0) < (1001 - a1) := by omega
theorem oz1184 {a0 a1 : Int} (h0 : a0 ≤ a1) (h1 : a1 ≤ 999) : (1 : Int) ≤ (1001 - a0) := by omega
theorem oz1185 {a0 a1 a2 : Int} (h0 : a0 < a1) (h1 : a1 = 32) (h2 : a2 = 1) : a0 + a2 ≤ 2147483647 := by omega
theorem oz1186 {a0 a1 a2 : Int} (h0 : a0 = a1 + a2) (h1 : a2 = 1) : (32 - a0) < (32 - a1) := by omega
theorem oz1187 {a0 a1 : Int} (h0 : a0 < a1) (h1 : a1 = 32) : (1 : Int) ≤ (32 - a0) := by omega
theorem oz1188 {a0 a1 : Int} (h0 : a0 = (a1 % 10)) (h1 : ¬ (a0 = 4)) (h2 : ¬ (a0 = 5)) (h3 : ¬ (a0 = 0)) (h4 : ¬ (a0 = 1)) (h5 : ¬ (a0 = 2)) (h6 : ¬ (a0 = 3)) (h7 : (a1 % 10) ≤ 5) : False := by omega
theorem oz1189 {a0 a1 a2 : Int} (h0 : a0 = a1) (h1 : a2 ≤ a0) (h2 : a1 = 1) (h3 : a2 = 2) : False := by omega
theorem oz1190 {a0 a1 a2 : Int} (h0 : a0 ≤ a1) (h1 : a1 = 5) (h2 : a2 = 1) : a0 + a2 ≤ 2147483647 := by omega
theorem oz1191 {a0 a1 : Int} (h0 : a0 ≤ a1) (h1 : a1 = 5) : (1 : Int) ≤ (6 - a0) := by omega
theorem oz1192 {a0 a1 : Int} (h0 : a0 ≤ a1) (h1 : a1 = 5) : a0 ≤ 8 := by omega
theorem oz1193 {a0 a1 : Int} (h0 : a0 ≤ a1) (h1 : a1 = 5) : a0 ≤ 5 := by omega
theorem oz1194 {a0 a1 : Int} (h0 : a0 = a1) (h1 : ¬ (a0 = 0)) (h2 : a1 ≤ a0) (h3 : a1 = 0) : ¬ (a0 = 1) := by omega
theorem oz1195 {a0 a1 : Int} (h0 : a0 = a1) (h1 : ¬ (a0 = 0)) (h2 : a1 ≤ a0) (h3 : a1 = 0) : ¬ (a0 = 2) := by omega
theorem oz1196 {a0 a1 : Int} (h0 : a0 = a1) (h1 : ¬ (a0 = 0)) (h2 : a1 ≤ a0) (h3 : a1 = 0) : False := by omega
theorem oz1197 {a0 a1 a2 : Int} (h0 : a0 = a1) (h1 : a2 ≤ a0) (h2 : a1 = 0) (h3 : a2 = 2) : False := by omega
theorem oz1198 {a0 : Int} (h0 : a0 ≤ 5) : a0 ≤ 8 := by omega
theorem oz1199 {a0 a1 : Int} (h0 : a0 < a1) (h1 : a0 = 0) : (0 : Int) ≤ a1 := by omega
theorem oz1201 {a0 : Int} (h0 : a0 ≤ 4) : a0 ≤ 4 := by omega
theorem oz1202 {a0 a1 a2 : Int} (h0 : a0 < a1) (h1 : a0 = 0) (h2 : a2 = (-1)) : (-2147483648 : Int) ≤ a1 + a2 := by omega
theorem oz1205 {a0 a1 a2 : Int} (h0 : a0 = a1 + a2) (h1 : a2 = (-1)) : a0 < a1 := by omega
theorem oz1206 {a0 : Int} (h0 : (0 : Int) ≤ a0) : (-2147483648 : Int) ≤ 2 * a0 := by omega
theorem oz1207 {a0 a1 : Int} (h0 : a0 < a1) (h1 : a1 ≤ 256) : 2 * a0 ≤ 2147483647 := by omega
theorem oz1208 {a0 a1 : Int} (h0 : (0 : Int) ≤ a0) (h1 : a1 = 2 * a0) : (0 : Int) ≤ a1 := by omega
theorem oz1209 {a0 a1 a2 : Int} (h0 : a0 < a1) (h1 : a1 ≤ 16) (h2 : a2 = 2 * a0) : a2 < 32 := by omega
theorem oz1210 {a0 a1 a2 : Int} (h0 : (0 : Int) ≤ a0) (h1 : a1 = 2 * a0) (h2 : a2 = 1) : (-2147483648 : Int) ≤ a1 + a2 := by omega
theorem oz1211 {a0 a1 a2 a3 : Int} (h0 : a0 < a1) (h1 : a1 ≤ 256) (h2 : a2 = 2 * a0) (h3 : a3 = 1) : a2 + a3 ≤ 2147483647 := by omega
theorem oz1212 {a0 a1 a2 a3 : Int} (h0 : (0 : Int) ≤ a0) (h1 : a1 = 2 * a0) (h2 : a2 = a1 + a3) (h3 : a3 = 1) : (0 : Int) ≤ a2 := by omega
theorem oz1213 {a0 a1 a2 a3 a4 : Int} (h0 : a0 < a1) (h1 : a1 ≤ 16) (h2 : a2 = 2 * a0) (h3 : a3 = a2 + a4) (h4 : a4 = 1) : a3 < 32 := by omega
theorem oz1214 {a0 a1 : Int} (h0 : a0 < a1) (h1 : a1 ≤ 16) : a0 < 32 := by omega
theorem oz1215 {a0 a1 a2 : Int} (h0 : a0 < a1) (h1 : a1 ≤ 256) (h2 : a2 = 1) : a0 + a2 ≤ 2147483647 := by omega
theorem oz1217 {a0 a1 a2 : Int} (h0 : a0 = a1 + a2) (h1 : a2 = 1) : (16 - a0) < (16 - a1) := by omega
theorem oz1218 {a0 a1 : Int} (h0 : a0 < a1) (h1 : a1 ≤ 16) : (1 : Int) ≤ (16 - a0) := by omega
theorem oz1223 {a0 a1 a2 a3 : Int} (h0 : a0 < a1) (h1 : a2 = a1 - a3) (h2 : a3 = 1) : (-2147483648 : Int) ≤ a2 - a0 := by omega
theorem oz1224 {a0 a1 a2 a3 : Int} (h0 : a0 ≤ 5) (h1 : (0 : Int) ≤ a1) (h2 : a2 = a0 - a3) (h3 : a3 = 1) : a2 - a1 ≤ 2147483647 := by omega
theorem oz1227 {a0 a1 a2 : Int} (h0 : a0 ≤ a1) (h1 : a1 ≤ a2) (h2 : a0 = 1) (h3 : a2 = 5) : ((1 : Int) ≤ a1) ∧ (a1 ≤ 5) := by omega
theorem oz1228 {a0 : Int} (h0 : a0 = 0) : a0 < 32 := by omega
theorem oz1229 {a0 : Int} (h0 : a0 = 1) : a0 < 32 := by omega
theorem oz1230 {a0 a1 : Int} (h0 : a0 < a1) (h1 : a0 = 0) : a1 ≠ 0 := by omega
theorem oz1231 {a0 a1 a2 : Int} (h0 : a0 < a1) (h1 : a1 ≤ 99) (h2 : a2 = 1) : a0 + a2 ≤ 2147483647 := by omega
def w96_0 : kW := ([645, 3138, 3200, 3206, 3207, 3208, 3209, 3214, 3215, 3216, 3586, 3781, 6405], [13, 51, 52, 53, 54, 55, 57, 58, 62, 63, 65, 66, 67, 68, 69, 70, 71, 72, 73, 74, 75, 76, 77, 81, 82, 83, 84, 85, 86, 87, 88, 103], [], [1])
set_option maxRecDepth 100000 in
theorem kc96_0 {i : Nat → Int32} {a : Nat → List Int32} {q : Nat → List Int64} {r : Nat → Nat} (hI : kI i a q) (hr : kr r) (x1 : Int32) (x2 : Int32) : km 13 96 [.ref 0, .int x1, .int x2] (ks i a q r) (kVI w96_0 i a q r (fun v i1 a1 q1 r1 => True)) := by
  have hG := kG_self w96_0 hI hr
  refine km_ofI (q := (mi_h96, mi_c96)) rfl (by decide) (Nat.le_of_ble_eq_true rfl) ?_
  intro P hP
  refine ft_go mi_k96 3 3 [(0, .ref 0), (1, .int x1), (2, .int x2)] [.int 1, .int 0, .int x2] i a q r (by rfl) ?_
  refine ko_callPI mi_k96.1 (pc := 3) (ls := [(0, .ref 0), (1, .int x1), (2, .int x2)]) (st := [.int 1, .int 0, .int x2]) (h := ks i a q r) (i := (.invokestatic 74, 3, 120, 0, 9, 0, 152)) (mi_k96.2 _ _ (by rfl)) (ft_invS mi_pq120 (by rfl)) (cy := mi_c120) mi_pq120 rfl (kc120 hG.I hG.R x2 0 1) (by decide) ?_
  intro vg1 hg1
  rcases hg1 with ⟨eg1, hg1⟩ | ⟨eg1, hg1⟩
  ·
    subst eg1
    refine ft_go mi_k96 3 13 [(0, .ref 0), (1, .int x1), (2, .int x2)] [.int x1, .ref 0] i a q r (by rfl) ?_
    refine ko_callI mi_k96.1 (pc := 13) (ls := [(0, .ref 0), (1, .int x1), (2, .int x2)]) (st := [.int x1, .ref 0]) (h := ks i a q r) (i := (.invokevirtual 144, 3, 129, 0, 9, 0, 208)) (mi_k96.2 _ _ (by rfl)) (ft_invS mi_pq129 (by rfl)) (cy := mi_c129) mi_pq129 rfl (kc129_0 hG.I hG.R x1) (by decide) ?_
    intro vg3 ig3 ag3 qg3 rg3 kg3 hg3
    have hGg3 := kG_call hG kg3 (by decide +kernel)
    refine ft_go mi_k96 2 18 [(3, .int vg3), (0, .ref 0), (1, .int x1), (2, .int x2)] [.int vg3] ig3 ag3 qg3 rg3 (by rfl) ?_
    refine ft_if mi_k96 (decide (0 ≤ vg3)) 23 21 [(3, .int vg3), (0, .ref 0), (1, .int x1), (2, .int x2)] [] (by rfl) (fun c => ?_) (fun c => ?_)
    ·
      have c5 : (0 : Int32).toInt ≤ vg3.toInt := kd_le c; clear c
      refine ft_go mi_k96 4 31 [(3, .int vg3), (0, .ref 0), (1, .int x1), (2, .int x2)] [.ref 1, .ref 49] ig3 ag3 qg3 rg3 (by rfl) ?_
      refine ko_callN mi_k96.1 (pc := 31) (ls := [(3, .int vg3), (0, .ref 0), (1, .int x1), (2, .int x2)]) (st := [.ref 1, .ref 49]) (h := ks ig3 ag3 qg3 rg3) (i := (.invokevirtual 147, 3, 59, 0, 9, 0, 211)) (mi_k96.2 _ _ (by rfl)) (ft_invS mi_pq59 (by rfl)) (cy := mi_c59) mi_pq59 rfl (kc59_49_1 hGg3.I hGg3.R ) (by decide) ?_
      intro ig6 ag6 qg6 rg6 kg6 hg6
      have hGg6 := kG_call hGg3 kg6 (by decide +kernel)
      refine ft_go mi_k96 1 35 [(3, .int vg3), (0, .ref 0), (1, .int x1), (2, .int x2)] [.int x2] ig6 ag6 qg6 rg6 (by rfl) ?_
      refine ft_if mi_k96 (x2 != 0) 48 38 [(3, .int vg3), (0, .ref 0), (1, .int x1), (2, .int x2)] [] (by rfl) (fun c => ?_) (fun c => ?_)
      ·
        have c7 : x2.toInt ≠ (0 : Int32).toInt := kd_ne c; clear c
        refine ft_go mi_k96 4 56 [(3, .int vg3), (0, .ref 0), (1, .int x1), (2, .int x2)] [.ref 1, .ref 49] ig6 ag6 qg6 rg6 (by rfl) ?_
        refine ko_callPI mi_k96.1 (pc := 56) (ls := [(3, .int vg3), (0, .ref 0), (1, .int x1), (2, .int x2)]) (st := [.ref 1, .ref 49]) (h := ks ig6 ag6 qg6 rg6) (i := (.invokevirtual 210, 3, 72, 0, 9, 0, 258)) (mi_k96.2 _ _ (by rfl)) (ft_invS mi_pq72 (by rfl)) (cy := mi_c72) mi_pq72 rfl (kc72_49_1 hGg6.I hGg6.R ) (by decide) ?_
        intro vg8 hg8
        exact ft_ret mi_k96 (by rfl) (hP vg8 _ _ _ _ hGg6 trivial)
      ·
        have c9 : x2.toInt = (0 : Int32).toInt := kd_neF c; clear c
        refine ft_go mi_k96 2 42 [(3, .int vg3), (0, .ref 0), (1, .int x1), (2, .int x2)] [.ref 49] ig6 ag6 qg6 rg6 (by rfl) ?_
        refine ko_callI mi_k96.1 (pc := 42) (ls := [(3, .int vg3), (0, .ref 0), (1, .int x1), (2, .int x2)]) (st := [.ref 49]) (h := ks ig6 ag6 qg6 rg6) (i := (.invokevirtual 207, 3, 71, 0, 9, 0, 256)) (mi_k96.2 _ _ (by rfl)) (ft_invS mi_pq71 (by rfl)) (cy := mi_c71) mi_pq71 rfl (kc71_49 hGg6.I hGg6.R ) (by decide) ?_
        intro vg10 ig10 ag10 qg10 rg10 kg10 hg10
        have hGg10 := kG_call hGg6 kg10 (by decide +kernel)
        refine ft_go mi_k96 1 59 [(3, .int vg3), (0, .ref 0), (1, .int x1), (2, .int x2)] [.int vg10] ig10 ag10 qg10 rg10 (by rfl) ?_
        exact ft_ret mi_k96 (by rfl) (hP vg10 _ _ _ _ hGg10 trivial)
    ·
      have c11 : vg3.toInt < (0 : Int32).toInt := kd_leF c; clear c
      refine ft_go mi_k96 1 22 [(3, .int vg3), (0, .ref 0), (1, .int x1), (2, .int x2)] [.int vg3] ig3 ag3 qg3 rg3 (by rfl) ?_
      exact ft_ret mi_k96 (by rfl) (hP vg3 _ _ _ _ hGg3 trivial)
  ·
    subst eg1
    refine ft_go mi_k96 2 10 [(0, .ref 0), (1, .int x1), (2, .int x2)] [.int (-1)] i a q r (by rfl) ?_
    exact ft_ret mi_k96 (by rfl) (hP (-1) _ _ _ _ hG trivial)
set_option maxRecDepth 100000 in
theorem kc122 {i : Nat → Int32} {a : Nat → List Int32} {q : Nat → List Int64} {r : Nat → Nat} (hI : kI i a q) (hr : kr r) (x1 : Int32) : km 5 122 [.int x1] (ks i a q r) (kPI (ks i a q r) (fun v => (v = 1 ∧ (((0 : Int) ≤ x1.toInt) ∧ (((0 : Int) ≤ (x1.toInt / 10)) ∧ ((x1.toInt / 10) ≤ 5)) ∧ ((x1.toInt % 10) ≤ 5))) ∨ (v = 0 ∧ (¬ (((0 : Int) ≤ x1.toInt) ∧ (((0 : Int) ≤ (x1.toInt / 10)) ∧ ((x1.toInt / 10) ≤ 5)) ∧ ((x1.toInt % 10) ≤ 5)))))) := by
  have hG := kG_self kW0 hI hr
  refine km_ofPI (q := (mi_h122, mi_c122)) rfl (by decide) (Nat.le_of_ble_eq_true rfl) ?_
  intro P hP
  refine ft_go mi_k122 1 1 [(0, .int x1)] [.int x1] i a q r (by rfl) ?_
  refine ft_if mi_k122 (decide (x1 < 0)) 28 4 [(0, .int x1)] [] (by rfl) (fun c => ?_) (fun c => ?_)
  ·
    have c1 : x1.toInt < (0 : Int32).toInt := kd_lt c; clear c
    refine ft_go mi_k122 1 29 [(0, .int x1)] [.int 0] i a q r (by rfl) ?_
    exact ft_ret mi_k122 (by rfl) (hP 0 (Or.inr ⟨rfl, (oz495 c1 kn0)⟩))
  ·
    have c2 : (0 : Int32).toInt ≤ x1.toInt := kd_ltF c; clear c
    have s3 : (x1 / 10).toInt = (x1.toInt / 10) := kd_div 10 kn10 (by decide) (oz389 c2 kn0)
    refine ft_go mi_k122 3 8 [(0, .int x1)] [.int (x1 / 10)] i a q r (by rfl) ?_
    refine ko_callPI mi_k122.1 (pc := 8) (ls := [(0, .int x1)]) (st := [.int (x1 / 10)]) (h := ks i a q r) (i := (.invokestatic 70, 3, 121, 0, 9, 0, 157)) (mi_k122.2 _ _ (by rfl)) (ft_invS mi_pq121 (by rfl)) (cy := mi_c121) mi_pq121 rfl (kc121 hG.I hG.R (x1 / 10)) (by decide) ?_
    intro vg4 hg4
    rcases hg4 with ⟨eg4, hg4⟩ | ⟨eg4, hg4⟩
    ·
      subst eg4
      have z5 : ((0 : Int) ≤ (x1 / 10).toInt) ∧ ((x1 / 10).toInt ≤ 5) := hg4
      have s6 : (x1 - x1 / 10 * 10).toInt = (x1.toInt % 10) := kd_rem 10 kn10 (by decide) (oz389 c2 kn0)
      refine ft_go mi_k122 4 18 [(0, .int x1)] [.int (x1 - x1 / 10 * 10)] i a q r (by rfl) ?_
      refine ko_callPI mi_k122.1 (pc := 18) (ls := [(0, .int x1)]) (st := [.int (x1 - x1 / 10 * 10)]) (h := ks i a q r) (i := (.invokestatic 70, 3, 121, 0, 9, 0, 157)) (mi_k122.2 _ _ (by rfl)) (ft_invS mi_pq121 (by rfl)) (cy := mi_c121) mi_pq121 rfl (kc121 hG.I hG.R (x1 - x1 / 10 * 10)) (by decide) ?_
      intro vg7 hg7
      rcases hg7 with ⟨eg7, hg7⟩ | ⟨eg7, hg7⟩
      ·
        subst eg7
        have z8 : ((0 : Int) ≤ (x1 - x1 / 10 * 10).toInt) ∧ ((x1 - x1 / 10 * 10).toInt ≤ 5) := hg7
        refine ft_go mi_k122 3 29 [(0, .int x1)] [.int 1] i a q r (by rfl) ?_
        exact ft_ret mi_k122 (by rfl) (hP 1 (Or.inl ⟨rfl, (oz496 c2 s3 s6 z5.1 z5.2 z8.2 kn0)⟩))
      ·
        subst eg7
        have z9 : ¬ (((0 : Int) ≤ (x1 - x1 / 10 * 10).toInt) ∧ ((x1 - x1 / 10 * 10).toInt ≤ 5)) := hg7
        refine ft_go mi_k122 2 29 [(0, .int x1)] [.int 0] i a q r (by rfl) ?_
        exact ft_ret mi_k122 (by rfl) (hP 0 (Or.inr ⟨rfl, (oz497 s6 z9)⟩))
    ·
      subst eg4
      have z10 : ¬ (((0 : Int) ≤ (x1 / 10).toInt) ∧ ((x1 / 10).toInt ≤ 5)) := hg4
      refine ft_go mi_k122 2 29 [(0, .int x1)] [.int 0] i a q r (by rfl) ?_
      exact ft_ret mi_k122 (by rfl) (hP 0 (Or.inr ⟨rfl, (oz498 c2 s3 z10 kn0)⟩))
set_option maxRecDepth 100000 in
theorem kc73_49_104 {i : Nat → Int32} {a : Nat → List Int32} {q : Nat → List Int64} {r : Nat → Nat} (hI : kI i a q) (hr : kr r)  : km 1 73 [.ref 49, .ref 104] (ks i a q r) (kPI (ks i a q r) (fun v => True)) := by
  have hG := kG_self kW0 hI hr
  refine km_ofPI (q := (mi_h73, mi_c73)) rfl (by decide) (Nat.le_of_ble_eq_true rfl) ?_
  intro P hP
  refine ft_go mi_k73 2 2 [(2, .int 0), (0, .ref 49), (1, .ref 104)] [] i a q r (by rfl) ?_
  have lp1 : ∀ (nz : Nat) (l2_1 : Int32), (0 : Int) ≤ l2_1.toInt → (((i 6659).toInt - l2_1.toInt)).toNat < nz → ko 1 (mi_h73, mi_c73) P (2, [(2, .int l2_1), (0, .ref 49), (1, .ref 104)], [], (0, 0), ks i a q r) := by
    intro nz
    induction nz with
    | zero =>
      intro _ _ hm
      exact absurd hm (Nat.not_lt_zero _)
    | succ nz ih1 =>
      intro l2_1 p1_0 hm1
      have fi_6659 : ((0 : Int) ≤ (i 6659).toInt) ∧ ((i 6659).toInt ≤ 60) := hG.I.1 6659
      refine ft_go mi_k73 3 7 [(2, .int l2_1), (0, .ref 49), (1, .ref 104)] [.int (i 6659), .int l2_1] i a q r (by rfl) ?_
      refine ft_if mi_k73 (decide ((i 6659) ≤ l2_1)) 56 10 [(2, .int l2_1), (0, .ref 49), (1, .ref 104)] [] (by rfl) (fun c => ?_) (fun c => ?_)
      ·
        have c2 : (i 6659).toInt ≤ l2_1.toInt := kd_le c; clear c
        refine ft_go mi_k73 1 58 [(2, .int l2_1), (0, .ref 49), (1, .ref 104)] [.int (-2)] i a q r (by rfl) ?_
        exact ft_ret mi_k73 (by rfl) (hP (-2) trivial)
      ·
        have c3 : l2_1.toInt < (i 6659).toInt := kd_leF c; clear c
        have fi_3138 : ((0 : Int) ≤ (i 3138).toInt) ∧ ((i 3138).toInt ≤ 20) := hG.I.1 3138
        refine ft_go mi_k73 3 15 [(2, .int l2_1), (0, .ref 49), (1, .ref 104)] [.int (i 3138), .int l2_1] i a q r (by rfl) ?_
        refine ft_if mi_k73 (decide ((i 3138) ≤ l2_1)) 48 18 [(2, .int l2_1), (0, .ref 49), (1, .ref 104)] [] (by rfl) (fun c => ?_) (fun c => ?_)
        ·
          have c4 : (i 3138).toInt ≤ l2_1.toInt := kd_le c; clear c
          refine ft_go mi_k73 1 49 [(2, .int l2_1), (0, .ref 49), (1, .ref 104)] [.int l2_1] i a q r (by rfl) ?_
          exact ft_ret mi_k73 (by rfl) (hP l2_1 trivial)
        ·
          have c5 : l2_1.toInt < (i 3138).toInt := kd_leF c; clear c
          refine ft_go mi_k73 3 23 [(2, .int l2_1), (0, .ref 49), (1, .ref 104)] [.int l2_1, .ref 105] i a q r (by rfl) ?_
          refine ko_lald2 mi_k73.1 (l := q 105) (n := 60) (c := 60) (ax := (0, 0, 0, 0, 0)) (mi_k73.2 _ _ (by rfl)) (by rfl) (by rfl) (hG.I.2.2.2 105) rfl (oz3 p1_0) (oz266 c3 fi_6659.2) ?_
          have s6 : (((lg_cmp ((q 105).getD l2_1.toNatClampNeg 0) 9).toInt < 0 ↔ ((q 105).getD l2_1.toNatClampNeg 0).toInt < (9 : Int64).toInt)) ∧ ((0 < (lg_cmp ((q 105).getD l2_1.toNatClampNeg 0) 9).toInt ↔ (9 : Int64).toInt < ((q 105).getD l2_1.toNatClampNeg 0).toInt)) := kl_cmp
          refine ft_go mi_k73 2 28 [(2, .int l2_1), (0, .ref 49), (1, .ref 104)] [.int (lg_cmp ((q 105).getD l2_1.toNatClampNeg 0) 9)] i a q r (by rfl) ?_
          refine ft_if mi_k73 ((lg_cmp ((q 105).getD l2_1.toNatClampNeg 0) 9) == 0) 50 31 [(2, .int l2_1), (0, .ref 49), (1, .ref 104)] [] (by rfl) (fun c => ?_) (fun c => ?_)
          ·
            have c7 : (lg_cmp ((q 105).getD l2_1.toNatClampNeg 0) 9).toInt = (0 : Int32).toInt := kd_eq c; clear c
            have s8 : (l2_1 + 1).toInt = l2_1.toInt + (1 : Int32).toInt := kd_add (oz12 p1_0 kn1) (oz307 c3 fi_6659.2 kn1)
            refine ft_go mi_k73 2 2 [(2, .int (l2_1 + 1)), (0, .ref 49), (1, .ref 104)] [] i a q r (by rfl) ?_
            exact ih1 _ (oz14 p1_0 s8 kn1) (kj_meas (oz44 s8 kn1) (oz45 c3) hm1)
          ·
            have c9 : (lg_cmp ((q 105).getD l2_1.toNatClampNeg 0) 9).toInt ≠ (0 : Int32).toInt := kd_eqF c; clear c
            refine ft_go mi_k73 3 36 [(2, .int l2_1), (0, .ref 49), (1, .ref 104)] [.int l2_1, .ref 105] i a q r (by rfl) ?_
            refine ko_lald2 mi_k73.1 (l := q 105) (n := 60) (c := 60) (ax := (0, 0, 0, 0, 0)) (mi_k73.2 _ _ (by rfl)) (by rfl) (by rfl) (hG.I.2.2.2 105) rfl (oz3 p1_0) (oz266 c3 fi_6659.2) ?_
            refine ft_go mi_k73 3 42 [(2, .int l2_1), (0, .ref 49), (1, .ref 104)] [.int l2_1, .ref 75, .long ((q 105).getD l2_1.toNatClampNeg 0)] i a q r (by rfl) ?_
            refine ko_iald3 mi_k73.1 (n := 20) (c := 20) (ax := (0, 0, 0, 0, 0)) (mi_k73.2 _ _ (by rfl)) (by rfl) (ksG75 _ _ _ _) (hG.I.2.1 75) rfl (oz3 p1_0) (oz1056 c5 fi_3138.2) ?_
            have b10 : ((-2147483648 : Int) ≤ ((a 75).getD l2_1.toNatClampNeg 0).toInt) ∧ (((a 75).getD l2_1.toNatClampNeg 0).toInt ≤ 2147483647) := kd_bd ((a 75).getD l2_1.toNatClampNeg 0)
            have s11 : (((a 75).getD l2_1.toNatClampNeg 0).toInt64).toInt = ((a 75).getD l2_1.toNatClampNeg 0).toInt := kl_i2l
            have s12 : (((lg_cmp ((q 105).getD l2_1.toNatClampNeg 0) (((a 75).getD l2_1.toNatClampNeg 0).toInt64)).toInt < 0 ↔ ((q 105).getD l2_1.toNatClampNeg 0).toInt < (((a 75).getD l2_1.toNatClampNeg 0).toInt64).toInt)) ∧ ((0 < (lg_cmp ((q 105).getD l2_1.toNatClampNeg 0) (((a 75).getD l2_1.toNatClampNeg 0).toInt64)).toInt ↔ (((a 75).getD l2_1.toNatClampNeg 0).toInt64).toInt < ((q 105).getD l2_1.toNatClampNeg 0).toInt)) := kl_cmp
            refine ft_go mi_k73 2 45 [(2, .int l2_1), (0, .ref 49), (1, .ref 104)] [.int (lg_cmp ((q 105).getD l2_1.toNatClampNeg 0) (((a 75).getD l2_1.toNatClampNeg 0).toInt64))] i a q r (by rfl) ?_
            refine ft_if mi_k73 ((lg_cmp ((q 105).getD l2_1.toNatClampNeg 0) (((a 75).getD l2_1.toNatClampNeg 0).toInt64)) == 0) 50 48 [(2, .int l2_1), (0, .ref 49), (1, .ref 104)] [] (by rfl) (fun c => ?_) (fun c => ?_)
            ·
              have c13 : (lg_cmp ((q 105).getD l2_1.toNatClampNeg 0) (((a 75).getD l2_1.toNatClampNeg 0).toInt64)).toInt = (0 : Int32).toInt := kd_eq c; clear c
              have s14 : (l2_1 + 1).toInt = l2_1.toInt + (1 : Int32).toInt := kd_add (oz12 p1_0 kn1) (oz307 c3 fi_6659.2 kn1)
              refine ft_go mi_k73 2 2 [(2, .int (l2_1 + 1)), (0, .ref 49), (1, .ref 104)] [] i a q r (by rfl) ?_
              exact ih1 _ (oz14 p1_0 s14 kn1) (kj_meas (oz44 s14 kn1) (oz45 c3) hm1)
            ·
              have c15 : (lg_cmp ((q 105).getD l2_1.toNatClampNeg 0) (((a 75).getD l2_1.toNatClampNeg 0).toInt64)).toInt ≠ (0 : Int32).toInt := kd_eqF c; clear c
              refine ft_go mi_k73 1 49 [(2, .int l2_1), (0, .ref 49), (1, .ref 104)] [.int l2_1] i a q r (by rfl) ?_
              exact ft_ret mi_k73 (by rfl) (hP l2_1 trivial)
  exact lp1 _ _ (oz46 kn0) (Nat.lt_succ_self _)
set_option maxRecDepth 100000 in
theorem kc73_49_106 {i : Nat → Int32} {a : Nat → List Int32} {q : Nat → List Int64} {r : Nat → Nat} (hI : kI i a q) (hr : kr r)  : km 1 73 [.ref 49, .ref 106] (ks i a q r) (kPI (ks i a q r) (fun v => True)) := by
  have hG := kG_self kW0 hI hr
  refine km_ofPI (q := (mi_h73, mi_c73)) rfl (by decide) (Nat.le_of_ble_eq_true rfl) ?_
  intro P hP
  refine ft_go mi_k73 2 2 [(2, .int 0), (0, .ref 49), (1, .ref 106)] [] i a q r (by rfl) ?_
  have lp1 : ∀ (nz : Nat) (l2_1 : Int32), (0 : Int) ≤ l2_1.toInt → (((i 6787).toInt - l2_1.toInt)).toNat < nz → ko 1 (mi_h73, mi_c73) P (2, [(2, .int l2_1), (0, .ref 49), (1, .ref 106)], [], (0, 0), ks i a q r) := by
    intro nz
    induction nz with
    | zero =>
      intro _ _ hm
      exact absurd hm (Nat.not_lt_zero _)
    | succ nz ih1 =>
      intro l2_1 p1_0 hm1
      have fi_6787 : ((0 : Int) ≤ (i 6787).toInt) ∧ ((i 6787).toInt ≤ 60) := hG.I.1 6787
      refine ft_go mi_k73 3 7 [(2, .int l2_1), (0, .ref 49), (1, .ref 106)] [.int (i 6787), .int l2_1] i a q r (by rfl) ?_
      refine ft_if mi_k73 (decide ((i 6787) ≤ l2_1)) 56 10 [(2, .int l2_1), (0, .ref 49), (1, .ref 106)] [] (by rfl) (fun c => ?_) (fun c => ?_)
      ·
        have c2 : (i 6787).toInt ≤ l2_1.toInt := kd_le c; clear c
        refine ft_go mi_k73 1 58 [(2, .int l2_1), (0, .ref 49), (1, .ref 106)] [.int (-2)] i a q r (by rfl) ?_
        exact ft_ret mi_k73 (by rfl) (hP (-2) trivial)
      ·
        have c3 : l2_1.toInt < (i 6787).toInt := kd_leF c; clear c
        have fi_3138 : ((0 : Int) ≤ (i 3138).toInt) ∧ ((i 3138).toInt ≤ 20) := hG.I.1 3138
        refine ft_go mi_k73 3 15 [(2, .int l2_1), (0, .ref 49), (1, .ref 106)] [.int (i 3138), .int l2_1] i a q r (by rfl) ?_
        refine ft_if mi_k73 (decide ((i 3138) ≤ l2_1)) 48 18 [(2, .int l2_1), (0, .ref 49), (1, .ref 106)] [] (by rfl) (fun c => ?_) (fun c => ?_)
        ·
          have c4 : (i 3138).toInt ≤ l2_1.toInt := kd_le c; clear c
          refine ft_go mi_k73 1 49 [(2, .int l2_1), (0, .ref 49), (1, .ref 106)] [.int l2_1] i a q r (by rfl) ?_
          exact ft_ret mi_k73 (by rfl) (hP l2_1 trivial)
        ·
          have c5 : l2_1.toInt < (i 3138).toInt := kd_leF c; clear c
          refine ft_go mi_k73 3 23 [(2, .int l2_1), (0, .ref 49), (1, .ref 106)] [.int l2_1, .ref 107] i a q r (by rfl) ?_
          refine ko_lald2 mi_k73.1 (l := q 107) (n := 60) (c := 60) (ax := (0, 0, 0, 0, 0)) (mi_k73.2 _ _ (by rfl)) (by rfl) (by rfl) (hG.I.2.2.2 107) rfl (oz3 p1_0) (oz266 c3 fi_6787.2) ?_
          have s6 : (((lg_cmp ((q 107).getD l2_1.toNatClampNeg 0) 9).toInt < 0 ↔ ((q 107).getD l2_1.toNatClampNeg 0).toInt < (9 : Int64).toInt)) ∧ ((0 < (lg_cmp ((q 107).getD l2_1.toNatClampNeg 0) 9).toInt ↔ (9 : Int64).toInt < ((q 107).getD l2_1.toNatClampNeg 0).toInt)) := kl_cmp
          refine ft_go mi_k73 2 28 [(2, .int l2_1), (0, .ref 49), (1, .ref 106)] [.int (lg_cmp ((q 107).getD l2_1.toNatClampNeg 0) 9)] i a q r (by rfl) ?_
          refine ft_if mi_k73 ((lg_cmp ((q 107).getD l2_1.toNatClampNeg 0) 9) == 0) 50 31 [(2, .int l2_1), (0, .ref 49), (1, .ref 106)] [] (by rfl) (fun c => ?_) (fun c => ?_)
          ·
            have c7 : (lg_cmp ((q 107).getD l2_1.toNatClampNeg 0) 9).toInt = (0 : Int32).toInt := kd_eq c; clear c
            have s8 : (l2_1 + 1).toInt = l2_1.toInt + (1 : Int32).toInt := kd_add (oz12 p1_0 kn1) (oz307 c3 fi_6787.2 kn1)
            refine ft_go mi_k73 2 2 [(2, .int (l2_1 + 1)), (0, .ref 49), (1, .ref 106)] [] i a q r (by rfl) ?_
            exact ih1 _ (oz14 p1_0 s8 kn1) (kj_meas (oz44 s8 kn1) (oz45 c3) hm1)
          ·
            have c9 : (lg_cmp ((q 107).getD l2_1.toNatClampNeg 0) 9).toInt ≠ (0 : Int32).toInt := kd_eqF c; clear c
            refine ft_go mi_k73 3 36 [(2, .int l2_1), (0, .ref 49), (1, .ref 106)] [.int l2_1, .ref 107] i a q r (by rfl) ?_
            refine ko_lald2 mi_k73.1 (l := q 107) (n := 60) (c := 60) (ax := (0, 0, 0, 0, 0)) (mi_k73.2 _ _ (by rfl)) (by rfl) (by rfl) (hG.I.2.2.2 107) rfl (oz3 p1_0) (oz266 c3 fi_6787.2) ?_
            refine ft_go mi_k73 3 42 [(2, .int l2_1), (0, .ref 49), (1, .ref 106)] [.int l2_1, .ref 75, .long ((q 107).getD l2_1.toNatClampNeg 0)] i a q r (by rfl) ?_
            refine ko_iald3 mi_k73.1 (n := 20) (c := 20) (ax := (0, 0, 0, 0, 0)) (mi_k73.2 _ _ (by rfl)) (by rfl) (ksG75 _ _ _ _) (hG.I.2.1 75) rfl (oz3 p1_0) (oz1056 c5 fi_3138.2) ?_
            have b10 : ((-2147483648 : Int) ≤ ((a 75).getD l2_1.toNatClampNeg 0).toInt) ∧ (((a 75).getD l2_1.toNatClampNeg 0).toInt ≤ 2147483647) := kd_bd ((a 75).getD l2_1.toNatClampNeg 0)
            have s11 : (((a 75).getD l2_1.toNatClampNeg 0).toInt64).toInt = ((a 75).getD l2_1.toNatClampNeg 0).toInt := kl_i2l
            have s12 : (((lg_cmp ((q 107).getD l2_1.toNatClampNeg 0) (((a 75).getD l2_1.toNatClampNeg 0).toInt64)).toInt < 0 ↔ ((q 107).getD l2_1.toNatClampNeg 0).toInt < (((a 75).getD l2_1.toNatClampNeg 0).toInt64).toInt)) ∧ ((0 < (lg_cmp ((q 107).getD l2_1.toNatClampNeg 0) (((a 75).getD l2_1.toNatClampNeg 0).toInt64)).toInt ↔ (((a 75).getD l2_1.toNatClampNeg 0).toInt64).toInt < ((q 107).getD l2_1.toNatClampNeg 0).toInt)) := kl_cmp
            refine ft_go mi_k73 2 45 [(2, .int l2_1), (0, .ref 49), (1, .ref 106)] [.int (lg_cmp ((q 107).getD l2_1.toNatClampNeg 0) (((a 75).getD l2_1.toNatClampNeg 0).toInt64))] i a q r (by rfl) ?_
            refine ft_if mi_k73 ((lg_cmp ((q 107).getD l2_1.toNatClampNeg 0) (((a 75).getD l2_1.toNatClampNeg 0).toInt64)) == 0) 50 48 [(2, .int l2_1), (0, .ref 49), (1, .ref 106)] [] (by rfl) (fun c => ?_) (fun c => ?_)
            ·
              have c13 : (lg_cmp ((q 107).getD l2_1.toNatClampNeg 0) (((a 75).getD l2_1.toNatClampNeg 0).toInt64)).toInt = (0 : Int32).toInt := kd_eq c; clear c
              have s14 : (l2_1 + 1).toInt = l2_1.toInt + (1 : Int32).toInt := kd_add (oz12 p1_0 kn1) (oz307 c3 fi_6787.2 kn1)
              refine ft_go mi_k73 2 2 [(2, .int (l2_1 + 1)), (0, .ref 49), (1, .ref 106)] [] i a q r (by rfl) ?_
              exact ih1 _ (oz14 p1_0 s14 kn1) (kj_meas (oz44 s14 kn1) (oz45 c3) hm1)
            ·
              have c15 : (lg_cmp ((q 107).getD l2_1.toNatClampNeg 0) (((a 75).getD l2_1.toNatClampNeg 0).toInt64)).toInt ≠ (0 : Int32).toInt := kd_eqF c; clear c
              refine ft_go mi_k73 1 49 [(2, .int l2_1), (0, .ref 49), (1, .ref 106)] [.int l2_1] i a q r (by rfl) ?_
              exact ft_ret mi_k73 (by rfl) (hP l2_1 trivial)
  exact lp1 _ _ (oz46 kn0) (Nat.lt_succ_self _)
set_option maxRecDepth 100000 in
theorem kc73_49_108 {i : Nat → Int32} {a : Nat → List Int32} {q : Nat → List Int64} {r : Nat → Nat} (hI : kI i a q) (hr : kr r)  : km 1 73 [.ref 49, .ref 108] (ks i a q r) (kPI (ks i a q r) (fun v => True)) := by
  have hG := kG_self kW0 hI hr
  refine km_ofPI (q := (mi_h73, mi_c73)) rfl (by decide) (Nat.le_of_ble_eq_true rfl) ?_
  intro P hP
  refine ft_go mi_k73 2 2 [(2, .int 0), (0, .ref 49), (1, .ref 108)] [] i a q r (by rfl) ?_
  have lp1 : ∀ (nz : Nat) (l2_1 : Int32), (0 : Int) ≤ l2_1.toInt → (((i 6915).toInt - l2_1.toInt)).toNat < nz → ko 1 (mi_h73, mi_c73) P (2, [(2, .int l2_1), (0, .ref 49), (1, .ref 108)], [], (0, 0), ks i a q r) := by
    intro nz
    induction nz with
    | zero =>
      intro _ _ hm
      exact absurd hm (Nat.not_lt_zero _)
    | succ nz ih1 =>
      intro l2_1 p1_0 hm1
      have fi_6915 : ((0 : Int) ≤ (i 6915).toInt) ∧ ((i 6915).toInt ≤ 60) := hG.I.1 6915
      refine ft_go mi_k73 3 7 [(2, .int l2_1), (0, .ref 49), (1, .ref 108)] [.int (i 6915), .int l2_1] i a q r (by rfl) ?_
      refine ft_if mi_k73 (decide ((i 6915) ≤ l2_1)) 56 10 [(2, .int l2_1), (0, .ref 49), (1, .ref 108)] [] (by rfl) (fun c => ?_) (fun c => ?_)
      ·
        have c2 : (i 6915).toInt ≤ l2_1.toInt := kd_le c; clear c
        refine ft_go mi_k73 1 58 [(2, .int l2_1), (0, .ref 49), (1, .ref 108)] [.int (-2)] i a q r (by rfl) ?_
        exact ft_ret mi_k73 (by rfl) (hP (-2) trivial)
      ·
        have c3 : l2_1.toInt < (i 6915).toInt := kd_leF c; clear c
        have fi_3138 : ((0 : Int) ≤ (i 3138).toInt) ∧ ((i 3138).toInt ≤ 20) := hG.I.1 3138
        refine ft_go mi_k73 3 15 [(2, .int l2_1), (0, .ref 49), (1, .ref 108)] [.int (i 3138), .int l2_1] i a q r (by rfl) ?_
        refine ft_if mi_k73 (decide ((i 3138) ≤ l2_1)) 48 18 [(2, .int l2_1), (0, .ref 49), (1, .ref 108)] [] (by rfl) (fun c => ?_) (fun c => ?_)
        ·
          have c4 : (i 3138).toInt ≤ l2_1.toInt := kd_le c; clear c
          refine ft_go mi_k73 1 49 [(2, .int l2_1), (0, .ref 49), (1, .ref 108)] [.int l2_1] i a q r (by rfl) ?_
          exact ft_ret mi_k73 (by rfl) (hP l2_1 trivial)
        ·
          have c5 : l2_1.toInt < (i 3138).toInt := kd_leF c; clear c
          refine ft_go mi_k73 3 23 [(2, .int l2_1), (0, .ref 49), (1, .ref 108)] [.int l2_1, .ref 109] i a q r (by rfl) ?_
          refine ko_lald2 mi_k73.1 (l := q 109) (n := 60) (c := 60) (ax := (0, 0, 0, 0, 0)) (mi_k73.2 _ _ (by rfl)) (by rfl) (by rfl) (hG.I.2.2.2 109) rfl (oz3 p1_0) (oz266 c3 fi_6915.2) ?_
          have s6 : (((lg_cmp ((q 109).getD l2_1.toNatClampNeg 0) 9).toInt < 0 ↔ ((q 109).getD l2_1.toNatClampNeg 0).toInt < (9 : Int64).toInt)) ∧ ((0 < (lg_cmp ((q 109).getD l2_1.toNatClampNeg 0) 9).toInt ↔ (9 : Int64).toInt < ((q 109).getD l2_1.toNatClampNeg 0).toInt)) := kl_cmp
          refine ft_go mi_k73 2 28 [(2, .int l2_1), (0, .ref 49), (1, .ref 108)] [.int (lg_cmp ((q 109).getD l2_1.toNatClampNeg 0) 9)] i a q r (by rfl) ?_
          refine ft_if mi_k73 ((lg_cmp ((q 109).getD l2_1.toNatClampNeg 0) 9) == 0) 50 31 [(2, .int l2_1), (0, .ref 49), (1, .ref 108)] [] (by rfl) (fun c => ?_) (fun c => ?_)
          ·
            have c7 : (lg_cmp ((q 109).getD l2_1.toNatClampNeg 0) 9).toInt = (0 : Int32).toInt := kd_eq c; clear c
            have s8 : (l2_1 + 1).toInt = l2_1.toInt + (1 : Int32).toInt := kd_add (oz12 p1_0 kn1) (oz307 c3 fi_6915.2 kn1)
            refine ft_go mi_k73 2 2 [(2, .int (l2_1 + 1)), (0, .ref 49), (1, .ref 108)] [] i a q r (by rfl) ?_
            exact ih1 _ (oz14 p1_0 s8 kn1) (kj_meas (oz44 s8 kn1) (oz45 c3) hm1)
          ·
            have c9 : (lg_cmp ((q 109).getD l2_1.toNatClampNeg 0) 9).toInt ≠ (0 : Int32).toInt := kd_eqF c; clear c
            refine ft_go mi_k73 3 36 [(2, .int l2_1), (0, .ref 49), (1, .ref 108)] [.int l2_1, .ref 109] i a q r (by rfl) ?_
            refine ko_lald2 mi_k73.1 (l := q 109) (n := 60) (c := 60) (ax := (0, 0, 0, 0, 0)) (mi_k73.2 _ _ (by rfl)) (by rfl) (by rfl) (hG.I.2.2.2 109) rfl (oz3 p1_0) (oz266 c3 fi_6915.2) ?_
            refine ft_go mi_k73 3 42 [(2, .int l2_1), (0, .ref 49), (1, .ref 108)] [.int l2_1, .ref 75, .long ((q 109).getD l2_1.toNatClampNeg 0)] i a q r (by rfl) ?_
            refine ko_iald3 mi_k73.1 (n := 20) (c := 20) (ax := (0, 0, 0, 0, 0)) (mi_k73.2 _ _ (by rfl)) (by rfl) (ksG75 _ _ _ _) (hG.I.2.1 75) rfl (oz3 p1_0) (oz1056 c5 fi_3138.2) ?_
            have b10 : ((-2147483648 : Int) ≤ ((a 75).getD l2_1.toNatClampNeg 0).toInt) ∧ (((a 75).getD l2_1.toNatClampNeg 0).toInt ≤ 2147483647) := kd_bd ((a 75).getD l2_1.toNatClampNeg 0)
            have s11 : (((a 75).getD l2_1.toNatClampNeg 0).toInt64).toInt = ((a 75).getD l2_1.toNatClampNeg 0).toInt := kl_i2l
            have s12 : (((lg_cmp ((q 109).getD l2_1.toNatClampNeg 0) (((a 75).getD l2_1.toNatClampNeg 0).toInt64)).toInt < 0 ↔ ((q 109).getD l2_1.toNatClampNeg 0).toInt < (((a 75).getD l2_1.toNatClampNeg 0).toInt64).toInt)) ∧ ((0 < (lg_cmp ((q 109).getD l2_1.toNatClampNeg 0) (((a 75).getD l2_1.toNatClampNeg 0).toInt64)).toInt ↔ (((a 75).getD l2_1.toNatClampNeg 0).toInt64).toInt < ((q 109).getD l2_1.toNatClampNeg 0).toInt)) := kl_cmp
            refine ft_go mi_k73 2 45 [(2, .int l2_1), (0, .ref 49), (1, .ref 108)] [.int (lg_cmp ((q 109).getD l2_1.toNatClampNeg 0) (((a 75).getD l2_1.toNatClampNeg 0).toInt64))] i a q r (by rfl) ?_
            refine ft_if mi_k73 ((lg_cmp ((q 109).getD l2_1.toNatClampNeg 0) (((a 75).getD l2_1.toNatClampNeg 0).toInt64)) == 0) 50 48 [(2, .int l2_1), (0, .ref 49), (1, .ref 108)] [] (by rfl) (fun c => ?_) (fun c => ?_)
            ·
              have c13 : (lg_cmp ((q 109).getD l2_1.toNatClampNeg 0) (((a 75).getD l2_1.toNatClampNeg 0).toInt64)).toInt = (0 : Int32).toInt := kd_eq c; clear c
              have s14 : (l2_1 + 1).toInt = l2_1.toInt + (1 : Int32).toInt := kd_add (oz12 p1_0 kn1) (oz307 c3 fi_6915.2 kn1)
              refine ft_go mi_k73 2 2 [(2, .int (l2_1 + 1)), (0, .ref 49), (1, .ref 108)] [] i a q r (by rfl) ?_
              exact ih1 _ (oz14 p1_0 s14 kn1) (kj_meas (oz44 s14 kn1) (oz45 c3) hm1)
            ·
              have c15 : (lg_cmp ((q 109).getD l2_1.toNatClampNeg 0) (((a 75).getD l2_1.toNatClampNeg 0).toInt64)).toInt ≠ (0 : Int32).toInt := kd_eqF c; clear c
              refine ft_go mi_k73 1 49 [(2, .int l2_1), (0, .ref 49), (1, .ref 108)] [.int l2_1] i a q r (by rfl) ?_
              exact ft_ret mi_k73 (by rfl) (hP l2_1 trivial)
  exact lp1 _ _ (oz46 kn0) (Nat.lt_succ_self _)
set_option maxRecDepth 100000 in
theorem kc73_49_110 {i : Nat → Int32} {a : Nat → List Int32} {q : Nat → List Int64} {r : Nat → Nat} (hI : kI i a q) (hr : kr r)  : km 1 73 [.ref 49, .ref 110] (ks i a q r) (kPI (ks i a q r) (fun v => True)) := by
  have hG := kG_self kW0 hI hr
  refine km_ofPI (q := (mi_h73, mi_c73)) rfl (by decide) (Nat.le_of_ble_eq_true rfl) ?_
  intro P hP
  refine ft_go mi_k73 2 2 [(2, .int 0), (0, .ref 49), (1, .ref 110)] [] i a q r (by rfl) ?_
  have lp1 : ∀ (nz : Nat) (l2_1 : Int32), (0 : Int) ≤ l2_1.toInt → (((i 7043).toInt - l2_1.toInt)).toNat < nz → ko 1 (mi_h73, mi_c73) P (2, [(2, .int l2_1), (0, .ref 49), (1, .ref 110)], [], (0, 0), ks i a q r) := by
    intro nz
    induction nz with
    | zero =>
      intro _ _ hm
      exact absurd hm (Nat.not_lt_zero _)
    | succ nz ih1 =>
      intro l2_1 p1_0 hm1
      have fi_7043 : ((0 : Int) ≤ (i 7043).toInt) ∧ ((i 7043).toInt ≤ 60) := hG.I.1 7043
      refine ft_go mi_k73 3 7 [(2, .int l2_1), (0, .ref 49), (1, .ref 110)] [.int (i 7043), .int l2_1] i a q r (by rfl) ?_
      refine ft_if mi_k73 (decide ((i 7043) ≤ l2_1)) 56 10 [(2, .int l2_1), (0, .ref 49), (1, .ref 110)] [] (by rfl) (fun c => ?_) (fun c => ?_)
      ·
        have c2 : (i 7043).toInt ≤ l2_1.toInt := kd_le c; clear c
        refine ft_go mi_k73 1 58 [(2, .int l2_1), (0, .ref 49), (1, .ref 110)] [.int (-2)] i a q r (by rfl) ?_
        exact ft_ret mi_k73 (by rfl) (hP (-2) trivial)
      ·
        have c3 : l2_1.toInt < (i 7043).toInt := kd_leF c; clear c
        have fi_3138 : ((0 : Int) ≤ (i 3138).toInt) ∧ ((i 3138).toInt ≤ 20) := hG.I.1 3138
        refine ft_go mi_k73 3 15 [(2, .int l2_1), (0, .ref 49), (1, .ref 110)] [.int (i 3138), .int l2_1] i a q r (by rfl) ?_
        refine ft_if mi_k73 (decide ((i 3138) ≤ l2_1)) 48 18 [(2, .int l2_1), (0, .ref 49), (1, .ref 110)] [] (by rfl) (fun c => ?_) (fun c => ?_)
        ·
          have c4 : (i 3138).toInt ≤ l2_1.toInt := kd_le c; clear c
          refine ft_go mi_k73 1 49 [(2, .int l2_1), (0, .ref 49), (1, .ref 110)] [.int l2_1] i a q r (by rfl) ?_
          exact ft_ret mi_k73 (by rfl) (hP l2_1 trivial)
        ·
          have c5 : l2_1.toInt < (i 3138).toInt := kd_leF c; clear c
          refine ft_go mi_k73 3 23 [(2, .int l2_1), (0, .ref 49), (1, .ref 110)] [.int l2_1, .ref 111] i a q r (by rfl) ?_
          refine ko_lald2 mi_k73.1 (l := q 111) (n := 60) (c := 60) (ax := (0, 0, 0, 0, 0)) (mi_k73.2 _ _ (by rfl)) (by rfl) (by rfl) (hG.I.2.2.2 111) rfl (oz3 p1_0) (oz266 c3 fi_7043.2) ?_
          have s6 : (((lg_cmp ((q 111).getD l2_1.toNatClampNeg 0) 9).toInt < 0 ↔ ((q 111).getD l2_1.toNatClampNeg 0).toInt < (9 : Int64).toInt)) ∧ ((0 < (lg_cmp ((q 111).getD l2_1.toNatClampNeg 0) 9).toInt ↔ (9 : Int64).toInt < ((q 111).getD l2_1.toNatClampNeg 0).toInt)) := kl_cmp
          refine ft_go mi_k73 2 28 [(2, .int l2_1), (0, .ref 49), (1, .ref 110)] [.int (lg_cmp ((q 111).getD l2_1.toNatClampNeg 0) 9)] i a q r (by rfl) ?_
          refine ft_if mi_k73 ((lg_cmp ((q 111).getD l2_1.toNatClampNeg 0) 9) == 0) 50 31 [(2, .int l2_1), (0, .ref 49), (1, .ref 110)] [] (by rfl) (fun c => ?_) (fun c => ?_)
          ·
            have c7 : (lg_cmp ((q 111).getD l2_1.toNatClampNeg 0) 9).toInt = (0 : Int32).toInt := kd_eq c; clear c
            have s8 : (l2_1 + 1).toInt = l2_1.toInt + (1 : Int32).toInt := kd_add (oz12 p1_0 kn1) (oz307 c3 fi_7043.2 kn1)
            refine ft_go mi_k73 2 2 [(2, .int (l2_1 + 1)), (0, .ref 49), (1, .ref 110)] [] i a q r (by rfl) ?_
            exact ih1 _ (oz14 p1_0 s8 kn1) (kj_meas (oz44 s8 kn1) (oz45 c3) hm1)
          ·
            have c9 : (lg_cmp ((q 111).getD l2_1.toNatClampNeg 0) 9).toInt ≠ (0 : Int32).toInt := kd_eqF c; clear c
            refine ft_go mi_k73 3 36 [(2, .int l2_1), (0, .ref 49), (1, .ref 110)] [.int l2_1, .ref 111] i a q r (by rfl) ?_
            refine ko_lald2 mi_k73.1 (l := q 111) (n := 60) (c := 60) (ax := (0, 0, 0, 0, 0)) (mi_k73.2 _ _ (by rfl)) (by rfl) (by rfl) (hG.I.2.2.2 111) rfl (oz3 p1_0) (oz266 c3 fi_7043.2) ?_
            refine ft_go mi_k73 3 42 [(2, .int l2_1), (0, .ref 49), (1, .ref 110)] [.int l2_1, .ref 75, .long ((q 111).getD l2_1.toNatClampNeg 0)] i a q r (by rfl) ?_
            refine ko_iald3 mi_k73.1 (n := 20) (c := 20) (ax := (0, 0, 0, 0, 0)) (mi_k73.2 _ _ (by rfl)) (by rfl) (ksG75 _ _ _ _) (hG.I.2.1 75) rfl (oz3 p1_0) (oz1056 c5 fi_3138.2) ?_
            have b10 : ((-2147483648 : Int) ≤ ((a 75).getD l2_1.toNatClampNeg 0).toInt) ∧ (((a 75).getD l2_1.toNatClampNeg 0).toInt ≤ 2147483647) := kd_bd ((a 75).getD l2_1.toNatClampNeg 0)
            have s11 : (((a 75).getD l2_1.toNatClampNeg 0).toInt64).toInt = ((a 75).getD l2_1.toNatClampNeg 0).toInt := kl_i2l
            have s12 : (((lg_cmp ((q 111).getD l2_1.toNatClampNeg 0) (((a 75).getD l2_1.toNatClampNeg 0).toInt64)).toInt < 0 ↔ ((q 111).getD l2_1.toNatClampNeg 0).toInt < (((a 75).getD l2_1.toNatClampNeg 0).toInt64).toInt)) ∧ ((0 < (lg_cmp ((q 111).getD l2_1.toNatClampNeg 0) (((a 75).getD l2_1.toNatClampNeg 0).toInt64)).toInt ↔ (((a 75).getD l2_1.toNatClampNeg 0).toInt64).toInt < ((q 111).getD l2_1.toNatClampNeg 0).toInt)) := kl_cmp
            refine ft_go mi_k73 2 45 [(2, .int l2_1), (0, .ref 49), (1, .ref 110)] [.int (lg_cmp ((q 111).getD l2_1.toNatClampNeg 0) (((a 75).getD l2_1.toNatClampNeg 0).toInt64))] i a q r (by rfl) ?_
            refine ft_if mi_k73 ((lg_cmp ((q 111).getD l2_1.toNatClampNeg 0) (((a 75).getD l2_1.toNatClampNeg 0).toInt64)) == 0) 50 48 [(2, .int l2_1), (0, .ref 49), (1, .ref 110)] [] (by rfl) (fun c => ?_) (fun c => ?_)
            ·
              have c13 : (lg_cmp ((q 111).getD l2_1.toNatClampNeg 0) (((a 75).getD l2_1.toNatClampNeg 0).toInt64)).toInt = (0 : Int32).toInt := kd_eq c; clear c
              have s14 : (l2_1 + 1).toInt = l2_1.toInt + (1 : Int32).toInt := kd_add (oz12 p1_0 kn1) (oz307 c3 fi_7043.2 kn1)
              refine ft_go mi_k73 2 2 [(2, .int (l2_1 + 1)), (0, .ref 49), (1, .ref 110)] [] i a q r (by rfl) ?_
              exact ih1 _ (oz14 p1_0 s14 kn1) (kj_meas (oz44 s14 kn1) (oz45 c3) hm1)
            ·
              have c15 : (lg_cmp ((q 111).getD l2_1.toNatClampNeg 0) (((a 75).getD l2_1.toNatClampNeg 0).toInt64)).toInt ≠ (0 : Int32).toInt := kd_eqF c; clear c
              refine ft_go mi_k73 1 49 [(2, .int l2_1), (0, .ref 49), (1, .ref 110)] [.int l2_1] i a q r (by rfl) ?_
              exact ft_ret mi_k73 (by rfl) (hP l2_1 trivial)
  exact lp1 _ _ (oz46 kn0) (Nat.lt_succ_self _)
set_option maxRecDepth 100000 in
theorem kc73_49_112 {i : Nat → Int32} {a : Nat → List Int32} {q : Nat → List Int64} {r : Nat → Nat} (hI : kI i a q) (hr : kr r)  : km 1 73 [.ref 49, .ref 112] (ks i a q r) (kPI (ks i a q r) (fun v => True)) := by
  have hG := kG_self kW0 hI hr
  refine km_ofPI (q := (mi_h73, mi_c73)) rfl (by decide) (Nat.le_of_ble_eq_true rfl) ?_
  intro P hP
  refine ft_go mi_k73 2 2 [(2, .int 0), (0, .ref 49), (1, .ref 112)] [] i a q r (by rfl) ?_
  have lp1 : ∀ (nz : Nat) (l2_1 : Int32), (0 : Int) ≤ l2_1.toInt → (((i 7171).toInt - l2_1.toInt)).toNat < nz → ko 1 (mi_h73, mi_c73) P (2, [(2, .int l2_1), (0, .ref 49), (1, .ref 112)], [], (0, 0), ks i a q r) := by
    intro nz
    induction nz with
    | zero =>
      intro _ _ hm
      exact absurd hm (Nat.not_lt_zero _)
    | succ nz ih1 =>
      intro l2_1 p1_0 hm1
      have fi_7171 : ((0 : Int) ≤ (i 7171).toInt) ∧ ((i 7171).toInt ≤ 60) := hG.I.1 7171
      refine ft_go mi_k73 3 7 [(2, .int l2_1), (0, .ref 49), (1, .ref 112)] [.int (i 7171), .int l2_1] i a q r (by rfl) ?_
      refine ft_if mi_k73 (decide ((i 7171) ≤ l2_1)) 56 10 [(2, .int l2_1), (0, .ref 49), (1, .ref 112)] [] (by rfl) (fun c => ?_) (fun c => ?_)
      ·
        have c2 : (i 7171).toInt ≤ l2_1.toInt := kd_le c; clear c
        refine ft_go mi_k73 1 58 [(2, .int l2_1), (0, .ref 49), (1, .ref 112)] [.int (-2)] i a q r (by rfl) ?_
        exact ft_ret mi_k73 (by rfl) (hP (-2) trivial)
      ·
        have c3 : l2_1.toInt < (i 7171).toInt := kd_leF c; clear c
        have fi_3138 : ((0 : Int) ≤ (i 3138).toInt) ∧ ((i 3138).toInt ≤ 20) := hG.I.1 3138
        refine ft_go mi_k73 3 15 [(2, .int l2_1), (0, .ref 49), (1, .ref 112)] [.int (i 3138), .int l2_1] i a q r (by rfl) ?_
        refine ft_if mi_k73 (decide ((i 3138) ≤ l2_1)) 48 18 [(2, .int l2_1), (0, .ref 49), (1, .ref 112)] [] (by rfl) (fun c => ?_) (fun c => ?_)
        ·
          have c4 : (i 3138).toInt ≤ l2_1.toInt := kd_le c; clear c
          refine ft_go mi_k73 1 49 [(2, .int l2_1), (0, .ref 49), (1, .ref 112)] [.int l2_1] i a q r (by rfl) ?_
          exact ft_ret mi_k73 (by rfl) (hP l2_1 trivial)
        ·
          have c5 : l2_1.toInt < (i 3138).toInt := kd_leF c; clear c
          refine ft_go mi_k73 3 23 [(2, .int l2_1), (0, .ref 49), (1, .ref 112)] [.int l2_1, .ref 113] i a q r (by rfl) ?_
          refine ko_lald2 mi_k73.1 (l := q 113) (n := 60) (c := 60) (ax := (0, 0, 0, 0, 0)) (mi_k73.2 _ _ (by rfl)) (by rfl) (by rfl) (hG.I.2.2.2 113) rfl (oz3 p1_0) (oz266 c3 fi_7171.2) ?_
          have s6 : (((lg_cmp ((q 113).getD l2_1.toNatClampNeg 0) 9).toInt < 0 ↔ ((q 113).getD l2_1.toNatClampNeg 0).toInt < (9 : Int64).toInt)) ∧ ((0 < (lg_cmp ((q 113).getD l2_1.toNatClampNeg 0) 9).toInt ↔ (9 : Int64).toInt < ((q 113).getD l2_1.toNatClampNeg 0).toInt)) := kl_cmp
          refine ft_go mi_k73 2 28 [(2, .int l2_1), (0, .ref 49), (1, .ref 112)] [.int (lg_cmp ((q 113).getD l2_1.toNatClampNeg 0) 9)] i a q r (by rfl) ?_
          refine ft_if mi_k73 ((lg_cmp ((q 113).getD l2_1.toNatClampNeg 0) 9) == 0) 50 31 [(2, .int l2_1), (0, .ref 49), (1, .ref 112)] [] (by rfl) (fun c => ?_) (fun c => ?_)
          ·
            have c7 : (lg_cmp ((q 113).getD l2_1.toNatClampNeg 0) 9).toInt = (0 : Int32).toInt := kd_eq c; clear c
            have s8 : (l2_1 + 1).toInt = l2_1.toInt + (1 : Int32).toInt := kd_add (oz12 p1_0 kn1) (oz307 c3 fi_7171.2 kn1)
            refine ft_go mi_k73 2 2 [(2, .int (l2_1 + 1)), (0, .ref 49), (1, .ref 112)] [] i a q r (by rfl) ?_
            exact ih1 _ (oz14 p1_0 s8 kn1) (kj_meas (oz44 s8 kn1) (oz45 c3) hm1)
          ·
            have c9 : (lg_cmp ((q 113).getD l2_1.toNatClampNeg 0) 9).toInt ≠ (0 : Int32).toInt := kd_eqF c; clear c
            refine ft_go mi_k73 3 36 [(2, .int l2_1), (0, .ref 49), (1, .ref 112)] [.int l2_1, .ref 113] i a q r (by rfl) ?_
            refine ko_lald2 mi_k73.1 (l := q 113) (n := 60) (c := 60) (ax := (0, 0, 0, 0, 0)) (mi_k73.2 _ _ (by rfl)) (by rfl) (by rfl) (hG.I.2.2.2 113) rfl (oz3 p1_0) (oz266 c3 fi_7171.2) ?_
            refine ft_go mi_k73 3 42 [(2, .int l2_1), (0, .ref 49), (1, .ref 112)] [.int l2_1, .ref 75, .long ((q 113).getD l2_1.toNatClampNeg 0)] i a q r (by rfl) ?_
            refine ko_iald3 mi_k73.1 (n := 20) (c := 20) (ax := (0, 0, 0, 0, 0)) (mi_k73.2 _ _ (by rfl)) (by rfl) (ksG75 _ _ _ _) (hG.I.2.1 75) rfl (oz3 p1_0) (oz1056 c5 fi_3138.2) ?_
            have b10 : ((-2147483648 : Int) ≤ ((a 75).getD l2_1.toNatClampNeg 0).toInt) ∧ (((a 75).getD l2_1.toNatClampNeg 0).toInt ≤ 2147483647) := kd_bd ((a 75).getD l2_1.toNatClampNeg 0)
            have s11 : (((a 75).getD l2_1.toNatClampNeg 0).toInt64).toInt = ((a 75).getD l2_1.toNatClampNeg 0).toInt := kl_i2l
            have s12 : (((lg_cmp ((q 113).getD l2_1.toNatClampNeg 0) (((a 75).getD l2_1.toNatClampNeg 0).toInt64)).toInt < 0 ↔ ((q 113).getD l2_1.toNatClampNeg 0).toInt < (((a 75).getD l2_1.toNatClampNeg 0).toInt64).toInt)) ∧ ((0 < (lg_cmp ((q 113).getD l2_1.toNatClampNeg 0) (((a 75).getD l2_1.toNatClampNeg 0).toInt64)).toInt ↔ (((a 75).getD l2_1.toNatClampNeg 0).toInt64).toInt < ((q 113).getD l2_1.toNatClampNeg 0).toInt)) := kl_cmp
            refine ft_go mi_k73 2 45 [(2, .int l2_1), (0, .ref 49), (1, .ref 112)] [.int (lg_cmp ((q 113).getD l2_1.toNatClampNeg 0) (((a 75).getD l2_1.toNatClampNeg 0).toInt64))] i a q r (by rfl) ?_
            refine ft_if mi_k73 ((lg_cmp ((q 113).getD l2_1.toNatClampNeg 0) (((a 75).getD l2_1.toNatClampNeg 0).toInt64)) == 0) 50 48 [(2, .int l2_1), (0, .ref 49), (1, .ref 112)] [] (by rfl) (fun c => ?_) (fun c => ?_)
            ·
              have c13 : (lg_cmp ((q 113).getD l2_1.toNatClampNeg 0) (((a 75).getD l2_1.toNatClampNeg 0).toInt64)).toInt = (0 : Int32).toInt := kd_eq c; clear c
              have s14 : (l2_1 + 1).toInt = l2_1.toInt + (1 : Int32).toInt := kd_add (oz12 p1_0 kn1) (oz307 c3 fi_7171.2 kn1)
              refine ft_go mi_k73 2 2 [(2, .int (l2_1 + 1)), (0, .ref 49), (1, .ref 112)] [] i a q r (by rfl) ?_
              exact ih1 _ (oz14 p1_0 s14 kn1) (kj_meas (oz44 s14 kn1) (oz45 c3) hm1)
            ·
              have c15 : (lg_cmp ((q 113).getD l2_1.toNatClampNeg 0) (((a 75).getD l2_1.toNatClampNeg 0).toInt64)).toInt ≠ (0 : Int32).toInt := kd_eqF c; clear c
              refine ft_go mi_k73 1 49 [(2, .int l2_1), (0, .ref 49), (1, .ref 112)] [.int l2_1] i a q r (by rfl) ?_
              exact ft_ret mi_k73 (by rfl) (hP l2_1 trivial)
  exact lp1 _ _ (oz46 kn0) (Nat.lt_succ_self _)
set_option maxRecDepth 100000 in
theorem kc73_49_114 {i : Nat → Int32} {a : Nat → List Int32} {q : Nat → List Int64} {r : Nat → Nat} (hI : kI i a q) (hr : kr r)  : km 1 73 [.ref 49, .ref 114] (ks i a q r) (kPI (ks i a q r) (fun v => True)) := by
  have hG := kG_self kW0 hI hr
  refine km_ofPI (q := (mi_h73, mi_c73)) rfl (by decide) (Nat.le_of_ble_eq_true rfl) ?_
  intro P hP
  refine ft_go mi_k73 2 2 [(2, .int 0), (0, .ref 49), (1, .ref 114)] [] i a q r (by rfl) ?_
  have lp1 : ∀ (nz : Nat) (l2_1 : Int32), (0 : Int) ≤ l2_1.toInt → (((i 7299).toInt - l2_1.toInt)).toNat < nz → ko 1 (mi_h73, mi_c73) P (2, [(2, .int l2_1), (0, .ref 49), (1, .ref 114)], [], (0, 0), ks i a q r) := by
    intro nz
    induction nz with
    | zero =>
      intro _ _ hm
      exact absurd hm (Nat.not_lt_zero _)
    | succ nz ih1 =>
      intro l2_1 p1_0 hm1
      have fi_7299 : ((0 : Int) ≤ (i 7299).toInt) ∧ ((i 7299).toInt ≤ 60) := hG.I.1 7299
      refine ft_go mi_k73 3 7 [(2, .int l2_1), (0, .ref 49), (1, .ref 114)] [.int (i 7299), .int l2_1] i a q r (by rfl) ?_
      refine ft_if mi_k73 (decide ((i 7299) ≤ l2_1)) 56 10 [(2, .int l2_1), (0, .ref 49), (1, .ref 114)] [] (by rfl) (fun c => ?_) (fun c => ?_)
      ·
        have c2 : (i 7299).toInt ≤ l2_1.toInt := kd_le c; clear c
        refine ft_go mi_k73 1 58 [(2, .int l2_1), (0, .ref 49), (1, .ref 114)] [.int (-2)] i a q r (by rfl) ?_
        exact ft_ret mi_k73 (by rfl) (hP (-2) trivial)
      ·
        have c3 : l2_1.toInt < (i 7299).toInt := kd_leF c; clear c
        have fi_3138 : ((0 : Int) ≤ (i 3138).toInt) ∧ ((i 3138).toInt ≤ 20) := hG.I.1 3138
        refine ft_go mi_k73 3 15 [(2, .int l2_1), (0, .ref 49), (1, .ref 114)] [.int (i 3138), .int l2_1] i a q r (by rfl) ?_
        refine ft_if mi_k73 (decide ((i 3138) ≤ l2_1)) 48 18 [(2, .int l2_1), (0, .ref 49), (1, .ref 114)] [] (by rfl) (fun c => ?_) (fun c => ?_)
        ·
          have c4 : (i 3138).toInt ≤ l2_1.toInt := kd_le c; clear c
          refine ft_go mi_k73 1 49 [(2, .int l2_1), (0, .ref 49), (1, .ref 114)] [.int l2_1] i a q r (by rfl) ?_
          exact ft_ret mi_k73 (by rfl) (hP l2_1 trivial)
        ·
          have c5 : l2_1.toInt < (i 3138).toInt := kd_leF c; clear c
          refine ft_go mi_k73 3 23 [(2, .int l2_1), (0, .ref 49), (1, .ref 114)] [.int l2_1, .ref 115] i a q r (by rfl) ?_
          refine ko_lald2 mi_k73.1 (l := q 115) (n := 60) (c := 60) (ax := (0, 0, 0, 0, 0)) (mi_k73.2 _ _ (by rfl)) (by rfl) (by rfl) (hG.I.2.2.2 115) rfl (oz3 p1_0) (oz266 c3 fi_7299.2) ?_
          have s6 : (((lg_cmp ((q 115).getD l2_1.toNatClampNeg 0) 9).toInt < 0 ↔ ((q 115).getD l2_1.toNatClampNeg 0).toInt < (9 : Int64).toInt)) ∧ ((0 < (lg_cmp ((q 115).getD l2_1.toNatClampNeg 0) 9).toInt ↔ (9 : Int64).toInt < ((q 115).getD l2_1.toNatClampNeg 0).toInt)) := kl_cmp
          refine ft_go mi_k73 2 28 [(2, .int l2_1), (0, .ref 49), (1, .ref 114)] [.int (lg_cmp ((q 115).getD l2_1.toNatClampNeg 0) 9)] i a q r (by rfl) ?_
          refine ft_if mi_k73 ((lg_cmp ((q 115).getD l2_1.toNatClampNeg 0) 9) == 0) 50 31 [(2, .int l2_1), (0, .ref 49), (1, .ref 114)] [] (by rfl) (fun c => ?_) (fun c => ?_)
          ·
            have c7 : (lg_cmp ((q 115).getD l2_1.toNatClampNeg 0) 9).toInt = (0 : Int32).toInt := kd_eq c; clear c
            have s8 : (l2_1 + 1).toInt = l2_1.toInt + (1 : Int32).toInt := kd_add (oz12 p1_0 kn1) (oz307 c3 fi_7299.2 kn1)
            refine ft_go mi_k73 2 2 [(2, .int (l2_1 + 1)), (0, .ref 49), (1, .ref 114)] [] i a q r (by rfl) ?_
            exact ih1 _ (oz14 p1_0 s8 kn1) (kj_meas (oz44 s8 kn1) (oz45 c3) hm1)
          ·
            have c9 : (lg_cmp ((q 115).getD l2_1.toNatClampNeg 0) 9).toInt ≠ (0 : Int32).toInt := kd_eqF c; clear c
            refine ft_go mi_k73 3 36 [(2, .int l2_1), (0, .ref 49), (1, .ref 114)] [.int l2_1, .ref 115] i a q r (by rfl) ?_
            refine ko_lald2 mi_k73.1 (l := q 115) (n := 60) (c := 60) (ax := (0, 0, 0, 0, 0)) (mi_k73.2 _ _ (by rfl)) (by rfl) (by rfl) (hG.I.2.2.2 115) rfl (oz3 p1_0) (oz266 c3 fi_7299.2) ?_
            refine ft_go mi_k73 3 42 [(2, .int l2_1), (0, .ref 49), (1, .ref 114)] [.int l2_1, .ref 75, .long ((q 115).getD l2_1.toNatClampNeg 0)] i a q r (by rfl) ?_
            refine ko_iald3 mi_k73.1 (n := 20) (c := 20) (ax := (0, 0, 0, 0, 0)) (mi_k73.2 _ _ (by rfl)) (by rfl) (ksG75 _ _ _ _) (hG.I.2.1 75) rfl (oz3 p1_0) (oz1056 c5 fi_3138.2) ?_
            have b10 : ((-2147483648 : Int) ≤ ((a 75).getD l2_1.toNatClampNeg 0).toInt) ∧ (((a 75).getD l2_1.toNatClampNeg 0).toInt ≤ 2147483647) := kd_bd ((a 75).getD l2_1.toNatClampNeg 0)
            have s11 : (((a 75).getD l2_1.toNatClampNeg 0).toInt64).toInt = ((a 75).getD l2_1.toNatClampNeg 0).toInt := kl_i2l
            have s12 : (((lg_cmp ((q 115).getD l2_1.toNatClampNeg 0) (((a 75).getD l2_1.toNatClampNeg 0).toInt64)).toInt < 0 ↔ ((q 115).getD l2_1.toNatClampNeg 0).toInt < (((a 75).getD l2_1.toNatClampNeg 0).toInt64).toInt)) ∧ ((0 < (lg_cmp ((q 115).getD l2_1.toNatClampNeg 0) (((a 75).getD l2_1.toNatClampNeg 0).toInt64)).toInt ↔ (((a 75).getD l2_1.toNatClampNeg 0).toInt64).toInt < ((q 115).getD l2_1.toNatClampNeg 0).toInt)) := kl_cmp
            refine ft_go mi_k73 2 45 [(2, .int l2_1), (0, .ref 49), (1, .ref 114)] [.int (lg_cmp ((q 115).getD l2_1.toNatClampNeg 0) (((a 75).getD l2_1.toNatClampNeg 0).toInt64))] i a q r (by rfl) ?_
            refine ft_if mi_k73 ((lg_cmp ((q 115).getD l2_1.toNatClampNeg 0) (((a 75).getD l2_1.toNatClampNeg 0).toInt64)) == 0) 50 48 [(2, .int l2_1), (0, .ref 49), (1, .ref 114)] [] (by rfl) (fun c => ?_) (fun c => ?_)
            ·
              have c13 : (lg_cmp ((q 115).getD l2_1.toNatClampNeg 0) (((a 75).getD l2_1.toNatClampNeg 0).toInt64)).toInt = (0 : Int32).toInt := kd_eq c; clear c
              have s14 : (l2_1 + 1).toInt = l2_1.toInt + (1 : Int32).toInt := kd_add (oz12 p1_0 kn1) (oz307 c3 fi_7299.2 kn1)
              refine ft_go mi_k73 2 2 [(2, .int (l2_1 + 1)), (0, .ref 49), (1, .ref 114)] [] i a q r (by rfl) ?_
              exact ih1 _ (oz14 p1_0 s14 kn1) (kj_meas (oz44 s14 kn1) (oz45 c3) hm1)
            ·
              have c15 : (lg_cmp ((q 115).getD l2_1.toNatClampNeg 0) (((a 75).getD l2_1.toNatClampNeg 0).toInt64)).toInt ≠ (0 : Int32).toInt := kd_eqF c; clear c
              refine ft_go mi_k73 1 49 [(2, .int l2_1), (0, .ref 49), (1, .ref 114)] [.int l2_1] i a q r (by rfl) ?_
              exact ft_ret mi_k73 (by rfl) (hP l2_1 trivial)
  exact lp1 _ _ (oz46 kn0) (Nat.lt_succ_self _)
def w97_0 : kW := ([645, 3138, 3200, 3206, 3207, 3208, 3209, 3214, 3215, 3216, 3586, 3781, 6405], [13, 51, 52, 53, 54, 55, 57, 58, 62, 63, 65, 66, 67, 68, 69, 70, 71, 72, 73, 74, 75, 76, 77, 103], [], [1])
set_option maxRecDepth 100000 in
theorem kc97_0 {i : Nat → Int32} {a : Nat → List Int32} {q : Nat → List Int64} {r : Nat → Nat} (hI : kI i a q) (hr : kr r) (x1 : Int32) : km 13 97 [.ref 0, .int x1] (ks i a q r) (kVI w97_0 i a q r (fun v i1 a1 q1 r1 => True)) := by
  have hG := kG_self w97_0 hI hr
  refine km_ofI (q := (mi_h97, mi_c97)) rfl (by decide) (Nat.le_of_ble_eq_true rfl) ?_
  intro P hP
  first | refine ft_go mi_k97 1 1 [(0, .ref 0), (1, .int x1)] [.int x1] i a q r (by rfl) ?_ | refine ko_steps mi_in97 1 _ (1, [(0, .ref 0), (1, .int x1)], [.int x1], (0, 0), ks i a q r) (by rfl) ?_
  refine ko_callPI mi_k97.1 (pc := 1) (ls := [(0, .ref 0), (1, .int x1)]) (st := [.int x1]) (h := ks i a q r) (i := (.invokestatic 214, 3, 122, 0, 9, 0, 260)) (mi_k97.2 _ _ (by rfl)) (ft_invS mi_pq122 (by rfl)) (cy := mi_c122) mi_pq122 rfl (kc122 hG.I hG.R x1) (by decide) ?_
  intro vg1 hg1
  rcases hg1 with ⟨eg1, hg1⟩ | ⟨eg1, hg1⟩
  ·
    subst eg1
    have z2 : ((0 : Int) ≤ x1.toInt) ∧ (((0 : Int) ≤ (x1.toInt / 10)) ∧ ((x1.toInt / 10) ≤ 5)) ∧ ((x1.toInt % 10) ≤ 5) := hg1
    have s3 : (x1 / 10).toInt = (x1.toInt / 10) := kd_div 10 kn10 (by decide) (oz3 z2.1)
    first | refine ft_go mi_k97 5 14 [(0, .ref 0), (1, .int x1)] [.int (x1 / 10), .ref 0] i a q r (by rfl) ?_ | refine ko_steps mi_in97 5 _ (14, [(0, .ref 0), (1, .int x1)], [.int (x1 / 10), .ref 0], (0, 0), ks i a q r) (by rfl) ?_
    refine ko_callI mi_k97.1 (pc := 14) (ls := [(0, .ref 0), (1, .int x1)]) (st := [.int (x1 / 10), .ref 0]) (h := ks i a q r) (i := (.invokevirtual 144, 3, 129, 0, 9, 0, 208)) (mi_k97.2 _ _ (by rfl)) (ft_invS mi_pq129 (by rfl)) (cy := mi_c129) mi_pq129 rfl (kc129_0 hG.I hG.R (x1 / 10)) (by decide) ?_
    intro vg4 ig4 ag4 qg4 rg4 kg4 hg4
    have hGg4 := kG_call hG kg4 (by decide +kernel)
    have z5 : (vg4.toInt < 0) ∨ (vg4.toInt = 0) := hg4
    first | refine ft_go mi_k97 2 19 [(2, .int vg4), (0, .ref 0), (1, .int x1)] [.int vg4] ig4 ag4 qg4 rg4 (by rfl) ?_ | refine ko_steps mi_in97 2 _ (19, [(2, .int vg4), (0, .ref 0), (1, .int x1)], [.int vg4], (0, 0), ks ig4 ag4 qg4 rg4) (by rfl) ?_
    refine ft_if mi_k97 (vg4 != 0) 31 22 [(2, .int vg4), (0, .ref 0), (1, .int x1)] [] (by rfl) (fun c => ?_) (fun c => ?_)
    ·
      have c6 : vg4.toInt ≠ (0 : Int32).toInt := kd_ne c; clear c
      first | refine ft_go mi_k97 1 32 [(2, .int vg4), (0, .ref 0), (1, .int x1)] [.int vg4] ig4 ag4 qg4 rg4 (by rfl) ?_ | refine ko_steps mi_in97 1 _ (32, [(2, .int vg4), (0, .ref 0), (1, .int x1)], [.int vg4], (0, 0), ks ig4 ag4 qg4 rg4) (by rfl) ?_
      refine ft_if mi_k97 (decide (0 ≤ vg4)) 37 35 [(2, .int vg4), (0, .ref 0), (1, .int x1)] [] (by rfl) (fun c => ?_) (fun c => ?_)
      ·
        have c7 : (0 : Int32).toInt ≤ vg4.toInt := kd_le c; clear c
        exact (oz1170 c6 c7 z5 kn0).elim
      ·
        have c8 : vg4.toInt < (0 : Int32).toInt := kd_leF c; clear c
        first | refine ft_go mi_k97 1 36 [(2, .int vg4), (0, .ref 0), (1, .int x1)] [.int vg4] ig4 ag4 qg4 rg4 (by rfl) ?_ | refine ko_steps mi_in97 1 _ (36, [(2, .int vg4), (0, .ref 0), (1, .int x1)], [.int vg4], (0, 0), ks ig4 ag4 qg4 rg4) (by rfl) ?_
        exact ft_ret mi_k97 (by rfl) (hP vg4 _ _ _ _ hGg4 trivial)
    ·
      have c9 : vg4.toInt = (0 : Int32).toInt := kd_neF c; clear c
      have s10 : (x1 - x1 / 10 * 10).toInt = (x1.toInt % 10) := kd_rem 10 kn10 (by decide) (oz3 z2.1)
      first | refine ft_go mi_k97 4 27 [(2, .int vg4), (0, .ref 0), (1, .int x1)] [.int (x1 - x1 / 10 * 10), .ref 0] ig4 ag4 qg4 rg4 (by rfl) ?_ | refine ko_steps mi_in97 4 _ (27, [(2, .int vg4), (0, .ref 0), (1, .int x1)], [.int (x1 - x1 / 10 * 10), .ref 0], (0, 0), ks ig4 ag4 qg4 rg4) (by rfl) ?_
      refine ko_callPI mi_k97.1 (pc := 27) (ls := [(2, .int vg4), (0, .ref 0), (1, .int x1)]) (st := [.int (x1 - x1 / 10 * 10), .ref 0]) (h := ks ig4 ag4 qg4 rg4) (i := (.invokevirtual 217, 3, 127, 0, 9, 0, 209)) (mi_k97.2 _ _ (by rfl)) (ft_invS mi_pq127 (by rfl)) (cy := mi_c127) mi_pq127 rfl (kc127_0 hGg4.I hGg4.R (x1 - x1 / 10 * 10)) (by decide) ?_
      intro vg11 hg11
      first | refine ft_go mi_k97 2 32 [(2, .int vg11), (0, .ref 0), (1, .int x1)] [.int vg11] ig4 ag4 qg4 rg4 (by rfl) ?_ | refine ko_steps mi_in97 2 _ (32, [(2, .int vg11), (0, .ref 0), (1, .int x1)], [.int vg11], (0, 0), ks ig4 ag4 qg4 rg4) (by rfl) ?_
      refine ft_if mi_k97 (decide (0 ≤ vg11)) 37 35 [(2, .int vg11), (0, .ref 0), (1, .int x1)] [] (by rfl) (fun c => ?_) (fun c => ?_)
      ·
        have c13 : (0 : Int32).toInt ≤ vg11.toInt := kd_le c; clear c
        first | refine ft_go mi_k97 4 45 [(2, .int vg11), (0, .ref 0), (1, .int x1)] [.ref 1, .ref 49] ig4 ag4 qg4 rg4 (by rfl) ?_ | refine ko_steps mi_in97 4 _ (45, [(2, .int vg11), (0, .ref 0), (1, .int x1)], [.ref 1, .ref 49], (0, 0), ks ig4 ag4 qg4 rg4) (by rfl) ?_
        refine ko_callN mi_k97.1 (pc := 45) (ls := [(2, .int vg11), (0, .ref 0), (1, .int x1)]) (st := [.ref 1, .ref 49]) (h := ks ig4 ag4 qg4 rg4) (i := (.invokevirtual 147, 3, 59, 0, 9, 0, 211)) (mi_k97.2 _ _ (by rfl)) (ft_invS mi_pq59 (by rfl)) (cy := mi_c59) mi_pq59 rfl (kc59_49_1 hGg4.I hGg4.R ) (by decide) ?_
        intro ig14 ag14 qg14 rg14 kg14 hg14
        have hGg14 := kG_call hGg4 kg14 (by decide +kernel)
        first | refine ft_go mi_k97 7 60 [(2, .int vg11), (0, .ref 0), (1, .int x1)] [.int (x1 - x1 / 10 * 10), .ref 97, .ref 49] ig14 ag14 qg14 rg14 (by rfl) ?_ | refine ko_steps mi_in97 7 _ (60, [(2, .int vg11), (0, .ref 0), (1, .int x1)], [.int (x1 - x1 / 10 * 10), .ref 97, .ref 49], (0, 0), ks ig14 ag14 qg14 rg14) (by rfl) ?_
        by_cases w15 : (x1 - x1 / 10 * 10).toInt = 0
        ·
          refine ft_alx mi_k97 (pc := 60) (v := 0) (p := 97) (z := 104) (kj_eq w15 (by decide) : (x1 - x1 / 10 * 10) = 0) (by decide +kernel) (by decide +kernel) ?_
          refine ko_callPI mi_k97.1 (pc := 61) (ls := [(2, .int vg11), (0, .ref 0), (1, .int x1)]) (st := [.ref 104, .ref 49]) (h := ks ig14 ag14 qg14 rg14) (i := (.invokevirtual 220, 3, 73, 0, 9, 0, 261)) (mi_k97.2 _ _ (by rfl)) (ft_invS mi_pq73 (by rfl)) (cy := mi_c73) mi_pq73 rfl (kc73_49_104 hGg14.I hGg14.R ) (by decide) ?_
          intro vg16 hg16
          exact ft_ret mi_k97 (by rfl) (hP vg16 _ _ _ _ hGg14 trivial)
        by_cases w17 : (x1 - x1 / 10 * 10).toInt = 1
        ·
          refine ft_alx mi_k97 (pc := 60) (v := 1) (p := 97) (z := 106) (kj_eq w17 (by decide) : (x1 - x1 / 10 * 10) = 1) (by decide +kernel) (by decide +kernel) ?_
          refine ko_callPI mi_k97.1 (pc := 61) (ls := [(2, .int vg11), (0, .ref 0), (1, .int x1)]) (st := [.ref 106, .ref 49]) (h := ks ig14 ag14 qg14 rg14) (i := (.invokevirtual 220, 3, 73, 0, 9, 0, 261)) (mi_k97.2 _ _ (by rfl)) (ft_invS mi_pq73 (by rfl)) (cy := mi_c73) mi_pq73 rfl (kc73_49_106 hGg14.I hGg14.R ) (by decide) ?_
          intro vg18 hg18
          exact ft_ret mi_k97 (by rfl) (hP vg18 _ _ _ _ hGg14 trivial)
        by_cases w19 : (x1 - x1 / 10 * 10).toInt = 2
        ·
          refine ft_alx mi_k97 (pc := 60) (v := 2) (p := 97) (z := 108) (kj_eq w19 (by decide) : (x1 - x1 / 10 * 10) = 2) (by decide +kernel) (by decide +kernel) ?_
          refine ko_callPI mi_k97.1 (pc := 61) (ls := [(2, .int vg11), (0, .ref 0), (1, .int x1)]) (st := [.ref 108, .ref 49]) (h := ks ig14 ag14 qg14 rg14) (i := (.invokevirtual 220, 3, 73, 0, 9, 0, 261)) (mi_k97.2 _ _ (by rfl)) (ft_invS mi_pq73 (by rfl)) (cy := mi_c73) mi_pq73 rfl (kc73_49_108 hGg14.I hGg14.R ) (by decide) ?_
          intro vg20 hg20
          exact ft_ret mi_k97 (by rfl) (hP vg20 _ _ _ _ hGg14 trivial)
        by_cases w21 : (x1 - x1 / 10 * 10).toInt = 3
        ·
          refine ft_alx mi_k97 (pc := 60) (v := 3) (p := 97) (z := 110) (kj_eq w21 (by decide) : (x1 - x1 / 10 * 10) = 3) (by decide +kernel) (by decide +kernel) ?_
          refine ko_callPI mi_k97.1 (pc := 61) (ls := [(2, .int vg11), (0, .ref 0), (1, .int x1)]) (st := [.ref 110, .ref 49]) (h := ks ig14 ag14 qg14 rg14) (i := (.invokevirtual 220, 3, 73, 0, 9, 0, 261)) (mi_k97.2 _ _ (by rfl)) (ft_invS mi_pq73 (by rfl)) (cy := mi_c73) mi_pq73 rfl (kc73_49_110 hGg14.I hGg14.R ) (by decide) ?_
          intro vg22 hg22
          exact ft_ret mi_k97 (by rfl) (hP vg22 _ _ _ _ hGg14 trivial)
        by_cases w23 : (x1 - x1 / 10 * 10).toInt = 4
        ·
          refine ft_alx mi_k97 (pc := 60) (v := 4) (p := 97) (z := 112) (kj_eq w23 (by decide) : (x1 - x1 / 10 * 10) = 4) (by decide +kernel) (by decide +kernel) ?_
          refine ko_callPI mi_k97.1 (pc := 61) (ls := [(2, .int vg11), (0, .ref 0), (1, .int x1)]) (st := [.ref 112, .ref 49]) (h := ks ig14 ag14 qg14 rg14) (i := (.invokevirtual 220, 3, 73, 0, 9, 0, 261)) (mi_k97.2 _ _ (by rfl)) (ft_invS mi_pq73 (by rfl)) (cy := mi_c73) mi_pq73 rfl (kc73_49_112 hGg14.I hGg14.R ) (by decide) ?_
          intro vg24 hg24
          exact ft_ret mi_k97 (by rfl) (hP vg24 _ _ _ _ hGg14 trivial)
        by_cases w25 : (x1 - x1 / 10 * 10).toInt = 5
        ·
          refine ft_alx mi_k97 (pc := 60) (v := 5) (p := 97) (z := 114) (kj_eq w25 (by decide) : (x1 - x1 / 10 * 10) = 5) (by decide +kernel) (by decide +kernel) ?_
          refine ko_callPI mi_k97.1 (pc := 61) (ls := [(2, .int vg11), (0, .ref 0), (1, .int x1)]) (st := [.ref 114, .ref 49]) (h := ks ig14 ag14 qg14 rg14) (i := (.invokevirtual 220, 3, 73, 0, 9, 0, 261)) (mi_k97.2 _ _ (by rfl)) (ft_invS mi_pq73 (by rfl)) (cy := mi_c73) mi_pq73 rfl (kc73_49_114 hGg14.I hGg14.R ) (by decide) ?_
          intro vg26 hg26
          exact ft_ret mi_k97 (by rfl) (hP vg26 _ _ _ _ hGg14 trivial)
        exact (oz1172 s10 w15 w17 w19 w21 w23 w25 z2.2.2).elim
      ·
        have c27 : vg11.toInt < (0 : Int32).toInt := kd_leF c; clear c
        first | refine ft_go mi_k97 1 36 [(2, .int vg11), (0, .ref 0), (1, .int x1)] [.int vg11] ig4 ag4 qg4 rg4 (by rfl) ?_ | refine ko_steps mi_in97 1 _ (36, [(2, .int vg11), (0, .ref 0), (1, .int x1)], [.int vg11], (0, 0), ks ig4 ag4 qg4 rg4) (by rfl) ?_
        exact ft_ret mi_k97 (by rfl) (hP vg11 _ _ _ _ hGg4 trivial)
  ·
    subst eg1
    first | refine ft_go mi_k97 2 8 [(0, .ref 0), (1, .int x1)] [.int (-1)] i a q r (by rfl) ?_ | refine ko_steps mi_in97 2 _ (8, [(0, .ref 0), (1, .int x1)], [.int (-1)], (0, 0), ks i a q r) (by rfl) ?_
    exact ft_ret mi_k97 (by rfl) (hP (-1) _ _ _ _ hG trivial)
def w75_49_1_104 : kW := ([645, 3200, 3206, 3207, 3208, 3209, 3214, 3215, 3216, 3586, 3781, 6405], [13, 51, 52, 53, 54, 55, 57, 58, 62, 63, 65, 66, 67, 68, 69, 70, 71, 72, 73, 74, 75, 76, 77, 103], [], [1])
def w75_49_1_104_L6 : kW := ([645, 3200, 3206, 3207, 3208, 3209, 3214, 3215, 3216, 3586, 3781, 6405], [13, 51, 52, 53, 54, 55, 57, 58, 62, 63, 65, 66, 67, 68, 69, 70, 71, 72, 73, 74, 75, 76, 77, 103], [], [1])
set_option maxRecDepth 100000 in
theorem kc75_49_1_104 {i : Nat → Int32} {a : Nat → List Int32} {q : Nat → List Int64} {r : Nat → Nat} (hI : kI i a q) (hr : kr r) (x3 : Int32) (hp0 : ((0 : Int) ≤ x3.toInt) ∧ (x3.toInt ≤ 19)) : km 11 75 [.ref 49, .ref 1, .ref 104, .int x3] (ks i a q r) (kVI w75_49_1_104 i a q r (fun v i1 a1 q1 r1 => True)) := by
  have hG := kG_self w75_49_1_104 hI hr
  refine km_ofI (q := (mi_h75, mi_c75)) rfl (by decide) (Nat.le_of_ble_eq_true rfl) ?_
  intro P hP
  refine ft_go mi_k75 4 6 [(5, .int 0), (4, .int 0), (0, .ref 49), (1, .ref 1), (2, .ref 104), (3, .int x3)] [] i a q r (by rfl) ?_
  have lp1 : ∀ (nz : Nat) (i1 : Nat → Int32) (a1 : Nat → List Int32) (q1 : Nat → List Int64) (r1 : Nat → Nat) (l5_1 : Int32) (l4_1 : Int32), kG w75_49_1_104_L6 i a q r i1 a1 q1 r1 → (0 : Int) ≤ l5_1.toInt → (((i1 64).toInt - l5_1.toInt)).toNat < nz → ko 11 (mi_h75, mi_c75) P (6, [(5, .int l5_1), (4, .int l4_1), (0, .ref 49), (1, .ref 1), (2, .ref 104), (3, .int x3)], [], (0, 0), ks i1 a1 q1 r1) := by
    intro nz
    induction nz with
    | zero =>
      intro _ _ _ _ _ _ _ _ hm
      exact absurd hm (Nat.not_lt_zero _)
    | succ nz ih1 =>
      intro i1 a1 q1 r1 l5_1 l4_1 hL1 p1_0 hm1
      have fi1_64 : ((0 : Int) ≤ (i1 64).toInt) ∧ ((i1 64).toInt ≤ 8) := hL1.I.1 64
      refine ft_go mi_k75 3 12 [(5, .int l5_1), (4, .int l4_1), (0, .ref 49), (1, .ref 1), (2, .ref 104), (3, .int x3)] [.int (i1 64), .int l5_1] i1 a1 q1 r1 (by rfl) ?_
      refine ft_if mi_k75 (decide ((i1 64) ≤ l5_1)) 60 15 [(5, .int l5_1), (4, .int l4_1), (0, .ref 49), (1, .ref 1), (2, .ref 104), (3, .int x3)] [] (by rfl) (fun c => ?_) (fun c => ?_)
      ·
        have c2 : (i1 64).toInt ≤ l5_1.toInt := kd_le c; clear c
        have hG3 := kG_call hG hL1 (by decide +kernel)
        refine ft_go mi_k75 1 62 [(5, .int l5_1), (4, .int l4_1), (0, .ref 49), (1, .ref 1), (2, .ref 104), (3, .int x3)] [.int l4_1] i1 a1 q1 r1 (by rfl) ?_
        exact ft_ret mi_k75 (by rfl) (hP l4_1 _ _ _ _ hG3 trivial)
      ·
        have c4 : l5_1.toInt < (i1 64).toInt := kd_leF c; clear c
        refine ft_go mi_k75 4 22 [(5, .int l5_1), (4, .int l4_1), (0, .ref 49), (1, .ref 1), (2, .ref 104), (3, .int x3)] [.int l5_1, .int x3, .ref 74] i1 a1 q1 r1 (by rfl) ?_
        refine ko_iast3 mi_k75.1 (n := 20) (c := 20) (ax := (0, 0, 0, 0, 0)) (mi_k75.2 _ _ (by rfl)) (by rfl) (ksG74 _ _ _ _) (ksA74 _ _ _ _) (hL1.I.2.1 74) rfl (oz3 hp0.1) (oz1065 hp0.2) ?_
        intro a5 ea5 fa5
        have hJ5 := kG_a3 hL1 74 rfl ea5 fa5 (kd_bd _)
        refine ft_go mi_k75 3 28 [(5, .int l5_1), (4, .int l4_1), (0, .ref 49), (1, .ref 1), (2, .ref 104), (3, .int x3)] [.ref 1, .ref 50] i1 a5 q1 r1 (by rfl) ?_
        refine ko_callN mi_k75.1 (pc := 28) (ls := [(5, .int l5_1), (4, .int l4_1), (0, .ref 49), (1, .ref 1), (2, .ref 104), (3, .int x3)]) (st := [.ref 1, .ref 50]) (h := ks i1 a5 q1 r1) (i := (.invokevirtual 56, 3, 34, 0, 9, 0, 212)) (mi_k75.2 _ _ (by rfl)) (ft_invS mi_pq34 (by rfl)) (cy := mi_c34) mi_pq34 rfl (kc34_50_1 hJ5.I hJ5.R ) (by decide) ?_
        intro ig6 ag6 qg6 rg6 kg6 hg6
        have hGg6 := kG_call hJ5 kg6 (by decide +kernel)
        refine ft_go mi_k75 1 32 [(5, .int l5_1), (4, .int l4_1), (0, .ref 49), (1, .ref 1), (2, .ref 104), (3, .int x3)] [.ref 49] ig6 ag6 qg6 rg6 (by rfl) ?_
        refine ko_callN mi_k75.1 (pc := 32) (ls := [(5, .int l5_1), (4, .int l4_1), (0, .ref 49), (1, .ref 1), (2, .ref 104), (3, .int x3)]) (st := [.ref 49]) (h := ks ig6 ag6 qg6 rg6) (i := (.invokevirtual 60, 3, 60, 0, 9, 0, 219)) (mi_k75.2 _ _ (by rfl)) (ft_invS mi_pq60 (by rfl)) (cy := mi_c60) mi_pq60 rfl (kc60_49 hGg6.I hGg6.R ) (by decide) ?_
        intro ig7 ag7 qg7 rg7 kg7 hg7
        have hGg7 := kG_call hGg6 kg7 (by decide +kernel)
        refine ft_go mi_k75 2 37 [(5, .int l5_1), (4, .int l4_1), (0, .ref 49), (1, .ref 1), (2, .ref 104), (3, .int x3)] [.ref 104, .ref 49] ig7 ag7 qg7 rg7 (by rfl) ?_
        refine ko_callPI mi_k75.1 (pc := 37) (ls := [(5, .int l5_1), (4, .int l4_1), (0, .ref 49), (1, .ref 1), (2, .ref 104), (3, .int x3)]) (st := [.ref 104, .ref 49]) (h := ks ig7 ag7 qg7 rg7) (i := (.invokevirtual 126, 3, 73, 0, 9, 0, 265)) (mi_k75.2 _ _ (by rfl)) (ft_invS mi_pq73 (by rfl)) (cy := mi_c73) mi_pq73 rfl (kc73_49_104 hGg7.I hGg7.R ) (by decide) ?_
        intro vg8 hg8
        refine ft_go mi_k75 1 42 [(5, .int l5_1), (4, .int l4_1), (0, .ref 49), (1, .ref 1), (2, .ref 104), (3, .int x3)] [.int (-2), .int vg8] ig7 ag7 qg7 rg7 (by rfl) ?_
        refine ft_if mi_k75 (vg8 != (-2)) 54 45 [(5, .int l5_1), (4, .int l4_1), (0, .ref 49), (1, .ref 1), (2, .ref 104), (3, .int x3)] [] (by rfl) (fun c => ?_) (fun c => ?_)
        ·
          have c9 : vg8.toInt ≠ ((-2) : Int32).toInt := kd_ne c; clear c
          have s10 : (l5_1 + 1).toInt = l5_1.toInt + (1 : Int32).toInt := kd_add (oz12 p1_0 kn1) (oz442 c4 fi1_64.2 kn1)
          refine ft_go mi_k75 2 6 [(5, .int (l5_1 + 1)), (4, .int l4_1), (0, .ref 49), (1, .ref 1), (2, .ref 104), (3, .int x3)] [] ig7 ag7 qg7 rg7 (by rfl) ?_
          have efig6_64 : (ig6 64).toInt = (i1 64).toInt := kg6.ti 64 rfl
          have efig7_64 : (ig7 64).toInt = (ig6 64).toInt := kg7.ti 64 rfl
          exact ih1 _ _ _ _ _ _ hGg7 (oz14 p1_0 s10 kn1) (kj_meas (oz1175 efig6_64 efig7_64 s10 kn1) (oz45 c4) hm1)
        ·
          have c11 : vg8.toInt = ((-2) : Int32).toInt := kd_neF c; clear c
          have s12 : ((1 : Int) ≤ (1 <<< (l5_1 &&& 31)).toInt) ∧ ((1 <<< (l5_1 &&& 31)).toInt ≤ 256) := kd_shl1 (oz3 p1_0) (oz513 c4 fi1_64.2)
          have s13 : (l5_1 + 1).toInt = l5_1.toInt + (1 : Int32).toInt := kd_add (oz12 p1_0 kn1) (oz442 c4 fi1_64.2 kn1)
          refine ft_go mi_k75 8 6 [(5, .int (l5_1 + 1)), (4, .int (l4_1 ||| (1 <<< (l5_1 &&& 31)))), (0, .ref 49), (1, .ref 1), (2, .ref 104), (3, .int x3)] [] ig7 ag7 qg7 rg7 (by rfl) ?_
          have efig6_64 : (ig6 64).toInt = (i1 64).toInt := kg6.ti 64 rfl
          have efig7_64 : (ig7 64).toInt = (ig6 64).toInt := kg7.ti 64 rfl
          exact ih1 _ _ _ _ _ _ hGg7 (oz14 p1_0 s13 kn1) (kj_meas (oz1175 efig6_64 efig7_64 s13 kn1) (oz45 c4) hm1)
  exact lp1 _ _ _ _ _ _ _ (kG_self _ hG.I hG.R) (oz46 kn0) (Nat.lt_succ_self _)
def w75_49_1_106 : kW := ([645, 3200, 3206, 3207, 3208, 3209, 3214, 3215, 3216, 3586, 3781, 6405], [13, 51, 52, 53, 54, 55, 57, 58, 62, 63, 65, 66, 67, 68, 69, 70, 71, 72, 73, 74, 75, 76, 77, 103], [], [1])
def w75_49_1_106_L6 : kW := ([645, 3200, 3206, 3207, 3208, 3209, 3214, 3215, 3216, 3586, 3781, 6405], [13, 51, 52, 53, 54, 55, 57, 58, 62, 63, 65, 66, 67, 68, 69, 70, 71, 72, 73, 74, 75, 76, 77, 103], [], [1])
set_option maxRecDepth 100000 in
theorem kc75_49_1_106 {i : Nat → Int32} {a : Nat → List Int32} {q : Nat → List Int64} {r : Nat → Nat} (hI : kI i a q) (hr : kr r) (x3 : Int32) (hp0 : ((0 : Int) ≤ x3.toInt) ∧ (x3.toInt ≤ 19)) : km 11 75 [.ref 49, .ref 1, .ref 106, .int x3] (ks i a q r) (kVI w75_49_1_106 i a q r (fun v i1 a1 q1 r1 => True)) := by
  have hG := kG_self w75_49_1_106 hI hr
  refine km_ofI (q := (mi_h75, mi_c75)) rfl (by decide) (Nat.le_of_ble_eq_true rfl) ?_
  intro P hP
  refine ft_go mi_k75 4 6 [(5, .int 0), (4, .int 0), (0, .ref 49), (1, .ref 1), (2, .ref 106), (3, .int x3)] [] i a q r (by rfl) ?_
  have lp1 : ∀ (nz : Nat) (i1 : Nat → Int32) (a1 : Nat → List Int32) (q1 : Nat → List Int64) (r1 : Nat → Nat) (l5_1 : Int32) (l4_1 : Int32), kG w75_49_1_106_L6 i a q r i1 a1 q1 r1 → (0 : Int) ≤ l5_1.toInt → (((i1 64).toInt - l5_1.toInt)).toNat < nz → ko 11 (mi_h75, mi_c75) P (6, [(5, .int l5_1), (4, .int l4_1), (0, .ref 49), (1, .ref 1), (2, .ref 106), (3, .int x3)], [], (0, 0), ks i1 a1 q1 r1) := by
    intro nz
    induction nz with
    | zero =>
      intro _ _ _ _ _ _ _ _ hm
      exact absurd hm (Nat.not_lt_zero _)
    | succ nz ih1 =>
      intro i1 a1 q1 r1 l5_1 l4_1 hL1 p1_0 hm1
      have fi1_64 : ((0 : Int) ≤ (i1 64).toInt) ∧ ((i1 64).toInt ≤ 8) := hL1.I.1 64
      refine ft_go mi_k75 3 12 [(5, .int l5_1), (4, .int l4_1), (0, .ref 49), (1, .ref 1), (2, .ref 106), (3, .int x3)] [.int (i1 64), .int l5_1] i1 a1 q1 r1 (by rfl) ?_
      refine ft_if mi_k75 (decide ((i1 64) ≤ l5_1)) 60 15 [(5, .int l5_1), (4, .int l4_1), (0, .ref 49), (1, .ref 1), (2, .ref 106), (3, .int x3)] [] (by rfl) (fun c => ?_) (fun c => ?_)
      ·
        have c2 : (i1 64).toInt ≤ l5_1.toInt := kd_le c; clear c
        have hG3 := kG_call hG hL1 (by decide +kernel)
        refine ft_go mi_k75 1 62 [(5, .int l5_1), (4, .int l4_1), (0, .ref 49), (1, .ref 1), (2, .ref 106), (3, .int x3)] [.int l4_1] i1 a1 q1 r1 (by rfl) ?_
        exact ft_ret mi_k75 (by rfl) (hP l4_1 _ _ _ _ hG3 trivial)
      ·
        have c4 : l5_1.toInt < (i1 64).toInt := kd_leF c; clear c
        refine ft_go mi_k75 4 22 [(5, .int l5_1), (4, .int l4_1), (0, .ref 49), (1, .ref 1), (2, .ref 106), (3, .int x3)] [.int l5_1, .int x3, .ref 74] i1 a1 q1 r1 (by rfl) ?_
        refine ko_iast3 mi_k75.1 (n := 20) (c := 20) (ax := (0, 0, 0, 0, 0)) (mi_k75.2 _ _ (by rfl)) (by rfl) (ksG74 _ _ _ _) (ksA74 _ _ _ _) (hL1.I.2.1 74) rfl (oz3 hp0.1) (oz1065 hp0.2) ?_
        intro a5 ea5 fa5
        have hJ5 := kG_a3 hL1 74 rfl ea5 fa5 (kd_bd _)
        refine ft_go mi_k75 3 28 [(5, .int l5_1), (4, .int l4_1), (0, .ref 49), (1, .ref 1), (2, .ref 106), (3, .int x3)] [.ref 1, .ref 50] i1 a5 q1 r1 (by rfl) ?_
        refine ko_callN mi_k75.1 (pc := 28) (ls := [(5, .int l5_1), (4, .int l4_1), (0, .ref 49), (1, .ref 1), (2, .ref 106), (3, .int x3)]) (st := [.ref 1, .ref 50]) (h := ks i1 a5 q1 r1) (i := (.invokevirtual 56, 3, 34, 0, 9, 0, 212)) (mi_k75.2 _ _ (by rfl)) (ft_invS mi_pq34 (by rfl)) (cy := mi_c34) mi_pq34 rfl (kc34_50_1 hJ5.I hJ5.R ) (by decide) ?_
        intro ig6 ag6 qg6 rg6 kg6 hg6
        have hGg6 := kG_call hJ5 kg6 (by decide +kernel)
        refine ft_go mi_k75 1 32 [(5, .int l5_1), (4, .int l4_1), (0, .ref 49), (1, .ref 1), (2, .ref 106), (3, .int x3)] [.ref 49] ig6 ag6 qg6 rg6 (by rfl) ?_
        refine ko_callN mi_k75.1 (pc := 32) (ls := [(5, .int l5_1), (4, .int l4_1), (0, .ref 49), (1, .ref 1), (2, .ref 106), (3, .int x3)]) (st := [.ref 49]) (h := ks ig6 ag6 qg6 rg6) (i := (.invokevirtual 60, 3, 60, 0, 9, 0, 219)) (mi_k75.2 _ _ (by rfl)) (ft_invS mi_pq60 (by rfl)) (cy := mi_c60) mi_pq60 rfl (kc60_49 hGg6.I hGg6.R ) (by decide) ?_
        intro ig7 ag7 qg7 rg7 kg7 hg7
        have hGg7 := kG_call hGg6 kg7 (by decide +kernel)
        refine ft_go mi_k75 2 37 [(5, .int l5_1), (4, .int l4_1), (0, .ref 49), (1, .ref 1), (2, .ref 106), (3, .int x3)] [.ref 106, .ref 49] ig7 ag7 qg7 rg7 (by rfl) ?_
        refine ko_callPI mi_k75.1 (pc := 37) (ls := [(5, .int l5_1), (4, .int l4_1), (0, .ref 49), (1, .ref 1), (2, .ref 106), (3, .int x3)]) (st := [.ref 106, .ref 49]) (h := ks ig7 ag7 qg7 rg7) (i := (.invokevirtual 126, 3, 73, 0, 9, 0, 265)) (mi_k75.2 _ _ (by rfl)) (ft_invS mi_pq73 (by rfl)) (cy := mi_c73) mi_pq73 rfl (kc73_49_106 hGg7.I hGg7.R ) (by decide) ?_
        intro vg8 hg8
        refine ft_go mi_k75 1 42 [(5, .int l5_1), (4, .int l4_1), (0, .ref 49), (1, .ref 1), (2, .ref 106), (3, .int x3)] [.int (-2), .int vg8] ig7 ag7 qg7 rg7 (by rfl) ?_
        refine ft_if mi_k75 (vg8 != (-2)) 54 45 [(5, .int l5_1), (4, .int l4_1), (0, .ref 49), (1, .ref 1), (2, .ref 106), (3, .int x3)] [] (by rfl) (fun c => ?_) (fun c => ?_)
        ·
          have c9 : vg8.toInt ≠ ((-2) : Int32).toInt := kd_ne c; clear c
          have s10 : (l5_1 + 1).toInt = l5_1.toInt + (1 : Int32).toInt := kd_add (oz12 p1_0 kn1) (oz442 c4 fi1_64.2 kn1)
          refine ft_go mi_k75 2 6 [(5, .int (l5_1 + 1)), (4, .int l4_1), (0, .ref 49), (1, .ref 1), (2, .ref 106), (3, .int x3)] [] ig7 ag7 qg7 rg7 (by rfl) ?_
          have efig6_64 : (ig6 64).toInt = (i1 64).toInt := kg6.ti 64 rfl
          have efig7_64 : (ig7 64).toInt = (ig6 64).toInt := kg7.ti 64 rfl
          exact ih1 _ _ _ _ _ _ hGg7 (oz14 p1_0 s10 kn1) (kj_meas (oz1175 efig6_64 efig7_64 s10 kn1) (oz45 c4) hm1)
        ·
          have c11 : vg8.toInt = ((-2) : Int32).toInt := kd_neF c; clear c
          have s12 : ((1 : Int) ≤ (1 <<< (l5_1 &&& 31)).toInt) ∧ ((1 <<< (l5_1 &&& 31)).toInt ≤ 256) := kd_shl1 (oz3 p1_0) (oz513 c4 fi1_64.2)
          have s13 : (l5_1 + 1).toInt = l5_1.toInt + (1 : Int32).toInt := kd_add (oz12 p1_0 kn1) (oz442 c4 fi1_64.2 kn1)
          refine ft_go mi_k75 8 6 [(5, .int (l5_1 + 1)), (4, .int (l4_1 ||| (1 <<< (l5_1 &&& 31)))), (0, .ref 49), (1, .ref 1), (2, .ref 106), (3, .int x3)] [] ig7 ag7 qg7 rg7 (by rfl) ?_
          have efig6_64 : (ig6 64).toInt = (i1 64).toInt := kg6.ti 64 rfl
          have efig7_64 : (ig7 64).toInt = (ig6 64).toInt := kg7.ti 64 rfl
          exact ih1 _ _ _ _ _ _ hGg7 (oz14 p1_0 s13 kn1) (kj_meas (oz1175 efig6_64 efig7_64 s13 kn1) (oz45 c4) hm1)
  exact lp1 _ _ _ _ _ _ _ (kG_self _ hG.I hG.R) (oz46 kn0) (Nat.lt_succ_self _)
def w75_49_1_108 : kW := ([645, 3200, 3206, 3207, 3208, 3209, 3214, 3215, 3216, 3586, 3781, 6405], [13, 51, 52, 53, 54, 55, 57, 58, 62, 63, 65, 66, 67, 68, 69, 70, 71, 72, 73, 74, 75, 76, 77, 103], [], [1])
def w75_49_1_108_L6 : kW := ([645, 3200, 3206, 3207, 3208, 3209, 3214, 3215, 3216, 3586, 3781, 6405], [13, 51, 52, 53, 54, 55, 57, 58, 62, 63, 65, 66, 67, 68, 69, 70, 71, 72, 73, 74, 75, 76, 77, 103], [], [1])
set_option maxRecDepth 100000 in
theorem kc75_49_1_108 {i : Nat → Int32} {a : Nat → List Int32} {q : Nat → List Int64} {r : Nat → Nat} (hI : kI i a q) (hr : kr r) (x3 : Int32) (hp0 : ((0 : Int) ≤ x3.toInt) ∧ (x3.toInt ≤ 19)) : km 11 75 [.ref 49, .ref 1, .ref 108, .int x3] (ks i a q r) (kVI w75_49_1_108 i a q r (fun v i1 a1 q1 r1 => True)) := by
  have hG := kG_self w75_49_1_108 hI hr
  refine km_ofI (q := (mi_h75, mi_c75)) rfl (by decide) (Nat.le_of_ble_eq_true rfl) ?_
  intro P hP
  refine ft_go mi_k75 4 6 [(5, .int 0), (4, .int 0), (0, .ref 49), (1, .ref 1), (2, .ref 108), (3, .int x3)] [] i a q r (by rfl) ?_
  have lp1 : ∀ (nz : Nat) (i1 : Nat → Int32) (a1 : Nat → List Int32) (q1 : Nat → List Int64) (r1 : Nat → Nat) (l5_1 : Int32) (l4_1 : Int32), kG w75_49_1_108_L6 i a q r i1 a1 q1 r1 → (0 : Int) ≤ l5_1.toInt → (((i1 64).toInt - l5_1.toInt)).toNat < nz → ko 11 (mi_h75, mi_c75) P (6, [(5, .int l5_1), (4, .int l4_1), (0, .ref 49), (1, .ref 1), (2, .ref 108), (3, .int x3)], [], (0, 0), ks i1 a1 q1 r1) := by
    intro nz
    induction nz with
    | zero =>
      intro _ _ _ _ _ _ _ _ hm
      exact absurd hm (Nat.not_lt_zero _)
    | succ nz ih1 =>
      intro i1 a1 q1 r1 l5_1 l4_1 hL1 p1_0 hm1
      have fi1_64 : ((0 : Int) ≤ (i1 64).toInt) ∧ ((i1 64).toInt ≤ 8) := hL1.I.1 64
      refine ft_go mi_k75 3 12 [(5, .int l5_1), (4, .int l4_1), (0, .ref 49), (1, .ref 1), (2, .ref 108), (3, .int x3)] [.int (i1 64), .int l5_1] i1 a1 q1 r1 (by rfl) ?_
      refine ft_if mi_k75 (decide ((i1 64) ≤ l5_1)) 60 15 [(5, .int l5_1), (4, .int l4_1), (0, .ref 49), (1, .ref 1), (2, .ref 108), (3, .int x3)] [] (by rfl) (fun c => ?_) (fun c => ?_)
      ·
        have c2 : (i1 64).toInt ≤ l5_1.toInt := kd_le c; clear c
        have hG3 := kG_call hG hL1 (by decide +kernel)
        refine ft_go mi_k75 1 62 [(5, .int l5_1), (4, .int l4_1), (0, .ref 49), (1, .ref 1), (2, .ref 108), (3, .int x3)] [.int l4_1] i1 a1 q1 r1 (by rfl) ?_
        exact ft_ret mi_k75 (by rfl) (hP l4_1 _ _ _ _ hG3 trivial)
      ·
        have c4 : l5_1.toInt < (i1 64).toInt := kd_leF c; clear c
        refine ft_go mi_k75 4 22 [(5, .int l5_1), (4, .int l4_1), (0, .ref 49), (1, .ref 1), (2, .ref 108), (3, .int x3)] [.int l5_1, .int x3, .ref 74] i1 a1 q1 r1 (by rfl) ?_
        refine ko_iast3 mi_k75.1 (n := 20) (c := 20) (ax := (0, 0, 0, 0, 0)) (mi_k75.2 _ _ (by rfl)) (by rfl) (ksG74 _ _ _ _) (ksA74 _ _ _ _) (hL1.I.2.1 74) rfl (oz3 hp0.1) (oz1065 hp0.2) ?_
        intro a5 ea5 fa5
        have hJ5 := kG_a3 hL1 74 rfl ea5 fa5 (kd_bd _)
        refine ft_go mi_k75 3 28 [(5, .int l5_1), (4, .int l4_1), (0, .ref 49), (1, .ref 1), (2, .ref 108), (3, .int x3)] [.ref 1, .ref 50] i1 a5 q1 r1 (by rfl) ?_
        refine ko_callN mi_k75.1 (pc := 28) (ls := [(5, .int l5_1), (4, .int l4_1), (0, .ref 49), (1, .ref 1), (2, .ref 108), (3, .int x3)]) (st := [.ref 1, .ref 50]) (h := ks i1 a5 q1 r1) (i := (.invokevirtual 56, 3, 34, 0, 9, 0, 212)) (mi_k75.2 _ _ (by rfl)) (ft_invS mi_pq34 (by rfl)) (cy := mi_c34) mi_pq34 rfl (kc34_50_1 hJ5.I hJ5.R ) (by decide) ?_
        intro ig6 ag6 qg6 rg6 kg6 hg6
        have hGg6 := kG_call hJ5 kg6 (by decide +kernel)
        refine ft_go mi_k75 1 32 [(5, .int l5_1), (4, .int l4_1), (0, .ref 49), (1, .ref 1), (2, .ref 108), (3, .int x3)] [.ref 49] ig6 ag6 qg6 rg6 (by rfl) ?_
        refine ko_callN mi_k75.1 (pc := 32) (ls := [(5, .int l5_1), (4, .int l4_1), (0, .ref 49), (1, .ref 1), (2, .ref 108), (3, .int x3)]) (st := [.ref 49]) (h := ks ig6 ag6 qg6 rg6) (i := (.invokevirtual 60, 3, 60, 0, 9, 0, 219)) (mi_k75.2 _ _ (by rfl)) (ft_invS mi_pq60 (by rfl)) (cy := mi_c60) mi_pq60 rfl (kc60_49 hGg6.I hGg6.R ) (by decide) ?_
        intro ig7 ag7 qg7 rg7 kg7 hg7
        have hGg7 := kG_call hGg6 kg7 (by decide +kernel)
        refine ft_go mi_k75 2 37 [(5, .int l5_1), (4, .int l4_1), (0, .ref 49), (1, .ref 1), (2, .ref 108), (3, .int x3)] [.ref 108, .ref 49] ig7 ag7 qg7 rg7 (by rfl) ?_
        refine ko_callPI mi_k75.1 (pc := 37) (ls := [(5, .int l5_1), (4, .int l4_1), (0, .ref 49), (1, .ref 1), (2, .ref 108), (3, .int x3)]) (st := [.ref 108, .ref 49]) (h := ks ig7 ag7 qg7 rg7) (i := (.invokevirtual 126, 3, 73, 0, 9, 0, 265)) (mi_k75.2 _ _ (by rfl)) (ft_invS mi_pq73 (by rfl)) (cy := mi_c73) mi_pq73 rfl (kc73_49_108 hGg7.I hGg7.R ) (by decide) ?_
        intro vg8 hg8
        refine ft_go mi_k75 1 42 [(5, .int l5_1), (4, .int l4_1), (0, .ref 49), (1, .ref 1), (2, .ref 108), (3, .int x3)] [.int (-2), .int vg8] ig7 ag7 qg7 rg7 (by rfl) ?_
        refine ft_if mi_k75 (vg8 != (-2)) 54 45 [(5, .int l5_1), (4, .int l4_1), (0, .ref 49), (1, .ref 1), (2, .ref 108), (3, .int x3)] [] (by rfl) (fun c => ?_) (fun c => ?_)
        ·
          have c9 : vg8.toInt ≠ ((-2) : Int32).toInt := kd_ne c; clear c
          have s10 : (l5_1 + 1).toInt = l5_1.toInt + (1 : Int32).toInt := kd_add (oz12 p1_0 kn1) (oz442 c4 fi1_64.2 kn1)
          refine ft_go mi_k75 2 6 [(5, .int (l5_1 + 1)), (4, .int l4_1), (0, .ref 49), (1, .ref 1), (2, .ref 108), (3, .int x3)] [] ig7 ag7 qg7 rg7 (by rfl) ?_
          have efig6_64 : (ig6 64).toInt = (i1 64).toInt := kg6.ti 64 rfl
          have efig7_64 : (ig7 64).toInt = (ig6 64).toInt := kg7.ti 64 rfl
          exact ih1 _ _ _ _ _ _ hGg7 (oz14 p1_0 s10 kn1) (kj_meas (oz1175 efig6_64 efig7_64 s10 kn1) (oz45 c4) hm1)
        ·
          have c11 : vg8.toInt = ((-2) : Int32).toInt := kd_neF c; clear c
          have s12 : ((1 : Int) ≤ (1 <<< (l5_1 &&& 31)).toInt) ∧ ((1 <<< (l5_1 &&& 31)).toInt ≤ 256) := kd_shl1 (oz3 p1_0) (oz513 c4 fi1_64.2)
          have s13 : (l5_1 + 1).toInt = l5_1.toInt + (1 : Int32).toInt := kd_add (oz12 p1_0 kn1) (oz442 c4 fi1_64.2 kn1)
          refine ft_go mi_k75 8 6 [(5, .int (l5_1 + 1)), (4, .int (l4_1 ||| (1 <<< (l5_1 &&& 31)))), (0, .ref 49), (1, .ref 1), (2, .ref 108), (3, .int x3)] [] ig7 ag7 qg7 rg7 (by rfl) ?_
          have efig6_64 : (ig6 64).toInt = (i1 64).toInt := kg6.ti 64 rfl
          have efig7_64 : (ig7 64).toInt = (ig6 64).toInt := kg7.ti 64 rfl
          exact ih1 _ _ _ _ _ _ hGg7 (oz14 p1_0 s13 kn1) (kj_meas (oz1175 efig6_64 efig7_64 s13 kn1) (oz45 c4) hm1)
  exact lp1 _ _ _ _ _ _ _ (kG_self _ hG.I hG.R) (oz46 kn0) (Nat.lt_succ_self _)
def w75_49_1_110 : kW := ([645, 3200, 3206, 3207, 3208, 3209, 3214, 3215, 3216, 3586, 3781, 6405], [13, 51, 52, 53, 54, 55, 57, 58, 62, 63, 65, 66, 67, 68, 69, 70, 71, 72, 73, 74, 75, 76, 77, 103], [], [1])
def w75_49_1_110_L6 : kW := ([645, 3200, 3206, 3207, 3208, 3209, 3214, 3215, 3216, 3586, 3781, 6405], [13, 51, 52, 53, 54, 55, 57, 58, 62, 63, 65, 66, 67, 68, 69, 70, 71, 72, 73, 74, 75, 76, 77, 103], [], [1])
set_option maxRecDepth 100000 in
theorem kc75_49_1_110 {i : Nat → Int32} {a : Nat → List Int32} {q : Nat → List Int64} {r : Nat → Nat} (hI : kI i a q) (hr : kr r) (x3 : Int32) (hp0 : ((0 : Int) ≤ x3.toInt) ∧ (x3.toInt ≤ 19)) : km 11 75 [.ref 49, .ref 1, .ref 110, .int x3] (ks i a q r) (kVI w75_49_1_110 i a q r (fun v i1 a1 q1 r1 => True)) := by
  have hG := kG_self w75_49_1_110 hI hr
  refine km_ofI (q := (mi_h75, mi_c75)) rfl (by decide) (Nat.le_of_ble_eq_true rfl) ?_
  intro P hP
  refine ft_go mi_k75 4 6 [(5, .int 0), (4, .int 0), (0, .ref 49), (1, .ref 1), (2, .ref 110), (3, .int x3)] [] i a q r (by rfl) ?_
  have lp1 : ∀ (nz : Nat) (i1 : Nat → Int32) (a1 : Nat → List Int32) (q1 : Nat → List Int64) (r1 : Nat → Nat) (l5_1 : Int32) (l4_1 : Int32), kG w75_49_1_110_L6 i a q r i1 a1 q1 r1 → (0 : Int) ≤ l5_1.toInt → (((i1 64).toInt - l5_1.toInt)).toNat < nz → ko 11 (mi_h75, mi_c75) P (6, [(5, .int l5_1), (4, .int l4_1), (0, .ref 49), (1, .ref 1), (2, .ref 110), (3, .int x3)], [], (0, 0), ks i1 a1 q1 r1) := by
    intro nz
    induction nz with
    | zero =>
      intro _ _ _ _ _ _ _ _ hm
      exact absurd hm (Nat.not_lt_zero _)
    | succ nz ih1 =>
      intro i1 a1 q1 r1 l5_1 l4_1 hL1 p1_0 hm1
      have fi1_64 : ((0 : Int) ≤ (i1 64).toInt) ∧ ((i1 64).toInt ≤ 8) := hL1.I.1 64
      refine ft_go mi_k75 3 12 [(5, .int l5_1), (4, .int l4_1), (0, .ref 49), (1, .ref 1), (2, .ref 110), (3, .int x3)] [.int (i1 64), .int l5_1] i1 a1 q1 r1 (by rfl) ?_
      refine ft_if mi_k75 (decide ((i1 64) ≤ l5_1)) 60 15 [(5, .int l5_1), (4, .int l4_1), (0, .ref 49), (1, .ref 1), (2, .ref 110), (3, .int x3)] [] (by rfl) (fun c => ?_) (fun c => ?_)
      ·
        have c2 : (i1 64).toInt ≤ l5_1.toInt := kd_le c; clear c
        have hG3 := kG_call hG hL1 (by decide +kernel)
        refine ft_go mi_k75 1 62 [(5, .int l5_1), (4, .int l4_1), (0, .ref 49), (1, .ref 1), (2, .ref 110), (3, .int x3)] [.int l4_1] i1 a1 q1 r1 (by rfl) ?_
        exact ft_ret mi_k75 (by rfl) (hP l4_1 _ _ _ _ hG3 trivial)
      ·
        have c4 : l5_1.toInt < (i1 64).toInt := kd_leF c; clear c
        refine ft_go mi_k75 4 22 [(5, .int l5_1), (4, .int l4_1), (0, .ref 49), (1, .ref 1), (2, .ref 110), (3, .int x3)] [.int l5_1, .int x3, .ref 74] i1 a1 q1 r1 (by rfl) ?_
        refine ko_iast3 mi_k75.1 (n := 20) (c := 20) (ax := (0, 0, 0, 0, 0)) (mi_k75.2 _ _ (by rfl)) (by rfl) (ksG74 _ _ _ _) (ksA74 _ _ _ _) (hL1.I.2.1 74) rfl (oz3 hp0.1) (oz1065 hp0.2) ?_
        intro a5 ea5 fa5
        have hJ5 := kG_a3 hL1 74 rfl ea5 fa5 (kd_bd _)
        refine ft_go mi_k75 3 28 [(5, .int l5_1), (4, .int l4_1), (0, .ref 49), (1, .ref 1), (2, .ref 110), (3, .int x3)] [.ref 1, .ref 50] i1 a5 q1 r1 (by rfl) ?_
        refine ko_callN mi_k75.1 (pc := 28) (ls := [(5, .int l5_1), (4, .int l4_1), (0, .ref 49), (1, .ref 1), (2, .ref 110), (3, .int x3)]) (st := [.ref 1, .ref 50]) (h := ks i1 a5 q1 r1) (i := (.invokevirtual 56, 3, 34, 0, 9, 0, 212)) (mi_k75.2 _ _ (by rfl)) (ft_invS mi_pq34 (by rfl)) (cy := mi_c34) mi_pq34 rfl (kc34_50_1 hJ5.I hJ5.R ) (by decide) ?_
        intro ig6 ag6 qg6 rg6 kg6 hg6
        have hGg6 := kG_call hJ5 kg6 (by decide +kernel)
        refine ft_go mi_k75 1 32 [(5, .int l5_1), (4, .int l4_1), (0, .ref 49), (1, .ref 1), (2, .ref 110), (3, .int x3)] [.ref 49] ig6 ag6 qg6 rg6 (by rfl) ?_
        refine ko_callN mi_k75.1 (pc := 32) (ls := [(5, .int l5_1), (4, .int l4_1), (0, .ref 49), (1, .ref 1), (2, .ref 110), (3, .int x3)]) (st := [.ref 49]) (h := ks ig6 ag6 qg6 rg6) (i := (.invokevirtual 60, 3, 60, 0, 9, 0, 219)) (mi_k75.2 _ _ (by rfl)) (ft_invS mi_pq60 (by rfl)) (cy := mi_c60) mi_pq60 rfl (kc60_49 hGg6.I hGg6.R ) (by decide) ?_
        intro ig7 ag7 qg7 rg7 kg7 hg7
        have hGg7 := kG_call hGg6 kg7 (by decide +kernel)
        refine ft_go mi_k75 2 37 [(5, .int l5_1), (4, .int l4_1), (0, .ref 49), (1, .ref 1), (2, .ref 110), (3, .int x3)] [.ref 110, .ref 49] ig7 ag7 qg7 rg7 (by rfl) ?_
        refine ko_callPI mi_k75.1 (pc := 37) (ls := [(5, .int l5_1), (4, .int l4_1), (0, .ref 49), (1, .ref 1), (2, .ref 110), (3, .int x3)]) (st := [.ref 110, .ref 49]) (h := ks ig7 ag7 qg7 rg7) (i := (.invokevirtual 126, 3, 73, 0, 9, 0, 265)) (mi_k75.2 _ _ (by rfl)) (ft_invS mi_pq73 (by rfl)) (cy := mi_c73) mi_pq73 rfl (kc73_49_110 hGg7.I hGg7.R ) (by decide) ?_
        intro vg8 hg8
        refine ft_go mi_k75 1 42 [(5, .int l5_1), (4, .int l4_1), (0, .ref 49), (1, .ref 1), (2, .ref 110), (3, .int x3)] [.int (-2), .int vg8] ig7 ag7 qg7 rg7 (by rfl) ?_
        refine ft_if mi_k75 (vg8 != (-2)) 54 45 [(5, .int l5_1), (4, .int l4_1), (0, .ref 49), (1, .ref 1), (2, .ref 110), (3, .int x3)] [] (by rfl) (fun c => ?_) (fun c => ?_)
        ·
          have c9 : vg8.toInt ≠ ((-2) : Int32).toInt := kd_ne c; clear c
          have s10 : (l5_1 + 1).toInt = l5_1.toInt + (1 : Int32).toInt := kd_add (oz12 p1_0 kn1) (oz442 c4 fi1_64.2 kn1)
          refine ft_go mi_k75 2 6 [(5, .int (l5_1 + 1)), (4, .int l4_1), (0, .ref 49), (1, .ref 1), (2, .ref 110), (3, .int x3)] [] ig7 ag7 qg7 rg7 (by rfl) ?_
          have efig6_64 : (ig6 64).toInt = (i1 64).toInt := kg6.ti 64 rfl
          have efig7_64 : (ig7 64).toInt = (ig6 64).toInt := kg7.ti 64 rfl
          exact ih1 _ _ _ _ _ _ hGg7 (oz14 p1_0 s10 kn1) (kj_meas (oz1175 efig6_64 efig7_64 s10 kn1) (oz45 c4) hm1)
        ·
          have c11 : vg8.toInt = ((-2) : Int32).toInt := kd_neF c; clear c
          have s12 : ((1 : Int) ≤ (1 <<< (l5_1 &&& 31)).toInt) ∧ ((1 <<< (l5_1 &&& 31)).toInt ≤ 256) := kd_shl1 (oz3 p1_0) (oz513 c4 fi1_64.2)
          have s13 : (l5_1 + 1).toInt = l5_1.toInt + (1 : Int32).toInt := kd_add (oz12 p1_0 kn1) (oz442 c4 fi1_64.2 kn1)
          refine ft_go mi_k75 8 6 [(5, .int (l5_1 + 1)), (4, .int (l4_1 ||| (1 <<< (l5_1 &&& 31)))), (0, .ref 49), (1, .ref 1), (2, .ref 110), (3, .int x3)] [] ig7 ag7 qg7 rg7 (by rfl) ?_
          have efig6_64 : (ig6 64).toInt = (i1 64).toInt := kg6.ti 64 rfl
          have efig7_64 : (ig7 64).toInt = (ig6 64).toInt := kg7.ti 64 rfl
          exact ih1 _ _ _ _ _ _ hGg7 (oz14 p1_0 s13 kn1) (kj_meas (oz1175 efig6_64 efig7_64 s13 kn1) (oz45 c4) hm1)
  exact lp1 _ _ _ _ _ _ _ (kG_self _ hG.I hG.R) (oz46 kn0) (Nat.lt_succ_self _)
def w75_49_1_112 : kW := ([645, 3200, 3206, 3207, 3208, 3209, 3214, 3215, 3216, 3586, 3781, 6405], [13, 51, 52, 53, 54, 55, 57, 58, 62, 63, 65, 66, 67, 68, 69, 70, 71, 72, 73, 74, 75, 76, 77, 103], [], [1])
def w75_49_1_112_L6 : kW := ([645, 3200, 3206, 3207, 3208, 3209, 3214, 3215, 3216, 3586, 3781, 6405], [13, 51, 52, 53, 54, 55, 57, 58, 62, 63, 65, 66, 67, 68, 69, 70, 71, 72, 73, 74, 75, 76, 77, 103], [], [1])
set_option maxRecDepth 100000 in
theorem kc75_49_1_112 {i : Nat → Int32} {a : Nat → List Int32} {q : Nat → List Int64} {r : Nat → Nat} (hI : kI i a q) (hr : kr r) (x3 : Int32) (hp0 : ((0 : Int) ≤ x3.toInt) ∧ (x3.toInt ≤ 19)) : km 11 75 [.ref 49, .ref 1, .ref 112, .int x3] (ks i a q r) (kVI w75_49_1_112 i a q r (fun v i1 a1 q1 r1 => True)) := by
  have hG := kG_self w75_49_1_112 hI hr
  refine km_ofI (q := (mi_h75, mi_c75)) rfl (by decide) (Nat.le_of_ble_eq_true rfl) ?_
  intro P hP
  refine ft_go mi_k75 4 6 [(5, .int 0), (4, .int 0), (0, .ref 49), (1, .ref 1), (2, .ref 112), (3, .int x3)] [] i a q r (by rfl) ?_
  have lp1 : ∀ (nz : Nat) (i1 : Nat → Int32) (a1 : Nat → List Int32) (q1 : Nat → List Int64) (r1 : Nat → Nat) (l5_1 : Int32) (l4_1 : Int32), kG w75_49_1_112_L6 i a q r i1 a1 q1 r1 → (0 : Int) ≤ l5_1.toInt → (((i1 64).toInt - l5_1.toInt)).toNat < nz → ko 11 (mi_h75, mi_c75) P (6, [(5, .int l5_1), (4, .int l4_1), (0, .ref 49), (1, .ref 1), (2, .ref 112), (3, .int x3)], [], (0, 0), ks i1 a1 q1 r1) := by
    intro nz
    induction nz with
    | zero =>
      intro _ _ _ _ _ _ _ _ hm
      exact absurd hm (Nat.not_lt_zero _)
    | succ nz ih1 =>
      intro i1 a1 q1 r1 l5_1 l4_1 hL1 p1_0 hm1
      have fi1_64 : ((0 : Int) ≤ (i1 64).toInt) ∧ ((i1 64).toInt ≤ 8) := hL1.I.1 64
      refine ft_go mi_k75 3 12 [(5, .int l5_1), (4, .int l4_1), (0, .ref 49), (1, .ref 1), (2, .ref 112), (3, .int x3)] [.int (i1 64), .int l5_1] i1 a1 q1 r1 (by rfl) ?_
      refine ft_if mi_k75 (decide ((i1 64) ≤ l5_1)) 60 15 [(5, .int l5_1), (4, .int l4_1), (0, .ref 49), (1, .ref 1), (2, .ref 112), (3, .int x3)] [] (by rfl) (fun c => ?_) (fun c => ?_)
      ·
        have c2 : (i1 64).toInt ≤ l5_1.toInt := kd_le c; clear c
        have hG3 := kG_call hG hL1 (by decide +kernel)
        refine ft_go mi_k75 1 62 [(5, .int l5_1), (4, .int l4_1), (0, .ref 49), (1, .ref 1), (2, .ref 112), (3, .int x3)] [.int l4_1] i1 a1 q1 r1 (by rfl) ?_
        exact ft_ret mi_k75 (by rfl) (hP l4_1 _ _ _ _ hG3 trivial)
      ·
        have c4 : l5_1.toInt < (i1 64).toInt := kd_leF c; clear c
        refine ft_go mi_k75 4 22 [(5, .int l5_1), (4, .int l4_1), (0, .ref 49), (1, .ref 1), (2, .ref 112), (3, .int x3)] [.int l5_1, .int x3, .ref 74] i1 a1 q1 r1 (by rfl) ?_
        refine ko_iast3 mi_k75.1 (n := 20) (c := 20) (ax := (0, 0, 0, 0, 0)) (mi_k75.2 _ _ (by rfl)) (by rfl) (ksG74 _ _ _ _) (ksA74 _ _ _ _) (hL1.I.2.1 74) rfl (oz3 hp0.1) (oz1065 hp0.2) ?_
        intro a5 ea5 fa5
        have hJ5 := kG_a3 hL1 74 rfl ea5 fa5 (kd_bd _)
        refine ft_go mi_k75 3 28 [(5, .int l5_1), (4, .int l4_1), (0, .ref 49), (1, .ref 1), (2, .ref 112), (3, .int x3)] [.ref 1, .ref 50] i1 a5 q1 r1 (by rfl) ?_
        refine ko_callN mi_k75.1 (pc := 28) (ls := [(5, .int l5_1), (4, .int l4_1), (0, .ref 49), (1, .ref 1), (2, .ref 112), (3, .int x3)]) (st := [.ref 1, .ref 50]) (h := ks i1 a5 q1 r1) (i := (.invokevirtual 56, 3, 34, 0, 9, 0, 212)) (mi_k75.2 _ _ (by rfl)) (ft_invS mi_pq34 (by rfl)) (cy := mi_c34) mi_pq34 rfl (kc34_50_1 hJ5.I hJ5.R ) (by decide) ?_
        intro ig6 ag6 qg6 rg6 kg6 hg6
        have hGg6 := kG_call hJ5 kg6 (by decide +kernel)
        refine ft_go mi_k75 1 32 [(5, .int l5_1), (4, .int l4_1), (0, .ref 49), (1, .ref 1), (2, .ref 112), (3, .int x3)] [.ref 49] ig6 ag6 qg6 rg6 (by rfl) ?_
        refine ko_callN mi_k75.1 (pc := 32) (ls := [(5, .int l5_1), (4, .int l4_1), (0, .ref 49), (1, .ref 1), (2, .ref 112), (3, .int x3)]) (st := [.ref 49]) (h := ks ig6 ag6 qg6 rg6) (i := (.invokevirtual 60, 3, 60, 0, 9, 0, 219)) (mi_k75.2 _ _ (by rfl)) (ft_invS mi_pq60 (by rfl)) (cy := mi_c60) mi_pq60 rfl (kc60_49 hGg6.I hGg6.R ) (by decide) ?_
        intro ig7 ag7 qg7 rg7 kg7 hg7
        have hGg7 := kG_call hGg6 kg7 (by decide +kernel)
        refine ft_go mi_k75 2 37 [(5, .int l5_1), (4, .int l4_1), (0, .ref 49), (1, .ref 1), (2, .ref 112), (3, .int x3)] [.ref 112, .ref 49] ig7 ag7 qg7 rg7 (by rfl) ?_
        refine ko_callPI mi_k75.1 (pc := 37) (ls := [(5, .int l5_1), (4, .int l4_1), (0, .ref 49), (1, .ref 1), (2, .ref 112), (3, .int x3)]) (st := [.ref 112, .ref 49]) (h := ks ig7 ag7 qg7 rg7) (i := (.invokevirtual 126, 3, 73, 0, 9, 0, 265)) (mi_k75.2 _ _ (by rfl)) (ft_invS mi_pq73 (by rfl)) (cy := mi_c73) mi_pq73 rfl (kc73_49_112 hGg7.I hGg7.R ) (by decide) ?_
        intro vg8 hg8
        refine ft_go mi_k75 1 42 [(5, .int l5_1), (4, .int l4_1), (0, .ref 49), (1, .ref 1), (2, .ref 112), (3, .int x3)] [.int (-2), .int vg8] ig7 ag7 qg7 rg7 (by rfl) ?_
        refine ft_if mi_k75 (vg8 != (-2)) 54 45 [(5, .int l5_1), (4, .int l4_1), (0, .ref 49), (1, .ref 1), (2, .ref 112), (3, .int x3)] [] (by rfl) (fun c => ?_) (fun c => ?_)
        ·
          have c9 : vg8.toInt ≠ ((-2) : Int32).toInt := kd_ne c; clear c
          have s10 : (l5_1 + 1).toInt = l5_1.toInt + (1 : Int32).toInt := kd_add (oz12 p1_0 kn1) (oz442 c4 fi1_64.2 kn1)
          refine ft_go mi_k75 2 6 [(5, .int (l5_1 + 1)), (4, .int l4_1), (0, .ref 49), (1, .ref 1), (2, .ref 112), (3, .int x3)] [] ig7 ag7 qg7 rg7 (by rfl) ?_
          have efig6_64 : (ig6 64).toInt = (i1 64).toInt := kg6.ti 64 rfl
          have efig7_64 : (ig7 64).toInt = (ig6 64).toInt := kg7.ti 64 rfl
          exact ih1 _ _ _ _ _ _ hGg7 (oz14 p1_0 s10 kn1) (kj_meas (oz1175 efig6_64 efig7_64 s10 kn1) (oz45 c4) hm1)
        ·
          have c11 : vg8.toInt = ((-2) : Int32).toInt := kd_neF c; clear c
          have s12 : ((1 : Int) ≤ (1 <<< (l5_1 &&& 31)).toInt) ∧ ((1 <<< (l5_1 &&& 31)).toInt ≤ 256) := kd_shl1 (oz3 p1_0) (oz513 c4 fi1_64.2)
          have s13 : (l5_1 + 1).toInt = l5_1.toInt + (1 : Int32).toInt := kd_add (oz12 p1_0 kn1) (oz442 c4 fi1_64.2 kn1)
          refine ft_go mi_k75 8 6 [(5, .int (l5_1 + 1)), (4, .int (l4_1 ||| (1 <<< (l5_1 &&& 31)))), (0, .ref 49), (1, .ref 1), (2, .ref 112), (3, .int x3)] [] ig7 ag7 qg7 rg7 (by rfl) ?_
          have efig6_64 : (ig6 64).toInt = (i1 64).toInt := kg6.ti 64 rfl
          have efig7_64 : (ig7 64).toInt = (ig6 64).toInt := kg7.ti 64 rfl
          exact ih1 _ _ _ _ _ _ hGg7 (oz14 p1_0 s13 kn1) (kj_meas (oz1175 efig6_64 efig7_64 s13 kn1) (oz45 c4) hm1)
  exact lp1 _ _ _ _ _ _ _ (kG_self _ hG.I hG.R) (oz46 kn0) (Nat.lt_succ_self _)
def w75_49_1_114 : kW := ([645, 3200, 3206, 3207, 3208, 3209, 3214, 3215, 3216, 3586, 3781, 6405], [13, 51, 52, 53, 54, 55, 57, 58, 62, 63, 65, 66, 67, 68, 69, 70, 71, 72, 73, 74, 75, 76, 77, 103], [], [1])
def w75_49_1_114_L6 : kW := ([645, 3200, 3206, 3207, 3208, 3209, 3214, 3215, 3216, 3586, 3781, 6405], [13, 51, 52, 53, 54, 55, 57, 58, 62, 63, 65, 66, 67, 68, 69, 70, 71, 72, 73, 74, 75, 76, 77, 103], [], [1])
set_option maxRecDepth 100000 in
theorem kc75_49_1_114 {i : Nat → Int32} {a : Nat → List Int32} {q : Nat → List Int64} {r : Nat → Nat} (hI : kI i a q) (hr : kr r) (x3 : Int32) (hp0 : ((0 : Int) ≤ x3.toInt) ∧ (x3.toInt ≤ 19)) : km 11 75 [.ref 49, .ref 1, .ref 114, .int x3] (ks i a q r) (kVI w75_49_1_114 i a q r (fun v i1 a1 q1 r1 => True)) := by
  have hG := kG_self w75_49_1_114 hI hr
  refine km_ofI (q := (mi_h75, mi_c75)) rfl (by decide) (Nat.le_of_ble_eq_true rfl) ?_
  intro P hP
  refine ft_go mi_k75 4 6 [(5, .int 0), (4, .int 0), (0, .ref 49), (1, .ref 1), (2, .ref 114), (3, .int x3)] [] i a q r (by rfl) ?_
  have lp1 : ∀ (nz : Nat) (i1 : Nat → Int32) (a1 : Nat → List Int32) (q1 : Nat → List Int64) (r1 : Nat → Nat) (l5_1 : Int32) (l4_1 : Int32), kG w75_49_1_114_L6 i a q r i1 a1 q1 r1 → (0 : Int) ≤ l5_1.toInt → (((i1 64).toInt - l5_1.toInt)).toNat < nz → ko 11 (mi_h75, mi_c75) P (6, [(5, .int l5_1), (4, .int l4_1), (0, .ref 49), (1, .ref 1), (2, .ref 114), (3, .int x3)], [], (0, 0), ks i1 a1 q1 r1) := by
    intro nz
    induction nz with
    | zero =>
      intro _ _ _ _ _ _ _ _ hm
      exact absurd hm (Nat.not_lt_zero _)
    | succ nz ih1 =>
      intro i1 a1 q1 r1 l5_1 l4_1 hL1 p1_0 hm1
      have fi1_64 : ((0 : Int) ≤ (i1 64).toInt) ∧ ((i1 64).toInt ≤ 8) := hL1.I.1 64
      refine ft_go mi_k75 3 12 [(5, .int l5_1), (4, .int l4_1), (0, .ref 49), (1, .ref 1), (2, .ref 114), (3, .int x3)] [.int (i1 64), .int l5_1] i1 a1 q1 r1 (by rfl) ?_
      refine ft_if mi_k75 (decide ((i1 64) ≤ l5_1)) 60 15 [(5, .int l5_1), (4, .int l4_1), (0, .ref 49), (1, .ref 1), (2, .ref 114), (3, .int x3)] [] (by rfl) (fun c => ?_) (fun c => ?_)
      ·
        have c2 : (i1 64).toInt ≤ l5_1.toInt := kd_le c; clear c
        have hG3 := kG_call hG hL1 (by decide +kernel)
        refine ft_go mi_k75 1 62 [(5, .int l5_1), (4, .int l4_1), (0, .ref 49), (1, .ref 1), (2, .ref 114), (3, .int x3)] [.int l4_1] i1 a1 q1 r1 (by rfl) ?_
        exact ft_ret mi_k75 (by rfl) (hP l4_1 _ _ _ _ hG3 trivial)
      ·
        have c4 : l5_1.toInt < (i1 64).toInt := kd_leF c; clear c
        refine ft_go mi_k75 4 22 [(5, .int l5_1), (4, .int l4_1), (0, .ref 49), (1, .ref 1), (2, .ref 114), (3, .int x3)] [.int l5_1, .int x3, .ref 74] i1 a1 q1 r1 (by rfl) ?_
        refine ko_iast3 mi_k75.1 (n := 20) (c := 20) (ax := (0, 0, 0, 0, 0)) (mi_k75.2 _ _ (by rfl)) (by rfl) (ksG74 _ _ _ _) (ksA74 _ _ _ _) (hL1.I.2.1 74) rfl (oz3 hp0.1) (oz1065 hp0.2) ?_
        intro a5 ea5 fa5
        have hJ5 := kG_a3 hL1 74 rfl ea5 fa5 (kd_bd _)
        refine ft_go mi_k75 3 28 [(5, .int l5_1), (4, .int l4_1), (0, .ref 49), (1, .ref 1), (2, .ref 114), (3, .int x3)] [.ref 1, .ref 50] i1 a5 q1 r1 (by rfl) ?_
        refine ko_callN mi_k75.1 (pc := 28) (ls := [(5, .int l5_1), (4, .int l4_1), (0, .ref 49), (1, .ref 1), (2, .ref 114), (3, .int x3)]) (st := [.ref 1, .ref 50]) (h := ks i1 a5 q1 r1) (i := (.invokevirtual 56, 3, 34, 0, 9, 0, 212)) (mi_k75.2 _ _ (by rfl)) (ft_invS mi_pq34 (by rfl)) (cy := mi_c34) mi_pq34 rfl (kc34_50_1 hJ5.I hJ5.R ) (by decide) ?_
        intro ig6 ag6 qg6 rg6 kg6 hg6
        have hGg6 := kG_call hJ5 kg6 (by decide +kernel)
        refine ft_go mi_k75 1 32 [(5, .int l5_1), (4, .int l4_1), (0, .ref 49), (1, .ref 1), (2, .ref 114), (3, .int x3)] [.ref 49] ig6 ag6 qg6 rg6 (by rfl) ?_
        refine ko_callN mi_k75.1 (pc := 32) (ls := [(5, .int l5_1), (4, .int l4_1), (0, .ref 49), (1, .ref 1), (2, .ref 114), (3, .int x3)]) (st := [.ref 49]) (h := ks ig6 ag6 qg6 rg6) (i := (.invokevirtual 60, 3, 60, 0, 9, 0, 219)) (mi_k75.2 _ _ (by rfl)) (ft_invS mi_pq60 (by rfl)) (cy := mi_c60) mi_pq60 rfl (kc60_49 hGg6.I hGg6.R ) (by decide) ?_
        intro ig7 ag7 qg7 rg7 kg7 hg7
        have hGg7 := kG_call hGg6 kg7 (by decide +kernel)
        refine ft_go mi_k75 2 37 [(5, .int l5_1), (4, .int l4_1), (0, .ref 49), (1, .ref 1), (2, .ref 114), (3, .int x3)] [.ref 114, .ref 49] ig7 ag7 qg7 rg7 (by rfl) ?_
        refine ko_callPI mi_k75.1 (pc := 37) (ls := [(5, .int l5_1), (4, .int l4_1), (0, .ref 49), (1, .ref 1), (2, .ref 114), (3, .int x3)]) (st := [.ref 114, .ref 49]) (h := ks ig7 ag7 qg7 rg7) (i := (.invokevirtual 126, 3, 73, 0, 9, 0, 265)) (mi_k75.2 _ _ (by rfl)) (ft_invS mi_pq73 (by rfl)) (cy := mi_c73) mi_pq73 rfl (kc73_49_114 hGg7.I hGg7.R ) (by decide) ?_
        intro vg8 hg8
        refine ft_go mi_k75 1 42 [(5, .int l5_1), (4, .int l4_1), (0, .ref 49), (1, .ref 1), (2, .ref 114), (3, .int x3)] [.int (-2), .int vg8] ig7 ag7 qg7 rg7 (by rfl) ?_
        refine ft_if mi_k75 (vg8 != (-2)) 54 45 [(5, .int l5_1), (4, .int l4_1), (0, .ref 49), (1, .ref 1), (2, .ref 114), (3, .int x3)] [] (by rfl) (fun c => ?_) (fun c => ?_)
        ·
          have c9 : vg8.toInt ≠ ((-2) : Int32).toInt := kd_ne c; clear c
          have s10 : (l5_1 + 1).toInt = l5_1.toInt + (1 : Int32).toInt := kd_add (oz12 p1_0 kn1) (oz442 c4 fi1_64.2 kn1)
          refine ft_go mi_k75 2 6 [(5, .int (l5_1 + 1)), (4, .int l4_1), (0, .ref 49), (1, .ref 1), (2, .ref 114), (3, .int x3)] [] ig7 ag7 qg7 rg7 (by rfl) ?_
          have efig6_64 : (ig6 64).toInt = (i1 64).toInt := kg6.ti 64 rfl
          have efig7_64 : (ig7 64).toInt = (ig6 64).toInt := kg7.ti 64 rfl
          exact ih1 _ _ _ _ _ _ hGg7 (oz14 p1_0 s10 kn1) (kj_meas (oz1175 efig6_64 efig7_64 s10 kn1) (oz45 c4) hm1)
        ·
          have c11 : vg8.toInt = ((-2) : Int32).toInt := kd_neF c; clear c
          have s12 : ((1 : Int) ≤ (1 <<< (l5_1 &&& 31)).toInt) ∧ ((1 <<< (l5_1 &&& 31)).toInt ≤ 256) := kd_shl1 (oz3 p1_0) (oz513 c4 fi1_64.2)
          have s13 : (l5_1 + 1).toInt = l5_1.toInt + (1 : Int32).toInt := kd_add (oz12 p1_0 kn1) (oz442 c4 fi1_64.2 kn1)
          refine ft_go mi_k75 8 6 [(5, .int (l5_1 + 1)), (4, .int (l4_1 ||| (1 <<< (l5_1 &&& 31)))), (0, .ref 49), (1, .ref 1), (2, .ref 114), (3, .int x3)] [] ig7 ag7 qg7 rg7 (by rfl) ?_
          have efig6_64 : (ig6 64).toInt = (i1 64).toInt := kg6.ti 64 rfl
          have efig7_64 : (ig7 64).toInt = (ig6 64).toInt := kg7.ti 64 rfl
          exact ih1 _ _ _ _ _ _ hGg7 (oz14 p1_0 s13 kn1) (kj_meas (oz1175 efig6_64 efig7_64 s13 kn1) (oz45 c4) hm1)
  exact lp1 _ _ _ _ _ _ _ (kG_self _ hG.I hG.R) (oz46 kn0) (Nat.lt_succ_self _)
def w28_50 : kW := ([3206, 3207, 3208], [51, 52, 53, 54], [], [])
set_option maxRecDepth 100000 in
theorem kc28_50 {i : Nat → Int32} {a : Nat → List Int32} {q : Nat → List Int64} {r : Nat → Nat} (hI : kI i a q) (hr : kr r) (x1 : Int32) (x2 : Int32) (x3 : Int32) : km 3 28 [.ref 50, .int x1, .int x2, .int x3] (ks i a q r) (kVN w28_50 i a q r (fun i1 a1 q1 r1 => True)) := by
  have hG := kG_self w28_50 hI hr
  refine km_ofN (q := (mi_h28, mi_c28)) rfl (by decide) (Nat.le_of_ble_eq_true rfl) ?_
  intro P hP
  refine ft_go mi_k28 2 2 [(0, .ref 50), (1, .int x1), (2, .int x2), (3, .int x3)] [.int 4, .int x2] i a q r (by rfl) ?_
  refine ft_if mi_k28 (x2 != 4) 13 5 [(0, .ref 50), (1, .int x1), (2, .int x2), (3, .int x3)] [] (by rfl) (fun c => ?_) (fun c => ?_)
  ·
    have c1 : x2.toInt ≠ (4 : Int32).toInt := kd_ne c; clear c
    refine ft_go mi_k28 2 15 [(0, .ref 50), (1, .int x1), (2, .int x2), (3, .int x3)] [.int 5, .int x2] i a q r (by rfl) ?_
    refine ft_if mi_k28 (x2 != 5) 26 18 [(0, .ref 50), (1, .int x1), (2, .int x2), (3, .int x3)] [] (by rfl) (fun c => ?_) (fun c => ?_)
    ·
      have c2 : x2.toInt ≠ (5 : Int32).toInt := kd_ne c; clear c
      refine ft_go mi_k28 2 29 [(0, .ref 50), (1, .int x1), (2, .int x2), (3, .int x3)] [.int 6, .int x2] i a q r (by rfl) ?_
      refine ft_if mi_k28 (x2 != 6) 40 32 [(0, .ref 50), (1, .int x1), (2, .int x2), (3, .int x3)] [] (by rfl) (fun c => ?_) (fun c => ?_)
      ·
        have c3 : x2.toInt ≠ (6 : Int32).toInt := kd_ne c; clear c
        refine ft_go mi_k28 2 42 [(0, .ref 50), (1, .int x1), (2, .int x2), (3, .int x3)] [.int x1, .ref 50] i a q r (by rfl) ?_
        refine ko_callPI mi_k28.1 (pc := 42) (ls := [(0, .ref 50), (1, .int x1), (2, .int x2), (3, .int x3)]) (st := [.int x1, .ref 50]) (h := ks i a q r) (i := (.invokevirtual 85, 3, 24, 0, 9, 0, 165)) (mi_k28.2 _ _ (by rfl)) (ft_invS mi_pq24 (by rfl)) (cy := mi_c24) mi_pq24 rfl (kc24_50 hG.I hG.R x1) (by decide) ?_
        intro vg4 hg4
        rcases hg4 with ⟨eg4, hg4⟩ | ⟨eg4, hg4⟩
        ·
          subst eg4
          have fi_3200 : ((0 : Int) ≤ (i 3200).toInt) ∧ ((i 3200).toInt ≤ 8) := hG.I.1 3200
          have z5 : ((0 : Int) ≤ x1.toInt) ∧ (x1.toInt < (i 3200).toInt) := hg4
          refine ft_go mi_k28 3 50 [(0, .ref 50), (1, .int x1), (2, .int x2), (3, .int x3)] [.int x2, .ref 50] i a q r (by rfl) ?_
          refine ko_callPR mi_k28.1 (pc := 50) (ls := [(0, .ref 50), (1, .int x1), (2, .int x2), (3, .int x3)]) (st := [.int x2, .ref 50]) (h := ks i a q r) (i := (.invokevirtual 89, 3, 26, 0, 9, 0, 166)) (mi_k28.2 _ _ (by rfl)) (ft_invS mi_pq26 (by rfl)) (cy := mi_c26) mi_pq26 rfl (kc26_50 hG.I hG.R x2) (by decide) ?_
          intro vg6 hg6
          rcases hg6 with ⟨eg6, hg6⟩ | ⟨eg6, hg6⟩ | ⟨eg6, hg6⟩ | ⟨eg6, hg6⟩
          ·
            subst eg6
            refine ft_go mi_k28 2 55 [(0, .ref 50), (1, .int x1), (2, .int x2), (3, .int x3)] [.int x3, .int x1, .ref 51] i a q r (by rfl) ?_
            refine ko_iast3 mi_k28.1 (n := 8) (c := 8) (ax := (0, 0, 0, 0, 0)) (mi_k28.2 _ _ (by rfl)) (by rfl) (ksG51 _ _ _ _) (ksA51 _ _ _ _) (hG.I.2.1 51) rfl (oz3 z5.1) (oz974 fi_3200.2 z5.2) ?_
            intro a7 ea7 fa7
            have hJ7 := kG_a3 hG 51 rfl ea7 fa7 (kd_bd _)
            exact ft_ret mi_k28 (by rfl) (hP  _ _ _ _ hJ7 trivial)
          ·
            subst eg6
            refine ft_go mi_k28 2 55 [(0, .ref 50), (1, .int x1), (2, .int x2), (3, .int x3)] [.int x3, .int x1, .ref 52] i a q r (by rfl) ?_
            refine ko_iast3 mi_k28.1 (n := 8) (c := 8) (ax := (0, 0, 0, 0, 0)) (mi_k28.2 _ _ (by rfl)) (by rfl) (ksG52 _ _ _ _) (ksA52 _ _ _ _) (hG.I.2.1 52) rfl (oz3 z5.1) (oz974 fi_3200.2 z5.2) ?_
            intro a8 ea8 fa8
            have hJ8 := kG_a3 hG 52 rfl ea8 fa8 (kd_bd _)
            exact ft_ret mi_k28 (by rfl) (hP  _ _ _ _ hJ8 trivial)
          ·
            subst eg6
            refine ft_go mi_k28 2 55 [(0, .ref 50), (1, .int x1), (2, .int x2), (3, .int x3)] [.int x3, .int x1, .ref 53] i a q r (by rfl) ?_
            refine ko_iast3 mi_k28.1 (n := 8) (c := 8) (ax := (0, 0, 0, 0, 0)) (mi_k28.2 _ _ (by rfl)) (by rfl) (ksG53 _ _ _ _) (ksA53 _ _ _ _) (hG.I.2.1 53) rfl (oz3 z5.1) (oz974 fi_3200.2 z5.2) ?_
            intro a9 ea9 fa9
            have hJ9 := kG_a3 hG 53 rfl ea9 fa9 (kd_bd _)
            exact ft_ret mi_k28 (by rfl) (hP  _ _ _ _ hJ9 trivial)
          ·
            subst eg6
            refine ft_go mi_k28 2 55 [(0, .ref 50), (1, .int x1), (2, .int x2), (3, .int x3)] [.int x3, .int x1, .ref 54] i a q r (by rfl) ?_
            refine ko_iast3 mi_k28.1 (n := 8) (c := 8) (ax := (0, 0, 0, 0, 0)) (mi_k28.2 _ _ (by rfl)) (by rfl) (ksG54 _ _ _ _) (ksA54 _ _ _ _) (hG.I.2.1 54) rfl (oz3 z5.1) (oz974 fi_3200.2 z5.2) ?_
            intro a10 ea10 fa10
            have hJ10 := kG_a3 hG 54 rfl ea10 fa10 (kd_bd _)
            exact ft_ret mi_k28 (by rfl) (hP  _ _ _ _ hJ10 trivial)
        ·
          subst eg4
          refine ft_go mi_k28 1 56 [(0, .ref 50), (1, .int x1), (2, .int x2), (3, .int x3)] [] i a q r (by rfl) ?_
          exact ft_ret mi_k28 (by rfl) (hP  _ _ _ _ hG trivial)
      ·
        have c12 : x2.toInt = (6 : Int32).toInt := kd_neF c; clear c
        have hJ13 := kG_i hG 3208 rfl (v := x3) (kd_bd _)
        refine ft_go mi_k28 4 56 [(0, .ref 50), (1, .int x1), (2, .int x2), (3, .int x3)] [] (ku i 3208 x3) a q r (by rfl) ?_
        exact ft_ret mi_k28 (by rfl) (hP  _ _ _ _ hJ13 trivial)
    ·
      have c14 : x2.toInt = (5 : Int32).toInt := kd_neF c; clear c
      have hJ15 := kG_i hG 3207 rfl (v := x3) (kd_bd _)
      refine ft_go mi_k28 4 56 [(0, .ref 50), (1, .int x1), (2, .int x2), (3, .int x3)] [] (ku i 3207 x3) a q r (by rfl) ?_
      exact ft_ret mi_k28 (by rfl) (hP  _ _ _ _ hJ15 trivial)
  ·
    have c16 : x2.toInt = (4 : Int32).toInt := kd_neF c; clear c
    have hJ17 := kG_i hG 3206 rfl (v := x3) (kd_bd _)
    refine ft_go mi_k28 4 56 [(0, .ref 50), (1, .int x1), (2, .int x2), (3, .int x3)] [] (ku i 3206 x3) a q r (by rfl) ?_
    exact ft_ret mi_k28 (by rfl) (hP  _ _ _ _ hJ17 trivial)
def w76_49_1_104 : kW := ([645, 3200, 3206, 3207, 3208, 3209, 3214, 3215, 3216, 3586, 3781, 6405], [13, 51, 52, 53, 54, 55, 57, 58, 62, 63, 65, 66, 67, 68, 69, 70, 71, 72, 73, 75, 76, 77, 103], [], [1])
def w76_49_1_104_L10 : kW := ([645, 3200, 3206, 3207, 3208, 3209, 3214, 3215, 3216, 3586, 3781, 6405], [13, 51, 52, 53, 54, 55, 57, 58, 62, 63, 65, 66, 67, 68, 69, 70, 71, 72, 73, 75, 76, 77, 103], [], [1])
set_option maxRecDepth 100000 in
theorem kc76_49_1_104 {i : Nat → Int32} {a : Nat → List Int32} {q : Nat → List Int64} {r : Nat → Nat} (hI : kI i a q) (hr : kr r) (x3 : Int32) : km 11 76 [.ref 49, .ref 1, .ref 104, .int x3] (ks i a q r) (kVI w76_49_1_104 i a q r (fun v i1 a1 q1 r1 => True)) := by
  have hG := kG_self w76_49_1_104 hI hr
  refine km_ofI (q := (mi_h76, mi_c76)) rfl (by decide) (Nat.le_of_ble_eq_true rfl) ?_
  intro P hP
  refine ft_go mi_k76 4 7 [(4, .int 0), (0, .ref 49), (1, .ref 1), (2, .ref 104), (3, .int x3)] [.int 1, .ref (mi_RO + 1)] i a q r (by rfl) ?_
  refine ko_iaro2 mi_k76.1 (l := [0, 0, 0, 0, 1, 0, 0]) (n := 7) (c := 7) (ax := (0, 0, 0, 0, 0)) (mi_k76.2 _ _ (by rfl)) (by rfl) (by rfl) rfl rfl (oz246 kn1) (oz1181 kn1) ?_
  have r1 : ((0 : Int) ≤ (([0, 0, 0, 0, 1, 0, 0] : List Int32).getD (1 : Int32).toNatClampNeg 0).toInt) ∧ ((([0, 0, 0, 0, 1, 0, 0] : List Int32).getD (1 : Int32).toNatClampNeg 0).toInt ≤ 1) := kro_rng (lo := 0) (hi := 1) (by decide) ((1 : Int32).toNatClampNeg)
  refine ft_go mi_k76 1 10 [(5, .int (([0, 0, 0, 0, 1, 0, 0] : List Int32).getD (1 : Int32).toNatClampNeg 0)), (4, .int 0), (0, .ref 49), (1, .ref 1), (2, .ref 104), (3, .int x3)] [] i a q r (by rfl) ?_
  have lp2 : ∀ (nz : Nat) (i2 : Nat → Int32) (a2 : Nat → List Int32) (q2 : Nat → List Int64) (r2 : Nat → Nat) (l5_2 : Int32) (l4_2 : Int32), kG w76_49_1_104_L10 i a q r i2 a2 q2 r2 → (0 : Int) ≤ l5_2.toInt → ((1001 - l5_2.toInt)).toNat < nz → ko 11 (mi_h76, mi_c76) P (10, [(5, .int l5_2), (4, .int l4_2), (0, .ref 49), (1, .ref 1), (2, .ref 104), (3, .int x3)], [], (0, 0), ks i2 a2 q2 r2) := by
    intro nz
    induction nz with
    | zero =>
      intro _ _ _ _ _ _ _ _ hm
      exact absurd hm (Nat.not_lt_zero _)
    | succ nz ih2 =>
      intro i2 a2 q2 r2 l5_2 l4_2 hL2 p2_0 hm2
      refine ft_go mi_k76 3 16 [(5, .int l5_2), (4, .int l4_2), (0, .ref 49), (1, .ref 1), (2, .ref 104), (3, .int x3)] [.int 1, .ref (mi_RO + 2), .int l5_2] i2 a2 q2 r2 (by rfl) ?_
      refine ko_iaro2 mi_k76.1 (l := [999, 9, 9, 1, 5, 1, 99]) (n := 7) (c := 7) (ax := (0, 0, 0, 0, 0)) (mi_k76.2 _ _ (by rfl)) (by rfl) (by rfl) rfl rfl (oz246 kn1) (oz1181 kn1) ?_
      have r3 : ((0 : Int) ≤ (([999, 9, 9, 1, 5, 1, 99] : List Int32).getD (1 : Int32).toNatClampNeg 0).toInt) ∧ ((([999, 9, 9, 1, 5, 1, 99] : List Int32).getD (1 : Int32).toNatClampNeg 0).toInt ≤ 999) := kro_rng (lo := 0) (hi := 999) (by decide) ((1 : Int32).toNatClampNeg)
      refine ft_if mi_k76 (decide ((([999, 9, 9, 1, 5, 1, 99] : List Int32).getD (1 : Int32).toNatClampNeg 0) < l5_2)) 68 20 [(5, .int l5_2), (4, .int l4_2), (0, .ref 49), (1, .ref 1), (2, .ref 104), (3, .int x3)] [] (by rfl) (fun c => ?_) (fun c => ?_)
      ·
        have c4 : (([999, 9, 9, 1, 5, 1, 99] : List Int32).getD (1 : Int32).toNatClampNeg 0).toInt < l5_2.toInt := kd_lt c; clear c
        have hG5 := kG_call hG hL2 (by decide +kernel)
        refine ft_go mi_k76 1 70 [(5, .int l5_2), (4, .int l4_2), (0, .ref 49), (1, .ref 1), (2, .ref 104), (3, .int x3)] [.int l4_2] i2 a2 q2 r2 (by rfl) ?_
        exact ft_ret mi_k76 (by rfl) (hP l4_2 _ _ _ _ hG5 trivial)
      ·
        have c6 : l5_2.toInt ≤ (([999, 9, 9, 1, 5, 1, 99] : List Int32).getD (1 : Int32).toNatClampNeg 0).toInt := kd_ltF c; clear c
        refine ft_go mi_k76 3 25 [(5, .int l5_2), (4, .int l4_2), (0, .ref 49), (1, .ref 1), (2, .ref 104), (3, .int x3)] [.ref 1, .ref 50] i2 a2 q2 r2 (by rfl) ?_
        refine ko_callN mi_k76.1 (pc := 25) (ls := [(5, .int l5_2), (4, .int l4_2), (0, .ref 49), (1, .ref 1), (2, .ref 104), (3, .int x3)]) (st := [.ref 1, .ref 50]) (h := ks i2 a2 q2 r2) (i := (.invokevirtual 56, 3, 34, 0, 9, 0, 212)) (mi_k76.2 _ _ (by rfl)) (ft_invS mi_pq34 (by rfl)) (cy := mi_c34) mi_pq34 rfl (kc34_50_1 hL2.I hL2.R ) (by decide) ?_
        intro ig7 ag7 qg7 rg7 kg7 hg7
        have hGg7 := kG_call hL2 kg7 (by decide +kernel)
        refine ft_go mi_k76 5 36 [(5, .int l5_2), (4, .int l4_2), (0, .ref 49), (1, .ref 1), (2, .ref 104), (3, .int x3)] [.int l5_2, .int 1, .int x3, .ref 50] ig7 ag7 qg7 rg7 (by rfl) ?_
        refine ko_callN mi_k76.1 (pc := 36) (ls := [(5, .int l5_2), (4, .int l4_2), (0, .ref 49), (1, .ref 1), (2, .ref 104), (3, .int x3)]) (st := [.int l5_2, .int 1, .int x3, .ref 50]) (h := ks ig7 ag7 qg7 rg7) (i := (.invokevirtual 136, 3, 28, 0, 9, 0, 270)) (mi_k76.2 _ _ (by rfl)) (ft_invS mi_pq28 (by rfl)) (cy := mi_c28) mi_pq28 rfl (kc28_50 hGg7.I hGg7.R x3 1 l5_2) (by decide) ?_
        intro ig8 ag8 qg8 rg8 kg8 hg8
        have hGg8 := kG_call hGg7 kg8 (by decide +kernel)
        refine ft_go mi_k76 1 40 [(5, .int l5_2), (4, .int l4_2), (0, .ref 49), (1, .ref 1), (2, .ref 104), (3, .int x3)] [.ref 49] ig8 ag8 qg8 rg8 (by rfl) ?_
        refine ko_callN mi_k76.1 (pc := 40) (ls := [(5, .int l5_2), (4, .int l4_2), (0, .ref 49), (1, .ref 1), (2, .ref 104), (3, .int x3)]) (st := [.ref 49]) (h := ks ig8 ag8 qg8 rg8) (i := (.invokevirtual 60, 3, 60, 0, 9, 0, 219)) (mi_k76.2 _ _ (by rfl)) (ft_invS mi_pq60 (by rfl)) (cy := mi_c60) mi_pq60 rfl (kc60_49 hGg8.I hGg8.R ) (by decide) ?_
        intro ig9 ag9 qg9 rg9 kg9 hg9
        have hGg9 := kG_call hGg8 kg9 (by decide +kernel)
        refine ft_go mi_k76 2 45 [(5, .int l5_2), (4, .int l4_2), (0, .ref 49), (1, .ref 1), (2, .ref 104), (3, .int x3)] [.ref 104, .ref 49] ig9 ag9 qg9 rg9 (by rfl) ?_
        refine ko_callPI mi_k76.1 (pc := 45) (ls := [(5, .int l5_2), (4, .int l4_2), (0, .ref 49), (1, .ref 1), (2, .ref 104), (3, .int x3)]) (st := [.ref 104, .ref 49]) (h := ks ig9 ag9 qg9 rg9) (i := (.invokevirtual 126, 3, 73, 0, 9, 0, 265)) (mi_k76.2 _ _ (by rfl)) (ft_invS mi_pq73 (by rfl)) (cy := mi_c73) mi_pq73 rfl (kc73_49_104 hGg9.I hGg9.R ) (by decide) ?_
        intro vg10 hg10
        refine ft_go mi_k76 1 50 [(5, .int l5_2), (4, .int l4_2), (0, .ref 49), (1, .ref 1), (2, .ref 104), (3, .int x3)] [.int (-2), .int vg10] ig9 ag9 qg9 rg9 (by rfl) ?_
        refine ft_if mi_k76 (vg10 != (-2)) 62 53 [(5, .int l5_2), (4, .int l4_2), (0, .ref 49), (1, .ref 1), (2, .ref 104), (3, .int x3)] [] (by rfl) (fun c => ?_) (fun c => ?_)
        ·
          have c11 : vg10.toInt ≠ ((-2) : Int32).toInt := kd_ne c; clear c
          have s12 : (l5_2 + 1).toInt = l5_2.toInt + (1 : Int32).toInt := kd_add (oz12 p2_0 kn1) (oz1182 c6 r3.2 kn1)
          refine ft_go mi_k76 2 10 [(5, .int (l5_2 + 1)), (4, .int l4_2), (0, .ref 49), (1, .ref 1), (2, .ref 104), (3, .int x3)] [] ig9 ag9 qg9 rg9 (by rfl) ?_
          exact ih2 _ _ _ _ _ _ hGg9 (oz14 p2_0 s12 kn1) (kj_meas (oz1183 s12 kn1) (oz1184 c6 r3.2) hm2)
        ·
          have c13 : vg10.toInt = ((-2) : Int32).toInt := kd_neF c; clear c
          have s14 : (l5_2 + 1).toInt = l5_2.toInt + (1 : Int32).toInt := kd_add (oz12 p2_0 kn1) (oz1182 c6 r3.2 kn1)
          refine ft_go mi_k76 8 10 [(5, .int (l5_2 + 1)), (4, .int (l4_2 ||| (1 <<< (l5_2 &&& 31)))), (0, .ref 49), (1, .ref 1), (2, .ref 104), (3, .int x3)] [] ig9 ag9 qg9 rg9 (by rfl) ?_
          exact ih2 _ _ _ _ _ _ hGg9 (oz14 p2_0 s14 kn1) (kj_meas (oz1183 s14 kn1) (oz1184 c6 r3.2) hm2)
  exact lp2 _ _ _ _ _ _ _ (kG_self _ hG.I hG.R) (oz3 r1.1) (Nat.lt_succ_self _)
set_option maxRecDepth 100000 in
theorem kc99 {i : Nat → Int32} {a : Nat → List Int32} {q : Nat → List Int64} {r : Nat → Nat} (hI : kI i a q) (hr : kr r) (x1 : Int32) : km 1 99 [.int x1] (ks i a q r) (kPI (ks i a q r) (fun v => True)) := by
  have hG := kG_self kW0 hI hr
  refine km_ofPI (q := (mi_h99, mi_c99)) rfl (by decide) (Nat.le_of_ble_eq_true rfl) ?_
  intro P hP
  refine ft_go mi_k99 2 2 [(1, .int 0), (0, .int x1)] [] i a q r (by rfl) ?_
  have lp1 : ∀ (nz : Nat) (l1_1 : Int32), (0 : Int) ≤ l1_1.toInt → ((32 - l1_1.toInt)).toNat < nz → ko 1 (mi_h99, mi_c99) P (2, [(1, .int l1_1), (0, .int x1)], [], (0, 0), ks i a q r) := by
    intro nz
    induction nz with
    | zero =>
      intro _ _ hm
      exact absurd hm (Nat.not_lt_zero _)
    | succ nz ih1 =>
      intro l1_1 p1_0 hm1
      refine ft_go mi_k99 2 5 [(1, .int l1_1), (0, .int x1)] [.int 32, .int l1_1] i a q r (by rfl) ?_
      refine ft_if mi_k99 (decide (32 ≤ l1_1)) 25 8 [(1, .int l1_1), (0, .int x1)] [] (by rfl) (fun c => ?_) (fun c => ?_)
      ·
        have c2 : (32 : Int32).toInt ≤ l1_1.toInt := kd_le c; clear c
        refine ft_go mi_k99 1 27 [(1, .int l1_1), (0, .int x1)] [.int (-2)] i a q r (by rfl) ?_
        exact ft_ret mi_k99 (by rfl) (hP (-2) trivial)
      ·
        have c3 : l1_1.toInt < (32 : Int32).toInt := kd_leF c; clear c
        refine ft_go mi_k99 6 14 [(1, .int l1_1), (0, .int x1)] [.int 1, .int ((x1 >>> (l1_1 &&& 31)) &&& 1)] i a q r (by rfl) ?_
        refine ft_if mi_k99 (((x1 >>> (l1_1 &&& 31)) &&& 1) != 1) 19 17 [(1, .int l1_1), (0, .int x1)] [] (by rfl) (fun c => ?_) (fun c => ?_)
        ·
          have c4 : ((x1 >>> (l1_1 &&& 31)) &&& 1).toInt ≠ (1 : Int32).toInt := kd_ne c; clear c
          have s5 : (l1_1 + 1).toInt = l1_1.toInt + (1 : Int32).toInt := kd_add (oz12 p1_0 kn1) (oz1185 c3 kn32 kn1)
          refine ft_go mi_k99 2 2 [(1, .int (l1_1 + 1)), (0, .int x1)] [] i a q r (by rfl) ?_
          exact ih1 _ (oz14 p1_0 s5 kn1) (kj_meas (oz1186 s5 kn1) (oz1187 c3 kn32) hm1)
        ·
          have c6 : ((x1 >>> (l1_1 &&& 31)) &&& 1).toInt = (1 : Int32).toInt := kd_neF c; clear c
          refine ft_go mi_k99 1 18 [(1, .int l1_1), (0, .int x1)] [.int l1_1] i a q r (by rfl) ?_
          exact ft_ret mi_k99 (by rfl) (hP l1_1 trivial)
  exact lp1 _ _ (oz46 kn0) (Nat.lt_succ_self _)
def w76_49_1_106 : kW := ([645, 3200, 3206, 3207, 3208, 3209, 3214, 3215, 3216, 3586, 3781, 6405], [13, 51, 52, 53, 54, 55, 57, 58, 62, 63, 65, 66, 67, 68, 69, 70, 71, 72, 73, 75, 76, 77, 103], [], [1])
def w76_49_1_106_L10 : kW := ([645, 3200, 3206, 3207, 3208, 3209, 3214, 3215, 3216, 3586, 3781, 6405], [13, 51, 52, 53, 54, 55, 57, 58, 62, 63, 65, 66, 67, 68, 69, 70, 71, 72, 73, 75, 76, 77, 103], [], [1])
set_option maxRecDepth 100000 in
theorem kc76_49_1_106 {i : Nat → Int32} {a : Nat → List Int32} {q : Nat → List Int64} {r : Nat → Nat} (hI : kI i a q) (hr : kr r) (x3 : Int32) : km 11 76 [.ref 49, .ref 1, .ref 106, .int x3] (ks i a q r) (kVI w76_49_1_106 i a q r (fun v i1 a1 q1 r1 => True)) := by
  have hG := kG_self w76_49_1_106 hI hr
  refine km_ofI (q := (mi_h76, mi_c76)) rfl (by decide) (Nat.le_of_ble_eq_true rfl) ?_
  intro P hP
  refine ft_go mi_k76 4 7 [(4, .int 0), (0, .ref 49), (1, .ref 1), (2, .ref 106), (3, .int x3)] [.int 1, .ref (mi_RO + 1)] i a q r (by rfl) ?_
  refine ko_iaro2 mi_k76.1 (l := [0, 0, 0, 0, 1, 0, 0]) (n := 7) (c := 7) (ax := (0, 0, 0, 0, 0)) (mi_k76.2 _ _ (by rfl)) (by rfl) (by rfl) rfl rfl (oz246 kn1) (oz1181 kn1) ?_
  have r1 : ((0 : Int) ≤ (([0, 0, 0, 0, 1, 0, 0] : List Int32).getD (1 : Int32).toNatClampNeg 0).toInt) ∧ ((([0, 0, 0, 0, 1, 0, 0] : List Int32).getD (1 : Int32).toNatClampNeg 0).toInt ≤ 1) := kro_rng (lo := 0) (hi := 1) (by decide) ((1 : Int32).toNatClampNeg)
  refine ft_go mi_k76 1 10 [(5, .int (([0, 0, 0, 0, 1, 0, 0] : List Int32).getD (1 : Int32).toNatClampNeg 0)), (4, .int 0), (0, .ref 49), (1, .ref 1), (2, .ref 106), (3, .int x3)] [] i a q r (by rfl) ?_
  have lp2 : ∀ (nz : Nat) (i2 : Nat → Int32) (a2 : Nat → List Int32) (q2 : Nat → List Int64) (r2 : Nat → Nat) (l5_2 : Int32) (l4_2 : Int32), kG w76_49_1_106_L10 i a q r i2 a2 q2 r2 → (0 : Int) ≤ l5_2.toInt → ((1001 - l5_2.toInt)).toNat < nz → ko 11 (mi_h76, mi_c76) P (10, [(5, .int l5_2), (4, .int l4_2), (0, .ref 49), (1, .ref 1), (2, .ref 106), (3, .int x3)], [], (0, 0), ks i2 a2 q2 r2) := by
    intro nz
    induction nz with
    | zero =>
      intro _ _ _ _ _ _ _ _ hm
      exact absurd hm (Nat.not_lt_zero _)
    | succ nz ih2 =>
      intro i2 a2 q2 r2 l5_2 l4_2 hL2 p2_0 hm2
      refine ft_go mi_k76 3 16 [(5, .int l5_2), (4, .int l4_2), (0, .ref 49), (1, .ref 1), (2, .ref 106), (3, .int x3)] [.int 1, .ref (mi_RO + 2), .int l5_2] i2 a2 q2 r2 (by rfl) ?_
      refine ko_iaro2 mi_k76.1 (l := [999, 9, 9, 1, 5, 1, 99]) (n := 7) (c := 7) (ax := (0, 0, 0, 0, 0)) (mi_k76.2 _ _ (by rfl)) (by rfl) (by rfl) rfl rfl (oz246 kn1) (oz1181 kn1) ?_
      have r3 : ((0 : Int) ≤ (([999, 9, 9, 1, 5, 1, 99] : List Int32).getD (1 : Int32).toNatClampNeg 0).toInt) ∧ ((([999, 9, 9, 1, 5, 1, 99] : List Int32).getD (1 : Int32).toNatClampNeg 0).toInt ≤ 999) := kro_rng (lo := 0) (hi := 999) (by decide) ((1 : Int32).toNatClampNeg)
      refine ft_if mi_k76 (decide ((([999, 9, 9, 1, 5, 1, 99] : List Int32).getD (1 : Int32).toNatClampNeg 0) < l5_2)) 68 20 [(5, .int l5_2), (4, .int l4_2), (0, .ref 49), (1, .ref 1), (2, .ref 106), (3, .int x3)] [] (by rfl) (fun c => ?_) (fun c => ?_)
      ·
        have c4 : (([999, 9, 9, 1, 5, 1, 99] : List Int32).getD (1 : Int32).toNatClampNeg 0).toInt < l5_2.toInt := kd_lt c; clear c
        have hG5 := kG_call hG hL2 (by decide +kernel)
        refine ft_go mi_k76 1 70 [(5, .int l5_2), (4, .int l4_2), (0, .ref 49), (1, .ref 1), (2, .ref 106), (3, .int x3)] [.int l4_2] i2 a2 q2 r2 (by rfl) ?_
        exact ft_ret mi_k76 (by rfl) (hP l4_2 _ _ _ _ hG5 trivial)
      ·
        have c6 : l5_2.toInt ≤ (([999, 9, 9, 1, 5, 1, 99] : List Int32).getD (1 : Int32).toNatClampNeg 0).toInt := kd_ltF c; clear c
        refine ft_go mi_k76 3 25 [(5, .int l5_2), (4, .int l4_2), (0, .ref 49), (1, .ref 1), (2, .ref 106), (3, .int x3)] [.ref 1, .ref 50] i2 a2 q2 r2 (by rfl) ?_
        refine ko_callN mi_k76.1 (pc := 25) (ls := [(5, .int l5_2), (4, .int l4_2), (0, .ref 49), (1, .ref 1), (2, .ref 106), (3, .int x3)]) (st := [.ref 1, .ref 50]) (h := ks i2 a2 q2 r2) (i := (.invokevirtual 56, 3, 34, 0, 9, 0, 212)) (mi_k76.2 _ _ (by rfl)) (ft_invS mi_pq34 (by rfl)) (cy := mi_c34) mi_pq34 rfl (kc34_50_1 hL2.I hL2.R ) (by decide) ?_
        intro ig7 ag7 qg7 rg7 kg7 hg7
        have hGg7 := kG_call hL2 kg7 (by decide +kernel)
        refine ft_go mi_k76 5 36 [(5, .int l5_2), (4, .int l4_2), (0, .ref 49), (1, .ref 1), (2, .ref 106), (3, .int x3)] [.int l5_2, .int 1, .int x3, .ref 50] ig7 ag7 qg7 rg7 (by rfl) ?_
        refine ko_callN mi_k76.1 (pc := 36) (ls := [(5, .int l5_2), (4, .int l4_2), (0, .ref 49), (1, .ref 1), (2, .ref 106), (3, .int x3)]) (st := [.int l5_2, .int 1, .int x3, .ref 50]) (h := ks ig7 ag7 qg7 rg7) (i := (.invokevirtual 136, 3, 28, 0, 9, 0, 270)) (mi_k76.2 _ _ (by rfl)) (ft_invS mi_pq28 (by rfl)) (cy := mi_c28) mi_pq28 rfl (kc28_50 hGg7.I hGg7.R x3 1 l5_2) (by decide) ?_
        intro ig8 ag8 qg8 rg8 kg8 hg8
        have hGg8 := kG_call hGg7 kg8 (by decide +kernel)
        refine ft_go mi_k76 1 40 [(5, .int l5_2), (4, .int l4_2), (0, .ref 49), (1, .ref 1), (2, .ref 106), (3, .int x3)] [.ref 49] ig8 ag8 qg8 rg8 (by rfl) ?_
        refine ko_callN mi_k76.1 (pc := 40) (ls := [(5, .int l5_2), (4, .int l4_2), (0, .ref 49), (1, .ref 1), (2, .ref 106), (3, .int x3)]) (st := [.ref 49]) (h := ks ig8 ag8 qg8 rg8) (i := (.invokevirtual 60, 3, 60, 0, 9, 0, 219)) (mi_k76.2 _ _ (by rfl)) (ft_invS mi_pq60 (by rfl)) (cy := mi_c60) mi_pq60 rfl (kc60_49 hGg8.I hGg8.R ) (by decide) ?_
        intro ig9 ag9 qg9 rg9 kg9 hg9
        have hGg9 := kG_call hGg8 kg9 (by decide +kernel)
        refine ft_go mi_k76 2 45 [(5, .int l5_2), (4, .int l4_2), (0, .ref 49), (1, .ref 1), (2, .ref 106), (3, .int x3)] [.ref 106, .ref 49] ig9 ag9 qg9 rg9 (by rfl) ?_
        refine ko_callPI mi_k76.1 (pc := 45) (ls := [(5, .int l5_2), (4, .int l4_2), (0, .ref 49), (1, .ref 1), (2, .ref 106), (3, .int x3)]) (st := [.ref 106, .ref 49]) (h := ks ig9 ag9 qg9 rg9) (i := (.invokevirtual 126, 3, 73, 0, 9, 0, 265)) (mi_k76.2 _ _ (by rfl)) (ft_invS mi_pq73 (by rfl)) (cy := mi_c73) mi_pq73 rfl (kc73_49_106 hGg9.I hGg9.R ) (by decide) ?_
        intro vg10 hg10
        refine ft_go mi_k76 1 50 [(5, .int l5_2), (4, .int l4_2), (0, .ref 49), (1, .ref 1), (2, .ref 106), (3, .int x3)] [.int (-2), .int vg10] ig9 ag9 qg9 rg9 (by rfl) ?_
        refine ft_if mi_k76 (vg10 != (-2)) 62 53 [(5, .int l5_2), (4, .int l4_2), (0, .ref 49), (1, .ref 1), (2, .ref 106), (3, .int x3)] [] (by rfl) (fun c => ?_) (fun c => ?_)
        ·
          have c11 : vg10.toInt ≠ ((-2) : Int32).toInt := kd_ne c; clear c
          have s12 : (l5_2 + 1).toInt = l5_2.toInt + (1 : Int32).toInt := kd_add (oz12 p2_0 kn1) (oz1182 c6 r3.2 kn1)
          refine ft_go mi_k76 2 10 [(5, .int (l5_2 + 1)), (4, .int l4_2), (0, .ref 49), (1, .ref 1), (2, .ref 106), (3, .int x3)] [] ig9 ag9 qg9 rg9 (by rfl) ?_
          exact ih2 _ _ _ _ _ _ hGg9 (oz14 p2_0 s12 kn1) (kj_meas (oz1183 s12 kn1) (oz1184 c6 r3.2) hm2)
        ·
          have c13 : vg10.toInt = ((-2) : Int32).toInt := kd_neF c; clear c
          have s14 : (l5_2 + 1).toInt = l5_2.toInt + (1 : Int32).toInt := kd_add (oz12 p2_0 kn1) (oz1182 c6 r3.2 kn1)
          refine ft_go mi_k76 8 10 [(5, .int (l5_2 + 1)), (4, .int (l4_2 ||| (1 <<< (l5_2 &&& 31)))), (0, .ref 49), (1, .ref 1), (2, .ref 106), (3, .int x3)] [] ig9 ag9 qg9 rg9 (by rfl) ?_
          exact ih2 _ _ _ _ _ _ hGg9 (oz14 p2_0 s14 kn1) (kj_meas (oz1183 s14 kn1) (oz1184 c6 r3.2) hm2)
  exact lp2 _ _ _ _ _ _ _ (kG_self _ hG.I hG.R) (oz3 r1.1) (Nat.lt_succ_self _)
def w76_49_1_108 : kW := ([645, 3200, 3206, 3207, 3208, 3209, 3214, 3215, 3216, 3586, 3781, 6405], [13, 51, 52, 53, 54, 55, 57, 58, 62, 63, 65, 66, 67, 68, 69, 70, 71, 72, 73, 75, 76, 77, 103], [], [1])
def w76_49_1_108_L10 : kW := ([645, 3200, 3206, 3207, 3208, 3209, 3214, 3215, 3216, 3586, 3781, 6405], [13, 51, 52, 53, 54, 55, 57, 58, 62, 63, 65, 66, 67, 68, 69, 70, 71, 72, 73, 75, 76, 77, 103], [], [1])
set_option maxRecDepth 100000 in
theorem kc76_49_1_108 {i : Nat → Int32} {a : Nat → List Int32} {q : Nat → List Int64} {r : Nat → Nat} (hI : kI i a q) (hr : kr r) (x3 : Int32) : km 11 76 [.ref 49, .ref 1, .ref 108, .int x3] (ks i a q r) (kVI w76_49_1_108 i a q r (fun v i1 a1 q1 r1 => True)) := by
  have hG := kG_self w76_49_1_108 hI hr
  refine km_ofI (q := (mi_h76, mi_c76)) rfl (by decide) (Nat.le_of_ble_eq_true rfl) ?_
  intro P hP
  refine ft_go mi_k76 4 7 [(4, .int 0), (0, .ref 49), (1, .ref 1), (2, .ref 108), (3, .int x3)] [.int 1, .ref (mi_RO + 1)] i a q r (by rfl) ?_
  refine ko_iaro2 mi_k76.1 (l := [0, 0, 0, 0, 1, 0, 0]) (n := 7) (c := 7) (ax := (0, 0, 0, 0, 0)) (mi_k76.2 _ _ (by rfl)) (by rfl) (by rfl) rfl rfl (oz246 kn1) (oz1181 kn1) ?_
  have r1 : ((0 : Int) ≤ (([0, 0, 0, 0, 1, 0, 0] : List Int32).getD (1 : Int32).toNatClampNeg 0).toInt) ∧ ((([0, 0, 0, 0, 1, 0, 0] : List Int32).getD (1 : Int32).toNatClampNeg 0).toInt ≤ 1) := kro_rng (lo := 0) (hi := 1) (by decide) ((1 : Int32).toNatClampNeg)
  refine ft_go mi_k76 1 10 [(5, .int (([0, 0, 0, 0, 1, 0, 0] : List Int32).getD (1 : Int32).toNatClampNeg 0)), (4, .int 0), (0, .ref 49), (1, .ref 1), (2, .ref 108), (3, .int x3)] [] i a q r (by rfl) ?_
  have lp2 : ∀ (nz : Nat) (i2 : Nat → Int32) (a2 : Nat → List Int32) (q2 : Nat → List Int64) (r2 : Nat → Nat) (l5_2 : Int32) (l4_2 : Int32), kG w76_49_1_108_L10 i a q r i2 a2 q2 r2 → (0 : Int) ≤ l5_2.toInt → ((1001 - l5_2.toInt)).toNat < nz → ko 11 (mi_h76, mi_c76) P (10, [(5, .int l5_2), (4, .int l4_2), (0, .ref 49), (1, .ref 1), (2, .ref 108), (3, .int x3)], [], (0, 0), ks i2 a2 q2 r2) := by
    intro nz
    induction nz with
    | zero =>
      intro _ _ _ _ _ _ _ _ hm
      exact absurd hm (Nat.not_lt_zero _)
    | succ nz ih2 =>
      intro i2 a2 q2 r2 l5_2 l4_2 hL2 p2_0 hm2
      refine ft_go mi_k76 3 16 [(5, .int l5_2), (4, .int l4_2), (0, .ref 49), (1, .ref 1), (2, .ref 108), (3, .int x3)] [.int 1, .ref (mi_RO + 2), .int l5_2] i2 a2 q2 r2 (by rfl) ?_
      refine ko_iaro2 mi_k76.1 (l := [999, 9, 9, 1, 5, 1, 99]) (n := 7) (c := 7) (ax := (0, 0, 0, 0, 0)) (mi_k76.2 _ _ (by rfl)) (by rfl) (by rfl) rfl rfl (oz246 kn1) (oz1181 kn1) ?_
      have r3 : ((0 : Int) ≤ (([999, 9, 9, 1, 5, 1, 99] : List Int32).getD (1 : Int32).toNatClampNeg 0).toInt) ∧ ((([999, 9, 9, 1, 5, 1, 99] : List Int32).getD (1 : Int32).toNatClampNeg 0).toInt ≤ 999) := kro_rng (lo := 0) (hi := 999) (by decide) ((1 : Int32).toNatClampNeg)
      refine ft_if mi_k76 (decide ((([999, 9, 9, 1, 5, 1, 99] : List Int32).getD (1 : Int32).toNatClampNeg 0) < l5_2)) 68 20 [(5, .int l5_2), (4, .int l4_2), (0, .ref 49), (1, .ref 1), (2, .ref 108), (3, .int x3)] [] (by rfl) (fun c => ?_) (fun c => ?_)
      ·
        have c4 : (([999, 9, 9, 1, 5, 1, 99] : List Int32).getD (1 : Int32).toNatClampNeg 0).toInt < l5_2.toInt := kd_lt c; clear c
        have hG5 := kG_call hG hL2 (by decide +kernel)
        refine ft_go mi_k76 1 70 [(5, .int l5_2), (4, .int l4_2), (0, .ref 49), (1, .ref 1), (2, .ref 108), (3, .int x3)] [.int l4_2] i2 a2 q2 r2 (by rfl) ?_
        exact ft_ret mi_k76 (by rfl) (hP l4_2 _ _ _ _ hG5 trivial)
      ·
        have c6 : l5_2.toInt ≤ (([999, 9, 9, 1, 5, 1, 99] : List Int32).getD (1 : Int32).toNatClampNeg 0).toInt := kd_ltF c; clear c
        refine ft_go mi_k76 3 25 [(5, .int l5_2), (4, .int l4_2), (0, .ref 49), (1, .ref 1), (2, .ref 108), (3, .int x3)] [.ref 1, .ref 50] i2 a2 q2 r2 (by rfl) ?_
        refine ko_callN mi_k76.1 (pc := 25) (ls := [(5, .int l5_2), (4, .int l4_2), (0, .ref 49), (1, .ref 1), (2, .ref 108), (3, .int x3)]) (st := [.ref 1, .ref 50]) (h := ks i2 a2 q2 r2) (i := (.invokevirtual 56, 3, 34, 0, 9, 0, 212)) (mi_k76.2 _ _ (by rfl)) (ft_invS mi_pq34 (by rfl)) (cy := mi_c34) mi_pq34 rfl (kc34_50_1 hL2.I hL2.R ) (by decide) ?_
        intro ig7 ag7 qg7 rg7 kg7 hg7
        have hGg7 := kG_call hL2 kg7 (by decide +kernel)
        refine ft_go mi_k76 5 36 [(5, .int l5_2), (4, .int l4_2), (0, .ref 49), (1, .ref 1), (2, .ref 108), (3, .int x3)] [.int l5_2, .int 1, .int x3, .ref 50] ig7 ag7 qg7 rg7 (by rfl) ?_
        refine ko_callN mi_k76.1 (pc := 36) (ls := [(5, .int l5_2), (4, .int l4_2), (0, .ref 49), (1, .ref 1), (2, .ref 108), (3, .int x3)]) (st := [.int l5_2, .int 1, .int x3, .ref 50]) (h := ks ig7 ag7 qg7 rg7) (i := (.invokevirtual 136, 3, 28, 0, 9, 0, 270)) (mi_k76.2 _ _ (by rfl)) (ft_invS mi_pq28 (by rfl)) (cy := mi_c28) mi_pq28 rfl (kc28_50 hGg7.I hGg7.R x3 1 l5_2) (by decide) ?_
        intro ig8 ag8 qg8 rg8 kg8 hg8
        have hGg8 := kG_call hGg7 kg8 (by decide +kernel)
        refine ft_go mi_k76 1 40 [(5, .int l5_2), (4, .int l4_2), (0, .ref 49), (1, .ref 1), (2, .ref 108), (3, .int x3)] [.ref 49] ig8 ag8 qg8 rg8 (by rfl) ?_
        refine ko_callN mi_k76.1 (pc := 40) (ls := [(5, .int l5_2), (4, .int l4_2), (0, .ref 49), (1, .ref 1), (2, .ref 108), (3, .int x3)]) (st := [.ref 49]) (h := ks ig8 ag8 qg8 rg8) (i := (.invokevirtual 60, 3, 60, 0, 9, 0, 219)) (mi_k76.2 _ _ (by rfl)) (ft_invS mi_pq60 (by rfl)) (cy := mi_c60) mi_pq60 rfl (kc60_49 hGg8.I hGg8.R ) (by decide) ?_
        intro ig9 ag9 qg9 rg9 kg9 hg9
        have hGg9 := kG_call hGg8 kg9 (by decide +kernel)
        refine ft_go mi_k76 2 45 [(5, .int l5_2), (4, .int l4_2), (0, .ref 49), (1, .ref 1), (2, .ref 108), (3, .int x3)] [.ref 108, .ref 49] ig9 ag9 qg9 rg9 (by rfl) ?_
        refine ko_callPI mi_k76.1 (pc := 45) (ls := [(5, .int l5_2), (4, .int l4_2), (0, .ref 49), (1, .ref 1), (2, .ref 108), (3, .int x3)]) (st := [.ref 108, .ref 49]) (h := ks ig9 ag9 qg9 rg9) (i := (.invokevirtual 126, 3, 73, 0, 9, 0, 265)) (mi_k76.2 _ _ (by rfl)) (ft_invS mi_pq73 (by rfl)) (cy := mi_c73) mi_pq73 rfl (kc73_49_108 hGg9.I hGg9.R ) (by decide) ?_
        intro vg10 hg10
        refine ft_go mi_k76 1 50 [(5, .int l5_2), (4, .int l4_2), (0, .ref 49), (1, .ref 1), (2, .ref 108), (3, .int x3)] [.int (-2), .int vg10] ig9 ag9 qg9 rg9 (by rfl) ?_
        refine ft_if mi_k76 (vg10 != (-2)) 62 53 [(5, .int l5_2), (4, .int l4_2), (0, .ref 49), (1, .ref 1), (2, .ref 108), (3, .int x3)] [] (by rfl) (fun c => ?_) (fun c => ?_)
        ·
          have c11 : vg10.toInt ≠ ((-2) : Int32).toInt := kd_ne c; clear c
          have s12 : (l5_2 + 1).toInt = l5_2.toInt + (1 : Int32).toInt := kd_add (oz12 p2_0 kn1) (oz1182 c6 r3.2 kn1)
          refine ft_go mi_k76 2 10 [(5, .int (l5_2 + 1)), (4, .int l4_2), (0, .ref 49), (1, .ref 1), (2, .ref 108), (3, .int x3)] [] ig9 ag9 qg9 rg9 (by rfl) ?_
          exact ih2 _ _ _ _ _ _ hGg9 (oz14 p2_0 s12 kn1) (kj_meas (oz1183 s12 kn1) (oz1184 c6 r3.2) hm2)
        ·
          have c13 : vg10.toInt = ((-2) : Int32).toInt := kd_neF c; clear c
          have s14 : (l5_2 + 1).toInt = l5_2.toInt + (1 : Int32).toInt := kd_add (oz12 p2_0 kn1) (oz1182 c6 r3.2 kn1)
          refine ft_go mi_k76 8 10 [(5, .int (l5_2 + 1)), (4, .int (l4_2 ||| (1 <<< (l5_2 &&& 31)))), (0, .ref 49), (1, .ref 1), (2, .ref 108), (3, .int x3)] [] ig9 ag9 qg9 rg9 (by rfl) ?_
          exact ih2 _ _ _ _ _ _ hGg9 (oz14 p2_0 s14 kn1) (kj_meas (oz1183 s14 kn1) (oz1184 c6 r3.2) hm2)
  exact lp2 _ _ _ _ _ _ _ (kG_self _ hG.I hG.R) (oz3 r1.1) (Nat.lt_succ_self _)
def w76_49_1_110 : kW := ([645, 3200, 3206, 3207, 3208, 3209, 3214, 3215, 3216, 3586, 3781, 6405], [13, 51, 52, 53, 54, 55, 57, 58, 62, 63, 65, 66, 67, 68, 69, 70, 71, 72, 73, 75, 76, 77, 103], [], [1])
def w76_49_1_110_L10 : kW := ([645, 3200, 3206, 3207, 3208, 3209, 3214, 3215, 3216, 3586, 3781, 6405], [13, 51, 52, 53, 54, 55, 57, 58, 62, 63, 65, 66, 67, 68, 69, 70, 71, 72, 73, 75, 76, 77, 103], [], [1])
set_option maxRecDepth 100000 in
theorem kc76_49_1_110 {i : Nat → Int32} {a : Nat → List Int32} {q : Nat → List Int64} {r : Nat → Nat} (hI : kI i a q) (hr : kr r) (x3 : Int32) : km 11 76 [.ref 49, .ref 1, .ref 110, .int x3] (ks i a q r) (kVI w76_49_1_110 i a q r (fun v i1 a1 q1 r1 => True)) := by
  have hG := kG_self w76_49_1_110 hI hr
  refine km_ofI (q := (mi_h76, mi_c76)) rfl (by decide) (Nat.le_of_ble_eq_true rfl) ?_
  intro P hP
  refine ft_go mi_k76 4 7 [(4, .int 0), (0, .ref 49), (1, .ref 1), (2, .ref 110), (3, .int x3)] [.int 1, .ref (mi_RO + 1)] i a q r (by rfl) ?_
  refine ko_iaro2 mi_k76.1 (l := [0, 0, 0, 0, 1, 0, 0]) (n := 7) (c := 7) (ax := (0, 0, 0, 0, 0)) (mi_k76.2 _ _ (by rfl)) (by rfl) (by rfl) rfl rfl (oz246 kn1) (oz1181 kn1) ?_
  have r1 : ((0 : Int) ≤ (([0, 0, 0, 0, 1, 0, 0] : List Int32).getD (1 : Int32).toNatClampNeg 0).toInt) ∧ ((([0, 0, 0, 0, 1, 0, 0] : List Int32).getD (1 : Int32).toNatClampNeg 0).toInt ≤ 1) := kro_rng (lo := 0) (hi := 1) (by decide) ((1 : Int32).toNatClampNeg)
  refine ft_go mi_k76 1 10 [(5, .int (([0, 0, 0, 0, 1, 0, 0] : List Int32).getD (1 : Int32).toNatClampNeg 0)), (4, .int 0), (0, .ref 49), (1, .ref 1), (2, .ref 110), (3, .int x3)] [] i a q r (by rfl) ?_
  have lp2 : ∀ (nz : Nat) (i2 : Nat → Int32) (a2 : Nat → List Int32) (q2 : Nat → List Int64) (r2 : Nat → Nat) (l5_2 : Int32) (l4_2 : Int32), kG w76_49_1_110_L10 i a q r i2 a2 q2 r2 → (0 : Int) ≤ l5_2.toInt → ((1001 - l5_2.toInt)).toNat < nz → ko 11 (mi_h76, mi_c76) P (10, [(5, .int l5_2), (4, .int l4_2), (0, .ref 49), (1, .ref 1), (2, .ref 110), (3, .int x3)], [], (0, 0), ks i2 a2 q2 r2) := by
    intro nz
    induction nz with
    | zero =>
      intro _ _ _ _ _ _ _ _ hm
      exact absurd hm (Nat.not_lt_zero _)
    | succ nz ih2 =>
      intro i2 a2 q2 r2 l5_2 l4_2 hL2 p2_0 hm2
      refine ft_go mi_k76 3 16 [(5, .int l5_2), (4, .int l4_2), (0, .ref 49), (1, .ref 1), (2, .ref 110), (3, .int x3)] [.int 1, .ref (mi_RO + 2), .int l5_2] i2 a2 q2 r2 (by rfl) ?_
      refine ko_iaro2 mi_k76.1 (l := [999, 9, 9, 1, 5, 1, 99]) (n := 7) (c := 7) (ax := (0, 0, 0, 0, 0)) (mi_k76.2 _ _ (by rfl)) (by rfl) (by rfl) rfl rfl (oz246 kn1) (oz1181 kn1) ?_
      have r3 : ((0 : Int) ≤ (([999, 9, 9, 1, 5, 1, 99] : List Int32).getD (1 : Int32).toNatClampNeg 0).toInt) ∧ ((([999, 9, 9, 1, 5, 1, 99] : List Int32).getD (1 : Int32).toNatClampNeg 0).toInt ≤ 999) := kro_rng (lo := 0) (hi := 999) (by decide) ((1 : Int32).toNatClampNeg)
      refine ft_if mi_k76 (decide ((([999, 9, 9, 1, 5, 1, 99] : List Int32).getD (1 : Int32).toNatClampNeg 0) < l5_2)) 68 20 [(5, .int l5_2), (4, .int l4_2), (0, .ref 49), (1, .ref 1), (2, .ref 110), (3, .int x3)] [] (by rfl) (fun c => ?_) (fun c => ?_)
      ·
        have c4 : (([999, 9, 9, 1, 5, 1, 99] : List Int32).getD (1 : Int32).toNatClampNeg 0).toInt < l5_2.toInt := kd_lt c; clear c
        have hG5 := kG_call hG hL2 (by decide +kernel)
        refine ft_go mi_k76 1 70 [(5, .int l5_2), (4, .int l4_2), (0, .ref 49), (1, .ref 1), (2, .ref 110), (3, .int x3)] [.int l4_2] i2 a2 q2 r2 (by rfl) ?_
        exact ft_ret mi_k76 (by rfl) (hP l4_2 _ _ _ _ hG5 trivial)
      ·
        have c6 : l5_2.toInt ≤ (([999, 9, 9, 1, 5, 1, 99] : List Int32).getD (1 : Int32).toNatClampNeg 0).toInt := kd_ltF c; clear c
        refine ft_go mi_k76 3 25 [(5, .int l5_2), (4, .int l4_2), (0, .ref 49), (1, .ref 1), (2, .ref 110), (3, .int x3)] [.ref 1, .ref 50] i2 a2 q2 r2 (by rfl) ?_
        refine ko_callN mi_k76.1 (pc := 25) (ls := [(5, .int l5_2), (4, .int l4_2), (0, .ref 49), (1, .ref 1), (2, .ref 110), (3, .int x3)]) (st := [.ref 1, .ref 50]) (h := ks i2 a2 q2 r2) (i := (.invokevirtual 56, 3, 34, 0, 9, 0, 212)) (mi_k76.2 _ _ (by rfl)) (ft_invS mi_pq34 (by rfl)) (cy := mi_c34) mi_pq34 rfl (kc34_50_1 hL2.I hL2.R ) (by decide) ?_
        intro ig7 ag7 qg7 rg7 kg7 hg7
        have hGg7 := kG_call hL2 kg7 (by decide +kernel)
        refine ft_go mi_k76 5 36 [(5, .int l5_2), (4, .int l4_2), (0, .ref 49), (1, .ref 1), (2, .ref 110), (3, .int x3)] [.int l5_2, .int 1, .int x3, .ref 50] ig7 ag7 qg7 rg7 (by rfl) ?_
        refine ko_callN mi_k76.1 (pc := 36) (ls := [(5, .int l5_2), (4, .int l4_2), (0, .ref 49), (1, .ref 1), (2, .ref 110), (3, .int x3)]) (st := [.int l5_2, .int 1, .int x3, .ref 50]) (h := ks ig7 ag7 qg7 rg7) (i := (.invokevirtual 136, 3, 28, 0, 9, 0, 270)) (mi_k76.2 _ _ (by rfl)) (ft_invS mi_pq28 (by rfl)) (cy := mi_c28) mi_pq28 rfl (kc28_50 hGg7.I hGg7.R x3 1 l5_2) (by decide) ?_
        intro ig8 ag8 qg8 rg8 kg8 hg8
        have hGg8 := kG_call hGg7 kg8 (by decide +kernel)
        refine ft_go mi_k76 1 40 [(5, .int l5_2), (4, .int l4_2), (0, .ref 49), (1, .ref 1), (2, .ref 110), (3, .int x3)] [.ref 49] ig8 ag8 qg8 rg8 (by rfl) ?_
        refine ko_callN mi_k76.1 (pc := 40) (ls := [(5, .int l5_2), (4, .int l4_2), (0, .ref 49), (1, .ref 1), (2, .ref 110), (3, .int x3)]) (st := [.ref 49]) (h := ks ig8 ag8 qg8 rg8) (i := (.invokevirtual 60, 3, 60, 0, 9, 0, 219)) (mi_k76.2 _ _ (by rfl)) (ft_invS mi_pq60 (by rfl)) (cy := mi_c60) mi_pq60 rfl (kc60_49 hGg8.I hGg8.R ) (by decide) ?_
        intro ig9 ag9 qg9 rg9 kg9 hg9
        have hGg9 := kG_call hGg8 kg9 (by decide +kernel)
        refine ft_go mi_k76 2 45 [(5, .int l5_2), (4, .int l4_2), (0, .ref 49), (1, .ref 1), (2, .ref 110), (3, .int x3)] [.ref 110, .ref 49] ig9 ag9 qg9 rg9 (by rfl) ?_
        refine ko_callPI mi_k76.1 (pc := 45) (ls := [(5, .int l5_2), (4, .int l4_2), (0, .ref 49), (1, .ref 1), (2, .ref 110), (3, .int x3)]) (st := [.ref 110, .ref 49]) (h := ks ig9 ag9 qg9 rg9) (i := (.invokevirtual 126, 3, 73, 0, 9, 0, 265)) (mi_k76.2 _ _ (by rfl)) (ft_invS mi_pq73 (by rfl)) (cy := mi_c73) mi_pq73 rfl (kc73_49_110 hGg9.I hGg9.R ) (by decide) ?_
        intro vg10 hg10
        refine ft_go mi_k76 1 50 [(5, .int l5_2), (4, .int l4_2), (0, .ref 49), (1, .ref 1), (2, .ref 110), (3, .int x3)] [.int (-2), .int vg10] ig9 ag9 qg9 rg9 (by rfl) ?_
        refine ft_if mi_k76 (vg10 != (-2)) 62 53 [(5, .int l5_2), (4, .int l4_2), (0, .ref 49), (1, .ref 1), (2, .ref 110), (3, .int x3)] [] (by rfl) (fun c => ?_) (fun c => ?_)
        ·
          have c11 : vg10.toInt ≠ ((-2) : Int32).toInt := kd_ne c; clear c
          have s12 : (l5_2 + 1).toInt = l5_2.toInt + (1 : Int32).toInt := kd_add (oz12 p2_0 kn1) (oz1182 c6 r3.2 kn1)
          refine ft_go mi_k76 2 10 [(5, .int (l5_2 + 1)), (4, .int l4_2), (0, .ref 49), (1, .ref 1), (2, .ref 110), (3, .int x3)] [] ig9 ag9 qg9 rg9 (by rfl) ?_
          exact ih2 _ _ _ _ _ _ hGg9 (oz14 p2_0 s12 kn1) (kj_meas (oz1183 s12 kn1) (oz1184 c6 r3.2) hm2)
        ·
          have c13 : vg10.toInt = ((-2) : Int32).toInt := kd_neF c; clear c
          have s14 : (l5_2 + 1).toInt = l5_2.toInt + (1 : Int32).toInt := kd_add (oz12 p2_0 kn1) (oz1182 c6 r3.2 kn1)
          refine ft_go mi_k76 8 10 [(5, .int (l5_2 + 1)), (4, .int (l4_2 ||| (1 <<< (l5_2 &&& 31)))), (0, .ref 49), (1, .ref 1), (2, .ref 110), (3, .int x3)] [] ig9 ag9 qg9 rg9 (by rfl) ?_
          exact ih2 _ _ _ _ _ _ hGg9 (oz14 p2_0 s14 kn1) (kj_meas (oz1183 s14 kn1) (oz1184 c6 r3.2) hm2)
  exact lp2 _ _ _ _ _ _ _ (kG_self _ hG.I hG.R) (oz3 r1.1) (Nat.lt_succ_self _)
def w76_49_1_112 : kW := ([645, 3200, 3206, 3207, 3208, 3209, 3214, 3215, 3216, 3586, 3781, 6405], [13, 51, 52, 53, 54, 55, 57, 58, 62, 63, 65, 66, 67, 68, 69, 70, 71, 72, 73, 75, 76, 77, 103], [], [1])
def w76_49_1_112_L10 : kW := ([645, 3200, 3206, 3207, 3208, 3209, 3214, 3215, 3216, 3586, 3781, 6405], [13, 51, 52, 53, 54, 55, 57, 58, 62, 63, 65, 66, 67, 68, 69, 70, 71, 72, 73, 75, 76, 77, 103], [], [1])
set_option maxRecDepth 100000 in
theorem kc76_49_1_112 {i : Nat → Int32} {a : Nat → List Int32} {q : Nat → List Int64} {r : Nat → Nat} (hI : kI i a q) (hr : kr r) (x3 : Int32) : km 11 76 [.ref 49, .ref 1, .ref 112, .int x3] (ks i a q r) (kVI w76_49_1_112 i a q r (fun v i1 a1 q1 r1 => True)) := by
  have hG := kG_self w76_49_1_112 hI hr
  refine km_ofI (q := (mi_h76, mi_c76)) rfl (by decide) (Nat.le_of_ble_eq_true rfl) ?_
  intro P hP
  refine ft_go mi_k76 4 7 [(4, .int 0), (0, .ref 49), (1, .ref 1), (2, .ref 112), (3, .int x3)] [.int 1, .ref (mi_RO + 1)] i a q r (by rfl) ?_
  refine ko_iaro2 mi_k76.1 (l := [0, 0, 0, 0, 1, 0, 0]) (n := 7) (c := 7) (ax := (0, 0, 0, 0, 0)) (mi_k76.2 _ _ (by rfl)) (by rfl) (by rfl) rfl rfl (oz246 kn1) (oz1181 kn1) ?_
  have r1 : ((0 : Int) ≤ (([0, 0, 0, 0, 1, 0, 0] : List Int32).getD (1 : Int32).toNatClampNeg 0).toInt) ∧ ((([0, 0, 0, 0, 1, 0, 0] : List Int32).getD (1 : Int32).toNatClampNeg 0).toInt ≤ 1) := kro_rng (lo := 0) (hi := 1) (by decide) ((1 : Int32).toNatClampNeg)
  refine ft_go mi_k76 1 10 [(5, .int (([0, 0, 0, 0, 1, 0, 0] : List Int32).getD (1 : Int32).toNatClampNeg 0)), (4, .int 0), (0, .ref 49), (1, .ref 1), (2, .ref 112), (3, .int x3)] [] i a q r (by rfl) ?_
  have lp2 : ∀ (nz : Nat) (i2 : Nat → Int32) (a2 : Nat → List Int32) (q2 : Nat → List Int64) (r2 : Nat → Nat) (l5_2 : Int32) (l4_2 : Int32), kG w76_49_1_112_L10 i a q r i2 a2 q2 r2 → (0 : Int) ≤ l5_2.toInt → ((1001 - l5_2.toInt)).toNat < nz → ko 11 (mi_h76, mi_c76) P (10, [(5, .int l5_2), (4, .int l4_2), (0, .ref 49), (1, .ref 1), (2, .ref 112), (3, .int x3)], [], (0, 0), ks i2 a2 q2 r2) := by
    intro nz
    induction nz with
    | zero =>
      intro _ _ _ _ _ _ _ _ hm
      exact absurd hm (Nat.not_lt_zero _)
    | succ nz ih2 =>
      intro i2 a2 q2 r2 l5_2 l4_2 hL2 p2_0 hm2
      refine ft_go mi_k76 3 16 [(5, .int l5_2), (4, .int l4_2), (0, .ref 49), (1, .ref 1), (2, .ref 112), (3, .int x3)] [.int 1, .ref (mi_RO + 2), .int l5_2] i2 a2 q2 r2 (by rfl) ?_
      refine ko_iaro2 mi_k76.1 (l := [999, 9, 9, 1, 5, 1, 99]) (n := 7) (c := 7) (ax := (0, 0, 0, 0, 0)) (mi_k76.2 _ _ (by rfl)) (by rfl) (by rfl) rfl rfl (oz246 kn1) (oz1181 kn1) ?_
      have r3 : ((0 : Int) ≤ (([999, 9, 9, 1, 5, 1, 99] : List Int32).getD (1 : Int32).toNatClampNeg 0).toInt) ∧ ((([999, 9, 9, 1, 5, 1, 99] : List Int32).getD (1 : Int32).toNatClampNeg 0).toInt ≤ 999) := kro_rng (lo := 0) (hi := 999) (by decide) ((1 : Int32).toNatClampNeg)
      refine ft_if mi_k76 (decide ((([999, 9, 9, 1, 5, 1, 99] : List Int32).getD (1 : Int32).toNatClampNeg 0) < l5_2)) 68 20 [(5, .int l5_2), (4, .int l4_2), (0, .ref 49), (1, .ref 1), (2, .ref 112), (3, .int x3)] [] (by rfl) (fun c => ?_) (fun c => ?_)
      ·
        have c4 : (([999, 9, 9, 1, 5, 1, 99] : List Int32).getD (1 : Int32).toNatClampNeg 0).toInt < l5_2.toInt := kd_lt c; clear c
        have hG5 := kG_call hG hL2 (by decide +kernel)
        refine ft_go mi_k76 1 70 [(5, .int l5_2), (4, .int l4_2), (0, .ref 49), (1, .ref 1), (2, .ref 112), (3, .int x3)] [.int l4_2] i2 a2 q2 r2 (by rfl) ?_
        exact ft_ret mi_k76 (by rfl) (hP l4_2 _ _ _ _ hG5 trivial)
      ·
        have c6 : l5_2.toInt ≤ (([999, 9, 9, 1, 5, 1, 99] : List Int32).getD (1 : Int32).toNatClampNeg 0).toInt := kd_ltF c; clear c
        refine ft_go mi_k76 3 25 [(5, .int l5_2), (4, .int l4_2), (0, .ref 49), (1, .ref 1), (2, .ref 112), (3, .int x3)] [.ref 1, .ref 50] i2 a2 q2 r2 (by rfl) ?_
        refine ko_callN mi_k76.1 (pc := 25) (ls := [(5, .int l5_2), (4, .int l4_2), (0, .ref 49), (1, .ref 1), (2, .ref 112), (3, .int x3)]) (st := [.ref 1, .ref 50]) (h := ks i2 a2 q2 r2) (i := (.invokevirtual 56, 3, 34, 0, 9, 0, 212)) (mi_k76.2 _ _ (by rfl)) (ft_invS mi_pq34 (by rfl)) (cy := mi_c34) mi_pq34 rfl (kc34_50_1 hL2.I hL2.R ) (by decide) ?_
        intro ig7 ag7 qg7 rg7 kg7 hg7
        have hGg7 := kG_call hL2 kg7 (by decide +kernel)
        refine ft_go mi_k76 5 36 [(5, .int l5_2), (4, .int l4_2), (0, .ref 49), (1, .ref 1), (2, .ref 112), (3, .int x3)] [.int l5_2, .int 1, .int x3, .ref 50] ig7 ag7 qg7 rg7 (by rfl) ?_
        refine ko_callN mi_k76.1 (pc := 36) (ls := [(5, .int l5_2), (4, .int l4_2), (0, .ref 49), (1, .ref 1), (2, .ref 112), (3, .int x3)]) (st := [.int l5_2, .int 1, .int x3, .ref 50]) (h := ks ig7 ag7 qg7 rg7) (i := (.invokevirtual 136, 3, 28, 0, 9, 0, 270)) (mi_k76.2 _ _ (by rfl)) (ft_invS mi_pq28 (by rfl)) (cy := mi_c28) mi_pq28 rfl (kc28_50 hGg7.I hGg7.R x3 1 l5_2) (by decide) ?_
        intro ig8 ag8 qg8 rg8 kg8 hg8
        have hGg8 := kG_call hGg7 kg8 (by decide +kernel)
        refine ft_go mi_k76 1 40 [(5, .int l5_2), (4, .int l4_2), (0, .ref 49), (1, .ref 1), (2, .ref 112), (3, .int x3)] [.ref 49] ig8 ag8 qg8 rg8 (by rfl) ?_
        refine ko_callN mi_k76.1 (pc := 40) (ls := [(5, .int l5_2), (4, .int l4_2), (0, .ref 49), (1, .ref 1), (2, .ref 112), (3, .int x3)]) (st := [.ref 49]) (h := ks ig8 ag8 qg8 rg8) (i := (.invokevirtual 60, 3, 60, 0, 9, 0, 219)) (mi_k76.2 _ _ (by rfl)) (ft_invS mi_pq60 (by rfl)) (cy := mi_c60) mi_pq60 rfl (kc60_49 hGg8.I hGg8.R ) (by decide) ?_
        intro ig9 ag9 qg9 rg9 kg9 hg9
        have hGg9 := kG_call hGg8 kg9 (by decide +kernel)
        refine ft_go mi_k76 2 45 [(5, .int l5_2), (4, .int l4_2), (0, .ref 49), (1, .ref 1), (2, .ref 112), (3, .int x3)] [.ref 112, .ref 49] ig9 ag9 qg9 rg9 (by rfl) ?_
        refine ko_callPI mi_k76.1 (pc := 45) (ls := [(5, .int l5_2), (4, .int l4_2), (0, .ref 49), (1, .ref 1), (2, .ref 112), (3, .int x3)]) (st := [.ref 112, .ref 49]) (h := ks ig9 ag9 qg9 rg9) (i := (.invokevirtual 126, 3, 73, 0, 9, 0, 265)) (mi_k76.2 _ _ (by rfl)) (ft_invS mi_pq73 (by rfl)) (cy := mi_c73) mi_pq73 rfl (kc73_49_112 hGg9.I hGg9.R ) (by decide) ?_
        intro vg10 hg10
        refine ft_go mi_k76 1 50 [(5, .int l5_2), (4, .int l4_2), (0, .ref 49), (1, .ref 1), (2, .ref 112), (3, .int x3)] [.int (-2), .int vg10] ig9 ag9 qg9 rg9 (by rfl) ?_
        refine ft_if mi_k76 (vg10 != (-2)) 62 53 [(5, .int l5_2), (4, .int l4_2), (0, .ref 49), (1, .ref 1), (2, .ref 112), (3, .int x3)] [] (by rfl) (fun c => ?_) (fun c => ?_)
        ·
          have c11 : vg10.toInt ≠ ((-2) : Int32).toInt := kd_ne c; clear c
          have s12 : (l5_2 + 1).toInt = l5_2.toInt + (1 : Int32).toInt := kd_add (oz12 p2_0 kn1) (oz1182 c6 r3.2 kn1)
          refine ft_go mi_k76 2 10 [(5, .int (l5_2 + 1)), (4, .int l4_2), (0, .ref 49), (1, .ref 1), (2, .ref 112), (3, .int x3)] [] ig9 ag9 qg9 rg9 (by rfl) ?_
          exact ih2 _ _ _ _ _ _ hGg9 (oz14 p2_0 s12 kn1) (kj_meas (oz1183 s12 kn1) (oz1184 c6 r3.2) hm2)
        ·
          have c13 : vg10.toInt = ((-2) : Int32).toInt := kd_neF c; clear c
          have s14 : (l5_2 + 1).toInt = l5_2.toInt + (1 : Int32).toInt := kd_add (oz12 p2_0 kn1) (oz1182 c6 r3.2 kn1)
          refine ft_go mi_k76 8 10 [(5, .int (l5_2 + 1)), (4, .int (l4_2 ||| (1 <<< (l5_2 &&& 31)))), (0, .ref 49), (1, .ref 1), (2, .ref 112), (3, .int x3)] [] ig9 ag9 qg9 rg9 (by rfl) ?_
          exact ih2 _ _ _ _ _ _ hGg9 (oz14 p2_0 s14 kn1) (kj_meas (oz1183 s14 kn1) (oz1184 c6 r3.2) hm2)
  exact lp2 _ _ _ _ _ _ _ (kG_self _ hG.I hG.R) (oz3 r1.1) (Nat.lt_succ_self _)
def w76_49_1_114 : kW := ([645, 3200, 3206, 3207, 3208, 3209, 3214, 3215, 3216, 3586, 3781, 6405], [13, 51, 52, 53, 54, 55, 57, 58, 62, 63, 65, 66, 67, 68, 69, 70, 71, 72, 73, 75, 76, 77, 103], [], [1])
def w76_49_1_114_L10 : kW := ([645, 3200, 3206, 3207, 3208, 3209, 3214, 3215, 3216, 3586, 3781, 6405], [13, 51, 52, 53, 54, 55, 57, 58, 62, 63, 65, 66, 67, 68, 69, 70, 71, 72, 73, 75, 76, 77, 103], [], [1])
set_option maxRecDepth 100000 in
theorem kc76_49_1_114 {i : Nat → Int32} {a : Nat → List Int32} {q : Nat → List Int64} {r : Nat → Nat} (hI : kI i a q) (hr : kr r) (x3 : Int32) : km 11 76 [.ref 49, .ref 1, .ref 114, .int x3] (ks i a q r) (kVI w76_49_1_114 i a q r (fun v i1 a1 q1 r1 => True)) := by
  have hG := kG_self w76_49_1_114 hI hr
  refine km_ofI (q := (mi_h76, mi_c76)) rfl (by decide) (Nat.le_of_ble_eq_true rfl) ?_
  intro P hP
  refine ft_go mi_k76 4 7 [(4, .int 0), (0, .ref 49), (1, .ref 1), (2, .ref 114), (3, .int x3)] [.int 1, .ref (mi_RO + 1)] i a q r (by rfl) ?_
  refine ko_iaro2 mi_k76.1 (l := [0, 0, 0, 0, 1, 0, 0]) (n := 7) (c := 7) (ax := (0, 0, 0, 0, 0)) (mi_k76.2 _ _ (by rfl)) (by rfl) (by rfl) rfl rfl (oz246 kn1) (oz1181 kn1) ?_
  have r1 : ((0 : Int) ≤ (([0, 0, 0, 0, 1, 0, 0] : List Int32).getD (1 : Int32).toNatClampNeg 0).toInt) ∧ ((([0, 0, 0, 0, 1, 0, 0] : List Int32).getD (1 : Int32).toNatClampNeg 0).toInt ≤ 1) := kro_rng (lo := 0) (hi := 1) (by decide) ((1 : Int32).toNatClampNeg)
  refine ft_go mi_k76 1 10 [(5, .int (([0, 0, 0, 0, 1, 0, 0] : List Int32).getD (1 : Int32).toNatClampNeg 0)), (4, .int 0), (0, .ref 49), (1, .ref 1), (2, .ref 114), (3, .int x3)] [] i a q r (by rfl) ?_
  have lp2 : ∀ (nz : Nat) (i2 : Nat → Int32) (a2 : Nat → List Int32) (q2 : Nat → List Int64) (r2 : Nat → Nat) (l5_2 : Int32) (l4_2 : Int32), kG w76_49_1_114_L10 i a q r i2 a2 q2 r2 → (0 : Int) ≤ l5_2.toInt → ((1001 - l5_2.toInt)).toNat < nz → ko 11 (mi_h76, mi_c76) P (10, [(5, .int l5_2), (4, .int l4_2), (0, .ref 49), (1, .ref 1), (2, .ref 114), (3, .int x3)], [], (0, 0), ks i2 a2 q2 r2) := by
    intro nz
    induction nz with
    | zero =>
      intro _ _ _ _ _ _ _ _ hm
      exact absurd hm (Nat.not_lt_zero _)
    | succ nz ih2 =>
      intro i2 a2 q2 r2 l5_2 l4_2 hL2 p2_0 hm2
      refine ft_go mi_k76 3 16 [(5, .int l5_2), (4, .int l4_2), (0, .ref 49), (1, .ref 1), (2, .ref 114), (3, .int x3)] [.int 1, .ref (mi_RO + 2), .int l5_2] i2 a2 q2 r2 (by rfl) ?_
      refine ko_iaro2 mi_k76.1 (l := [999, 9, 9, 1, 5, 1, 99]) (n := 7) (c := 7) (ax := (0, 0, 0, 0, 0)) (mi_k76.2 _ _ (by rfl)) (by rfl) (by rfl) rfl rfl (oz246 kn1) (oz1181 kn1) ?_
      have r3 : ((0 : Int) ≤ (([999, 9, 9, 1, 5, 1, 99] : List Int32).getD (1 : Int32).toNatClampNeg 0).toInt) ∧ ((([999, 9, 9, 1, 5, 1, 99] : List Int32).getD (1 : Int32).toNatClampNeg 0).toInt ≤ 999) := kro_rng (lo := 0) (hi := 999) (by decide) ((1 : Int32).toNatClampNeg)
      refine ft_if mi_k76 (decide ((([999, 9, 9, 1, 5, 1, 99] : List Int32).getD (1 : Int32).toNatClampNeg 0) < l5_2)) 68 20 [(5, .int l5_2), (4, .int l4_2), (0, .ref 49), (1, .ref 1), (2, .ref 114), (3, .int x3)] [] (by rfl) (fun c => ?_) (fun c => ?_)
      ·
        have c4 : (([999, 9, 9, 1, 5, 1, 99] : List Int32).getD (1 : Int32).toNatClampNeg 0).toInt < l5_2.toInt := kd_lt c; clear c
        have hG5 := kG_call hG hL2 (by decide +kernel)
        refine ft_go mi_k76 1 70 [(5, .int l5_2), (4, .int l4_2), (0, .ref 49), (1, .ref 1), (2, .ref 114), (3, .int x3)] [.int l4_2] i2 a2 q2 r2 (by rfl) ?_
        exact ft_ret mi_k76 (by rfl) (hP l4_2 _ _ _ _ hG5 trivial)
      ·
        have c6 : l5_2.toInt ≤ (([999, 9, 9, 1, 5, 1, 99] : List Int32).getD (1 : Int32).toNatClampNeg 0).toInt := kd_ltF c; clear c
        refine ft_go mi_k76 3 25 [(5, .int l5_2), (4, .int l4_2), (0, .ref 49), (1, .ref 1), (2, .ref 114), (3, .int x3)] [.ref 1, .ref 50] i2 a2 q2 r2 (by rfl) ?_
        refine ko_callN mi_k76.1 (pc := 25) (ls := [(5, .int l5_2), (4, .int l4_2), (0, .ref 49), (1, .ref 1), (2, .ref 114), (3, .int x3)]) (st := [.ref 1, .ref 50]) (h := ks i2 a2 q2 r2) (i := (.invokevirtual 56, 3, 34, 0, 9, 0, 212)) (mi_k76.2 _ _ (by rfl)) (ft_invS mi_pq34 (by rfl)) (cy := mi_c34) mi_pq34 rfl (kc34_50_1 hL2.I hL2.R ) (by decide) ?_
        intro ig7 ag7 qg7 rg7 kg7 hg7
        have hGg7 := kG_call hL2 kg7 (by decide +kernel)
        refine ft_go mi_k76 5 36 [(5, .int l5_2), (4, .int l4_2), (0, .ref 49), (1, .ref 1), (2, .ref 114), (3, .int x3)] [.int l5_2, .int 1, .int x3, .ref 50] ig7 ag7 qg7 rg7 (by rfl) ?_
        refine ko_callN mi_k76.1 (pc := 36) (ls := [(5, .int l5_2), (4, .int l4_2), (0, .ref 49), (1, .ref 1), (2, .ref 114), (3, .int x3)]) (st := [.int l5_2, .int 1, .int x3, .ref 50]) (h := ks ig7 ag7 qg7 rg7) (i := (.invokevirtual 136, 3, 28, 0, 9, 0, 270)) (mi_k76.2 _ _ (by rfl)) (ft_invS mi_pq28 (by rfl)) (cy := mi_c28) mi_pq28 rfl (kc28_50 hGg7.I hGg7.R x3 1 l5_2) (by decide) ?_
        intro ig8 ag8 qg8 rg8 kg8 hg8
        have hGg8 := kG_call hGg7 kg8 (by decide +kernel)
        refine ft_go mi_k76 1 40 [(5, .int l5_2), (4, .int l4_2), (0, .ref 49), (1, .ref 1), (2, .ref 114), (3, .int x3)] [.ref 49] ig8 ag8 qg8 rg8 (by rfl) ?_
        refine ko_callN mi_k76.1 (pc := 40) (ls := [(5, .int l5_2), (4, .int l4_2), (0, .ref 49), (1, .ref 1), (2, .ref 114), (3, .int x3)]) (st := [.ref 49]) (h := ks ig8 ag8 qg8 rg8) (i := (.invokevirtual 60, 3, 60, 0, 9, 0, 219)) (mi_k76.2 _ _ (by rfl)) (ft_invS mi_pq60 (by rfl)) (cy := mi_c60) mi_pq60 rfl (kc60_49 hGg8.I hGg8.R ) (by decide) ?_
        intro ig9 ag9 qg9 rg9 kg9 hg9
        have hGg9 := kG_call hGg8 kg9 (by decide +kernel)
        refine ft_go mi_k76 2 45 [(5, .int l5_2), (4, .int l4_2), (0, .ref 49), (1, .ref 1), (2, .ref 114), (3, .int x3)] [.ref 114, .ref 49] ig9 ag9 qg9 rg9 (by rfl) ?_
        refine ko_callPI mi_k76.1 (pc := 45) (ls := [(5, .int l5_2), (4, .int l4_2), (0, .ref 49), (1, .ref 1), (2, .ref 114), (3, .int x3)]) (st := [.ref 114, .ref 49]) (h := ks ig9 ag9 qg9 rg9) (i := (.invokevirtual 126, 3, 73, 0, 9, 0, 265)) (mi_k76.2 _ _ (by rfl)) (ft_invS mi_pq73 (by rfl)) (cy := mi_c73) mi_pq73 rfl (kc73_49_114 hGg9.I hGg9.R ) (by decide) ?_
        intro vg10 hg10
        refine ft_go mi_k76 1 50 [(5, .int l5_2), (4, .int l4_2), (0, .ref 49), (1, .ref 1), (2, .ref 114), (3, .int x3)] [.int (-2), .int vg10] ig9 ag9 qg9 rg9 (by rfl) ?_
        refine ft_if mi_k76 (vg10 != (-2)) 62 53 [(5, .int l5_2), (4, .int l4_2), (0, .ref 49), (1, .ref 1), (2, .ref 114), (3, .int x3)] [] (by rfl) (fun c => ?_) (fun c => ?_)
        ·
          have c11 : vg10.toInt ≠ ((-2) : Int32).toInt := kd_ne c; clear c
          have s12 : (l5_2 + 1).toInt = l5_2.toInt + (1 : Int32).toInt := kd_add (oz12 p2_0 kn1) (oz1182 c6 r3.2 kn1)
          refine ft_go mi_k76 2 10 [(5, .int (l5_2 + 1)), (4, .int l4_2), (0, .ref 49), (1, .ref 1), (2, .ref 114), (3, .int x3)] [] ig9 ag9 qg9 rg9 (by rfl) ?_
          exact ih2 _ _ _ _ _ _ hGg9 (oz14 p2_0 s12 kn1) (kj_meas (oz1183 s12 kn1) (oz1184 c6 r3.2) hm2)
        ·
          have c13 : vg10.toInt = ((-2) : Int32).toInt := kd_neF c; clear c
          have s14 : (l5_2 + 1).toInt = l5_2.toInt + (1 : Int32).toInt := kd_add (oz12 p2_0 kn1) (oz1182 c6 r3.2 kn1)
          refine ft_go mi_k76 8 10 [(5, .int (l5_2 + 1)), (4, .int (l4_2 ||| (1 <<< (l5_2 &&& 31)))), (0, .ref 49), (1, .ref 1), (2, .ref 114), (3, .int x3)] [] ig9 ag9 qg9 rg9 (by rfl) ?_
          exact ih2 _ _ _ _ _ _ hGg9 (oz14 p2_0 s14 kn1) (kj_meas (oz1183 s14 kn1) (oz1184 c6 r3.2) hm2)
  exact lp2 _ _ _ _ _ _ _ (kG_self _ hG.I hG.R) (oz3 r1.1) (Nat.lt_succ_self _)
def w74_49_1_104 : kW := ([645, 3200, 3206, 3207, 3208, 3209, 3214, 3215, 3216, 3586, 3781, 6405], [13, 51, 52, 53, 54, 55, 57, 58, 62, 63, 65, 66, 67, 68, 69, 70, 71, 72, 73, 75, 76, 77, 103], [], [1])
def w74_49_1_104_L5 : kW := ([645, 3200, 3206, 3207, 3208, 3209, 3214, 3215, 3216, 3586, 3781, 6405], [13, 51, 52, 53, 54, 55, 57, 58, 62, 63, 65, 66, 67, 68, 69, 70, 71, 72, 73, 75, 76, 77, 103], [], [1])
set_option maxRecDepth 100000 in
theorem kc74_49_1_104 {i : Nat → Int32} {a : Nat → List Int32} {q : Nat → List Int64} {r : Nat → Nat} (hI : kI i a q) (hr : kr r)  : km 11 74 [.ref 49, .ref 1, .ref 104] (ks i a q r) (kVI w74_49_1_104 i a q r (fun v i1 a1 q1 r1 => True)) := by
  have hG := kG_self w74_49_1_104 hI hr
  refine km_ofI (q := (mi_h74, mi_c74)) rfl (by decide) (Nat.le_of_ble_eq_true rfl) ?_
  intro P hP
  refine ft_go mi_k74 4 5 [(4, .int 1), (3, .int 0), (0, .ref 49), (1, .ref 1), (2, .ref 104)] [] i a q r (by rfl) ?_
  have lp1 : ∀ (nz : Nat) (i1 : Nat → Int32) (a1 : Nat → List Int32) (q1 : Nat → List Int64) (r1 : Nat → Nat) (l4_1 : Int32) (l3_1 : Int32), kG w74_49_1_104_L5 i a q r i1 a1 q1 r1 → (1 : Int) ≤ l4_1.toInt → ((6 - l4_1.toInt)).toNat < nz → ko 11 (mi_h74, mi_c74) P (5, [(4, .int l4_1), (3, .int l3_1), (0, .ref 49), (1, .ref 1), (2, .ref 104)], [], (0, 0), ks i1 a1 q1 r1) := by
    intro nz
    induction nz with
    | zero =>
      intro _ _ _ _ _ _ _ _ hm
      exact absurd hm (Nat.not_lt_zero _)
    | succ nz ih1 =>
      intro i1 a1 q1 r1 l4_1 l3_1 hL1 p1_0 hm1
      refine ft_go mi_k74 2 8 [(4, .int l4_1), (3, .int l3_1), (0, .ref 49), (1, .ref 1), (2, .ref 104)] [.int 5, .int l4_1] i1 a1 q1 r1 (by rfl) ?_
      refine ft_if mi_k74 (decide (5 < l4_1)) 55 11 [(4, .int l4_1), (3, .int l3_1), (0, .ref 49), (1, .ref 1), (2, .ref 104)] [] (by rfl) (fun c => ?_) (fun c => ?_)
      ·
        have c2 : (5 : Int32).toInt < l4_1.toInt := kd_lt c; clear c
        have hG3 := kG_call hG hL1 (by decide +kernel)
        refine ft_go mi_k74 1 56 [(4, .int l4_1), (3, .int l3_1), (0, .ref 49), (1, .ref 1), (2, .ref 104)] [.int l3_1] i1 a1 q1 r1 (by rfl) ?_
        exact ft_ret mi_k74 (by rfl) (hP l3_1 _ _ _ _ hG3 trivial)
      ·
        have c4 : l4_1.toInt ≤ (5 : Int32).toInt := kd_ltF c; clear c
        refine ft_go mi_k74 3 16 [(4, .int l4_1), (3, .int l3_1), (0, .ref 49), (1, .ref 1), (2, .ref 104)] [.ref 1, .ref 50] i1 a1 q1 r1 (by rfl) ?_
        refine ko_callN mi_k74.1 (pc := 16) (ls := [(4, .int l4_1), (3, .int l3_1), (0, .ref 49), (1, .ref 1), (2, .ref 104)]) (st := [.ref 1, .ref 50]) (h := ks i1 a1 q1 r1) (i := (.invokevirtual 56, 3, 34, 0, 9, 0, 212)) (mi_k74.2 _ _ (by rfl)) (ft_invS mi_pq34 (by rfl)) (cy := mi_c34) mi_pq34 rfl (kc34_50_1 hL1.I hL1.R ) (by decide) ?_
        intro ig5 ag5 qg5 rg5 kg5 hg5
        have hGg5 := kG_call hL1 kg5 (by decide +kernel)
        have hJ6 := kG_i hGg5 3206 rfl (v := l4_1) (kd_bd _)
        refine ft_go mi_k74 5 29 [(4, .int l4_1), (3, .int l3_1), (0, .ref 49), (1, .ref 1), (2, .ref 104)] [.ref 49] (ku ig5 3206 l4_1) ag5 qg5 rg5 (by rfl) ?_
        refine ko_callN mi_k74.1 (pc := 29) (ls := [(4, .int l4_1), (3, .int l3_1), (0, .ref 49), (1, .ref 1), (2, .ref 104)]) (st := [.ref 49]) (h := ks (ku ig5 3206 l4_1) ag5 qg5 rg5) (i := (.invokevirtual 60, 3, 60, 0, 9, 0, 219)) (mi_k74.2 _ _ (by rfl)) (ft_invS mi_pq60 (by rfl)) (cy := mi_c60) mi_pq60 rfl (kc60_49 hJ6.I hJ6.R ) (by decide) ?_
        intro ig7 ag7 qg7 rg7 kg7 hg7
        have hGg7 := kG_call hJ6 kg7 (by decide +kernel)
        refine ft_go mi_k74 2 34 [(4, .int l4_1), (3, .int l3_1), (0, .ref 49), (1, .ref 1), (2, .ref 104)] [.ref 104, .ref 49] ig7 ag7 qg7 rg7 (by rfl) ?_
        refine ko_callPI mi_k74.1 (pc := 34) (ls := [(4, .int l4_1), (3, .int l3_1), (0, .ref 49), (1, .ref 1), (2, .ref 104)]) (st := [.ref 104, .ref 49]) (h := ks ig7 ag7 qg7 rg7) (i := (.invokevirtual 126, 3, 73, 0, 9, 0, 265)) (mi_k74.2 _ _ (by rfl)) (ft_invS mi_pq73 (by rfl)) (cy := mi_c73) mi_pq73 rfl (kc73_49_104 hGg7.I hGg7.R ) (by decide) ?_
        intro vg8 hg8
        refine ft_go mi_k74 1 39 [(4, .int l4_1), (3, .int l3_1), (0, .ref 49), (1, .ref 1), (2, .ref 104)] [.int (-2), .int vg8] ig7 ag7 qg7 rg7 (by rfl) ?_
        refine ft_if mi_k74 (vg8 != (-2)) 49 42 [(4, .int l4_1), (3, .int l3_1), (0, .ref 49), (1, .ref 1), (2, .ref 104)] [] (by rfl) (fun c => ?_) (fun c => ?_)
        ·
          have c9 : vg8.toInt ≠ ((-2) : Int32).toInt := kd_ne c; clear c
          have s10 : (l4_1 + 1).toInt = l4_1.toInt + (1 : Int32).toInt := kd_add (oz491 p1_0 kn1) (oz1190 c4 kn5 kn1)
          refine ft_go mi_k74 2 5 [(4, .int (l4_1 + 1)), (3, .int l3_1), (0, .ref 49), (1, .ref 1), (2, .ref 104)] [] ig7 ag7 qg7 rg7 (by rfl) ?_
          exact ih1 _ _ _ _ _ _ hGg7 (oz492 p1_0 s10 kn1) (kj_meas (oz530 s10 kn1) (oz1191 c4 kn5) hm1)
        ·
          have c11 : vg8.toInt = ((-2) : Int32).toInt := kd_neF c; clear c
          have s12 : ((1 : Int) ≤ (1 <<< (l4_1 &&& 31)).toInt) ∧ ((1 <<< (l4_1 &&& 31)).toInt ≤ 256) := kd_shl1 (oz489 p1_0) (oz1192 c4 kn5)
          have s13 : (1 <<< (l4_1 &&& 31)).toInt ≤ 32 := kd_shl32 (oz489 p1_0) (oz1193 c4 kn5)
          have s14 : (l4_1 + 1).toInt = l4_1.toInt + (1 : Int32).toInt := kd_add (oz491 p1_0 kn1) (oz1190 c4 kn5 kn1)
          refine ft_go mi_k74 8 5 [(4, .int (l4_1 + 1)), (3, .int (l3_1 ||| (1 <<< (l4_1 &&& 31)))), (0, .ref 49), (1, .ref 1), (2, .ref 104)] [] ig7 ag7 qg7 rg7 (by rfl) ?_
          exact ih1 _ _ _ _ _ _ hGg7 (oz492 p1_0 s14 kn1) (kj_meas (oz530 s14 kn1) (oz1191 c4 kn5) hm1)
  exact lp1 _ _ _ _ _ _ _ (kG_self _ hG.I hG.R) (oz494 kn1) (Nat.lt_succ_self _)
def w74_49_1_106 : kW := ([645, 3200, 3206, 3207, 3208, 3209, 3214, 3215, 3216, 3586, 3781, 6405], [13, 51, 52, 53, 54, 55, 57, 58, 62, 63, 65, 66, 67, 68, 69, 70, 71, 72, 73, 75, 76, 77, 103], [], [1])
def w74_49_1_106_L5 : kW := ([645, 3200, 3206, 3207, 3208, 3209, 3214, 3215, 3216, 3586, 3781, 6405], [13, 51, 52, 53, 54, 55, 57, 58, 62, 63, 65, 66, 67, 68, 69, 70, 71, 72, 73, 75, 76, 77, 103], [], [1])
set_option maxRecDepth 100000 in
theorem kc74_49_1_106 {i : Nat → Int32} {a : Nat → List Int32} {q : Nat → List Int64} {r : Nat → Nat} (hI : kI i a q) (hr : kr r)  : km 11 74 [.ref 49, .ref 1, .ref 106] (ks i a q r) (kVI w74_49_1_106 i a q r (fun v i1 a1 q1 r1 => True)) := by
  have hG := kG_self w74_49_1_106 hI hr
  refine km_ofI (q := (mi_h74, mi_c74)) rfl (by decide) (Nat.le_of_ble_eq_true rfl) ?_
  intro P hP
  refine ft_go mi_k74 4 5 [(4, .int 1), (3, .int 0), (0, .ref 49), (1, .ref 1), (2, .ref 106)] [] i a q r (by rfl) ?_
  have lp1 : ∀ (nz : Nat) (i1 : Nat → Int32) (a1 : Nat → List Int32) (q1 : Nat → List Int64) (r1 : Nat → Nat) (l4_1 : Int32) (l3_1 : Int32), kG w74_49_1_106_L5 i a q r i1 a1 q1 r1 → (1 : Int) ≤ l4_1.toInt → ((6 - l4_1.toInt)).toNat < nz → ko 11 (mi_h74, mi_c74) P (5, [(4, .int l4_1), (3, .int l3_1), (0, .ref 49), (1, .ref 1), (2, .ref 106)], [], (0, 0), ks i1 a1 q1 r1) := by
    intro nz
    induction nz with
    | zero =>
      intro _ _ _ _ _ _ _ _ hm
      exact absurd hm (Nat.not_lt_zero _)
    | succ nz ih1 =>
      intro i1 a1 q1 r1 l4_1 l3_1 hL1 p1_0 hm1
      refine ft_go mi_k74 2 8 [(4, .int l4_1), (3, .int l3_1), (0, .ref 49), (1, .ref 1), (2, .ref 106)] [.int 5, .int l4_1] i1 a1 q1 r1 (by rfl) ?_
      refine ft_if mi_k74 (decide (5 < l4_1)) 55 11 [(4, .int l4_1), (3, .int l3_1), (0, .ref 49), (1, .ref 1), (2, .ref 106)] [] (by rfl) (fun c => ?_) (fun c => ?_)
      ·
        have c2 : (5 : Int32).toInt < l4_1.toInt := kd_lt c; clear c
        have hG3 := kG_call hG hL1 (by decide +kernel)
        refine ft_go mi_k74 1 56 [(4, .int l4_1), (3, .int l3_1), (0, .ref 49), (1, .ref 1), (2, .ref 106)] [.int l3_1] i1 a1 q1 r1 (by rfl) ?_
        exact ft_ret mi_k74 (by rfl) (hP l3_1 _ _ _ _ hG3 trivial)
      ·
        have c4 : l4_1.toInt ≤ (5 : Int32).toInt := kd_ltF c; clear c
        refine ft_go mi_k74 3 16 [(4, .int l4_1), (3, .int l3_1), (0, .ref 49), (1, .ref 1), (2, .ref 106)] [.ref 1, .ref 50] i1 a1 q1 r1 (by rfl) ?_
        refine ko_callN mi_k74.1 (pc := 16) (ls := [(4, .int l4_1), (3, .int l3_1), (0, .ref 49), (1, .ref 1), (2, .ref 106)]) (st := [.ref 1, .ref 50]) (h := ks i1 a1 q1 r1) (i := (.invokevirtual 56, 3, 34, 0, 9, 0, 212)) (mi_k74.2 _ _ (by rfl)) (ft_invS mi_pq34 (by rfl)) (cy := mi_c34) mi_pq34 rfl (kc34_50_1 hL1.I hL1.R ) (by decide) ?_
        intro ig5 ag5 qg5 rg5 kg5 hg5
        have hGg5 := kG_call hL1 kg5 (by decide +kernel)
        have hJ6 := kG_i hGg5 3206 rfl (v := l4_1) (kd_bd _)
        refine ft_go mi_k74 5 29 [(4, .int l4_1), (3, .int l3_1), (0, .ref 49), (1, .ref 1), (2, .ref 106)] [.ref 49] (ku ig5 3206 l4_1) ag5 qg5 rg5 (by rfl) ?_
        refine ko_callN mi_k74.1 (pc := 29) (ls := [(4, .int l4_1), (3, .int l3_1), (0, .ref 49), (1, .ref 1), (2, .ref 106)]) (st := [.ref 49]) (h := ks (ku ig5 3206 l4_1) ag5 qg5 rg5) (i := (.invokevirtual 60, 3, 60, 0, 9, 0, 219)) (mi_k74.2 _ _ (by rfl)) (ft_invS mi_pq60 (by rfl)) (cy := mi_c60) mi_pq60 rfl (kc60_49 hJ6.I hJ6.R ) (by decide) ?_
        intro ig7 ag7 qg7 rg7 kg7 hg7
        have hGg7 := kG_call hJ6 kg7 (by decide +kernel)
        refine ft_go mi_k74 2 34 [(4, .int l4_1), (3, .int l3_1), (0, .ref 49), (1, .ref 1), (2, .ref 106)] [.ref 106, .ref 49] ig7 ag7 qg7 rg7 (by rfl) ?_
        refine ko_callPI mi_k74.1 (pc := 34) (ls := [(4, .int l4_1), (3, .int l3_1), (0, .ref 49), (1, .ref 1), (2, .ref 106)]) (st := [.ref 106, .ref 49]) (h := ks ig7 ag7 qg7 rg7) (i := (.invokevirtual 126, 3, 73, 0, 9, 0, 265)) (mi_k74.2 _ _ (by rfl)) (ft_invS mi_pq73 (by rfl)) (cy := mi_c73) mi_pq73 rfl (kc73_49_106 hGg7.I hGg7.R ) (by decide) ?_
        intro vg8 hg8
        refine ft_go mi_k74 1 39 [(4, .int l4_1), (3, .int l3_1), (0, .ref 49), (1, .ref 1), (2, .ref 106)] [.int (-2), .int vg8] ig7 ag7 qg7 rg7 (by rfl) ?_
        refine ft_if mi_k74 (vg8 != (-2)) 49 42 [(4, .int l4_1), (3, .int l3_1), (0, .ref 49), (1, .ref 1), (2, .ref 106)] [] (by rfl) (fun c => ?_) (fun c => ?_)
        ·
          have c9 : vg8.toInt ≠ ((-2) : Int32).toInt := kd_ne c; clear c
          have s10 : (l4_1 + 1).toInt = l4_1.toInt + (1 : Int32).toInt := kd_add (oz491 p1_0 kn1) (oz1190 c4 kn5 kn1)
          refine ft_go mi_k74 2 5 [(4, .int (l4_1 + 1)), (3, .int l3_1), (0, .ref 49), (1, .ref 1), (2, .ref 106)] [] ig7 ag7 qg7 rg7 (by rfl) ?_
          exact ih1 _ _ _ _ _ _ hGg7 (oz492 p1_0 s10 kn1) (kj_meas (oz530 s10 kn1) (oz1191 c4 kn5) hm1)
        ·
          have c11 : vg8.toInt = ((-2) : Int32).toInt := kd_neF c; clear c
          have s12 : ((1 : Int) ≤ (1 <<< (l4_1 &&& 31)).toInt) ∧ ((1 <<< (l4_1 &&& 31)).toInt ≤ 256) := kd_shl1 (oz489 p1_0) (oz1192 c4 kn5)
          have s13 : (1 <<< (l4_1 &&& 31)).toInt ≤ 32 := kd_shl32 (oz489 p1_0) (oz1193 c4 kn5)
          have s14 : (l4_1 + 1).toInt = l4_1.toInt + (1 : Int32).toInt := kd_add (oz491 p1_0 kn1) (oz1190 c4 kn5 kn1)
          refine ft_go mi_k74 8 5 [(4, .int (l4_1 + 1)), (3, .int (l3_1 ||| (1 <<< (l4_1 &&& 31)))), (0, .ref 49), (1, .ref 1), (2, .ref 106)] [] ig7 ag7 qg7 rg7 (by rfl) ?_
          exact ih1 _ _ _ _ _ _ hGg7 (oz492 p1_0 s14 kn1) (kj_meas (oz530 s14 kn1) (oz1191 c4 kn5) hm1)
  exact lp1 _ _ _ _ _ _ _ (kG_self _ hG.I hG.R) (oz494 kn1) (Nat.lt_succ_self _)
def w74_49_1_108 : kW := ([645, 3200, 3206, 3207, 3208, 3209, 3214, 3215, 3216, 3586, 3781, 6405], [13, 51, 52, 53, 54, 55, 57, 58, 62, 63, 65, 66, 67, 68, 69, 70, 71, 72, 73, 75, 76, 77, 103], [], [1])
def w74_49_1_108_L5 : kW := ([645, 3200, 3206, 3207, 3208, 3209, 3214, 3215, 3216, 3586, 3781, 6405], [13, 51, 52, 53, 54, 55, 57, 58, 62, 63, 65, 66, 67, 68, 69, 70, 71, 72, 73, 75, 76, 77, 103], [], [1])
set_option maxRecDepth 100000 in
theorem kc74_49_1_108 {i : Nat → Int32} {a : Nat → List Int32} {q : Nat → List Int64} {r : Nat → Nat} (hI : kI i a q) (hr : kr r)  : km 11 74 [.ref 49, .ref 1, .ref 108] (ks i a q r) (kVI w74_49_1_108 i a q r (fun v i1 a1 q1 r1 => True)) := by
  have hG := kG_self w74_49_1_108 hI hr
  refine km_ofI (q := (mi_h74, mi_c74)) rfl (by decide) (Nat.le_of_ble_eq_true rfl) ?_
  intro P hP
  refine ft_go mi_k74 4 5 [(4, .int 1), (3, .int 0), (0, .ref 49), (1, .ref 1), (2, .ref 108)] [] i a q r (by rfl) ?_
  have lp1 : ∀ (nz : Nat) (i1 : Nat → Int32) (a1 : Nat → List Int32) (q1 : Nat → List Int64) (r1 : Nat → Nat) (l4_1 : Int32) (l3_1 : Int32), kG w74_49_1_108_L5 i a q r i1 a1 q1 r1 → (1 : Int) ≤ l4_1.toInt → ((6 - l4_1.toInt)).toNat < nz → ko 11 (mi_h74, mi_c74) P (5, [(4, .int l4_1), (3, .int l3_1), (0, .ref 49), (1, .ref 1), (2, .ref 108)], [], (0, 0), ks i1 a1 q1 r1) := by
    intro nz
    induction nz with
    | zero =>
      intro _ _ _ _ _ _ _ _ hm
      exact absurd hm (Nat.not_lt_zero _)
    | succ nz ih1 =>
      intro i1 a1 q1 r1 l4_1 l3_1 hL1 p1_0 hm1
      refine ft_go mi_k74 2 8 [(4, .int l4_1), (3, .int l3_1), (0, .ref 49), (1, .ref 1), (2, .ref 108)] [.int 5, .int l4_1] i1 a1 q1 r1 (by rfl) ?_
      refine ft_if mi_k74 (decide (5 < l4_1)) 55 11 [(4, .int l4_1), (3, .int l3_1), (0, .ref 49), (1, .ref 1), (2, .ref 108)] [] (by rfl) (fun c => ?_) (fun c => ?_)
      ·
        have c2 : (5 : Int32).toInt < l4_1.toInt := kd_lt c; clear c
        have hG3 := kG_call hG hL1 (by decide +kernel)
        refine ft_go mi_k74 1 56 [(4, .int l4_1), (3, .int l3_1), (0, .ref 49), (1, .ref 1), (2, .ref 108)] [.int l3_1] i1 a1 q1 r1 (by rfl) ?_
        exact ft_ret mi_k74 (by rfl) (hP l3_1 _ _ _ _ hG3 trivial)
      ·
        have c4 : l4_1.toInt ≤ (5 : Int32).toInt := kd_ltF c; clear c
        refine ft_go mi_k74 3 16 [(4, .int l4_1), (3, .int l3_1), (0, .ref 49), (1, .ref 1), (2, .ref 108)] [.ref 1, .ref 50] i1 a1 q1 r1 (by rfl) ?_
        refine ko_callN mi_k74.1 (pc := 16) (ls := [(4, .int l4_1), (3, .int l3_1), (0, .ref 49), (1, .ref 1), (2, .ref 108)]) (st := [.ref 1, .ref 50]) (h := ks i1 a1 q1 r1) (i := (.invokevirtual 56, 3, 34, 0, 9, 0, 212)) (mi_k74.2 _ _ (by rfl)) (ft_invS mi_pq34 (by rfl)) (cy := mi_c34) mi_pq34 rfl (kc34_50_1 hL1.I hL1.R ) (by decide) ?_
        intro ig5 ag5 qg5 rg5 kg5 hg5
        have hGg5 := kG_call hL1 kg5 (by decide +kernel)
        have hJ6 := kG_i hGg5 3206 rfl (v := l4_1) (kd_bd _)
        refine ft_go mi_k74 5 29 [(4, .int l4_1), (3, .int l3_1), (0, .ref 49), (1, .ref 1), (2, .ref 108)] [.ref 49] (ku ig5 3206 l4_1) ag5 qg5 rg5 (by rfl) ?_
        refine ko_callN mi_k74.1 (pc := 29) (ls := [(4, .int l4_1), (3, .int l3_1), (0, .ref 49), (1, .ref 1), (2, .ref 108)]) (st := [.ref 49]) (h := ks (ku ig5 3206 l4_1) ag5 qg5 rg5) (i := (.invokevirtual 60, 3, 60, 0, 9, 0, 219)) (mi_k74.2 _ _ (by rfl)) (ft_invS mi_pq60 (by rfl)) (cy := mi_c60) mi_pq60 rfl (kc60_49 hJ6.I hJ6.R ) (by decide) ?_
        intro ig7 ag7 qg7 rg7 kg7 hg7
        have hGg7 := kG_call hJ6 kg7 (by decide +kernel)
        refine ft_go mi_k74 2 34 [(4, .int l4_1), (3, .int l3_1), (0, .ref 49), (1, .ref 1), (2, .ref 108)] [.ref 108, .ref 49] ig7 ag7 qg7 rg7 (by rfl) ?_
        refine ko_callPI mi_k74.1 (pc := 34) (ls := [(4, .int l4_1), (3, .int l3_1), (0, .ref 49), (1, .ref 1), (2, .ref 108)]) (st := [.ref 108, .ref 49]) (h := ks ig7 ag7 qg7 rg7) (i := (.invokevirtual 126, 3, 73, 0, 9, 0, 265)) (mi_k74.2 _ _ (by rfl)) (ft_invS mi_pq73 (by rfl)) (cy := mi_c73) mi_pq73 rfl (kc73_49_108 hGg7.I hGg7.R ) (by decide) ?_
        intro vg8 hg8
        refine ft_go mi_k74 1 39 [(4, .int l4_1), (3, .int l3_1), (0, .ref 49), (1, .ref 1), (2, .ref 108)] [.int (-2), .int vg8] ig7 ag7 qg7 rg7 (by rfl) ?_
        refine ft_if mi_k74 (vg8 != (-2)) 49 42 [(4, .int l4_1), (3, .int l3_1), (0, .ref 49), (1, .ref 1), (2, .ref 108)] [] (by rfl) (fun c => ?_) (fun c => ?_)
        ·
          have c9 : vg8.toInt ≠ ((-2) : Int32).toInt := kd_ne c; clear c
          have s10 : (l4_1 + 1).toInt = l4_1.toInt + (1 : Int32).toInt := kd_add (oz491 p1_0 kn1) (oz1190 c4 kn5 kn1)
          refine ft_go mi_k74 2 5 [(4, .int (l4_1 + 1)), (3, .int l3_1), (0, .ref 49), (1, .ref 1), (2, .ref 108)] [] ig7 ag7 qg7 rg7 (by rfl) ?_
          exact ih1 _ _ _ _ _ _ hGg7 (oz492 p1_0 s10 kn1) (kj_meas (oz530 s10 kn1) (oz1191 c4 kn5) hm1)
        ·
          have c11 : vg8.toInt = ((-2) : Int32).toInt := kd_neF c; clear c
          have s12 : ((1 : Int) ≤ (1 <<< (l4_1 &&& 31)).toInt) ∧ ((1 <<< (l4_1 &&& 31)).toInt ≤ 256) := kd_shl1 (oz489 p1_0) (oz1192 c4 kn5)
          have s13 : (1 <<< (l4_1 &&& 31)).toInt ≤ 32 := kd_shl32 (oz489 p1_0) (oz1193 c4 kn5)
          have s14 : (l4_1 + 1).toInt = l4_1.toInt + (1 : Int32).toInt := kd_add (oz491 p1_0 kn1) (oz1190 c4 kn5 kn1)
          refine ft_go mi_k74 8 5 [(4, .int (l4_1 + 1)), (3, .int (l3_1 ||| (1 <<< (l4_1 &&& 31)))), (0, .ref 49), (1, .ref 1), (2, .ref 108)] [] ig7 ag7 qg7 rg7 (by rfl) ?_
          exact ih1 _ _ _ _ _ _ hGg7 (oz492 p1_0 s14 kn1) (kj_meas (oz530 s14 kn1) (oz1191 c4 kn5) hm1)
  exact lp1 _ _ _ _ _ _ _ (kG_self _ hG.I hG.R) (oz494 kn1) (Nat.lt_succ_self _)
def w74_49_1_110 : kW := ([645, 3200, 3206, 3207, 3208, 3209, 3214, 3215, 3216, 3586, 3781, 6405], [13, 51, 52, 53, 54, 55, 57, 58, 62, 63, 65, 66, 67, 68, 69, 70, 71, 72, 73, 75, 76, 77, 103], [], [1])
def w74_49_1_110_L5 : kW := ([645, 3200, 3206, 3207, 3208, 3209, 3214, 3215, 3216, 3586, 3781, 6405], [13, 51, 52, 53, 54, 55, 57, 58, 62, 63, 65, 66, 67, 68, 69, 70, 71, 72, 73, 75, 76, 77, 103], [], [1])
set_option maxRecDepth 100000 in
theorem kc74_49_1_110 {i : Nat → Int32} {a : Nat → List Int32} {q : Nat → List Int64} {r : Nat → Nat} (hI : kI i a q) (hr : kr r)  : km 11 74 [.ref 49, .ref 1, .ref 110] (ks i a q r) (kVI w74_49_1_110 i a q r (fun v i1 a1 q1 r1 => True)) := by
  have hG := kG_self w74_49_1_110 hI hr
  refine km_ofI (q := (mi_h74, mi_c74)) rfl (by decide) (Nat.le_of_ble_eq_true rfl) ?_
  intro P hP
  refine ft_go mi_k74 4 5 [(4, .int 1), (3, .int 0), (0, .ref 49), (1, .ref 1), (2, .ref 110)] [] i a q r (by rfl) ?_
  have lp1 : ∀ (nz : Nat) (i1 : Nat → Int32) (a1 : Nat → List Int32) (q1 : Nat → List Int64) (r1 : Nat → Nat) (l4_1 : Int32) (l3_1 : Int32), kG w74_49_1_110_L5 i a q r i1 a1 q1 r1 → (1 : Int) ≤ l4_1.toInt → ((6 - l4_1.toInt)).toNat < nz → ko 11 (mi_h74, mi_c74) P (5, [(4, .int l4_1), (3, .int l3_1), (0, .ref 49), (1, .ref 1), (2, .ref 110)], [], (0, 0), ks i1 a1 q1 r1) := by
    intro nz
    induction nz with
    | zero =>
      intro _ _ _ _ _ _ _ _ hm
      exact absurd hm (Nat.not_lt_zero _)
    | succ nz ih1 =>
      intro i1 a1 q1 r1 l4_1 l3_1 hL1 p1_0 hm1
      refine ft_go mi_k74 2 8 [(4, .int l4_1), (3, .int l3_1), (0, .ref 49), (1, .ref 1), (2, .ref 110)] [.int 5, .int l4_1] i1 a1 q1 r1 (by rfl) ?_
      refine ft_if mi_k74 (decide (5 < l4_1)) 55 11 [(4, .int l4_1), (3, .int l3_1), (0, .ref 49), (1, .ref 1), (2, .ref 110)] [] (by rfl) (fun c => ?_) (fun c => ?_)
      ·
        have c2 : (5 : Int32).toInt < l4_1.toInt := kd_lt c; clear c
        have hG3 := kG_call hG hL1 (by decide +kernel)
        refine ft_go mi_k74 1 56 [(4, .int l4_1), (3, .int l3_1), (0, .ref 49), (1, .ref 1), (2, .ref 110)] [.int l3_1] i1 a1 q1 r1 (by rfl) ?_
        exact ft_ret mi_k74 (by rfl) (hP l3_1 _ _ _ _ hG3 trivial)
      ·
        have c4 : l4_1.toInt ≤ (5 : Int32).toInt := kd_ltF c; clear c
        refine ft_go mi_k74 3 16 [(4, .int l4_1), (3, .int l3_1), (0, .ref 49), (1, .ref 1), (2, .ref 110)] [.ref 1, .ref 50] i1 a1 q1 r1 (by rfl) ?_
        refine ko_callN mi_k74.1 (pc := 16) (ls := [(4, .int l4_1), (3, .int l3_1), (0, .ref 49), (1, .ref 1), (2, .ref 110)]) (st := [.ref 1, .ref 50]) (h := ks i1 a1 q1 r1) (i := (.invokevirtual 56, 3, 34, 0, 9, 0, 212)) (mi_k74.2 _ _ (by rfl)) (ft_invS mi_pq34 (by rfl)) (cy := mi_c34) mi_pq34 rfl (kc34_50_1 hL1.I hL1.R ) (by decide) ?_
        intro ig5 ag5 qg5 rg5 kg5 hg5
        have hGg5 := kG_call hL1 kg5 (by decide +kernel)
        have hJ6 := kG_i hGg5 3206 rfl (v := l4_1) (kd_bd _)
        refine ft_go mi_k74 5 29 [(4, .int l4_1), (3, .int l3_1), (0, .ref 49), (1, .ref 1), (2, .ref 110)] [.ref 49] (ku ig5 3206 l4_1) ag5 qg5 rg5 (by rfl) ?_
        refine ko_callN mi_k74.1 (pc := 29) (ls := [(4, .int l4_1), (3, .int l3_1), (0, .ref 49), (1, .ref 1), (2, .ref 110)]) (st := [.ref 49]) (h := ks (ku ig5 3206 l4_1) ag5 qg5 rg5) (i := (.invokevirtual 60, 3, 60, 0, 9, 0, 219)) (mi_k74.2 _ _ (by rfl)) (ft_invS mi_pq60 (by rfl)) (cy := mi_c60) mi_pq60 rfl (kc60_49 hJ6.I hJ6.R ) (by decide) ?_
        intro ig7 ag7 qg7 rg7 kg7 hg7
        have hGg7 := kG_call hJ6 kg7 (by decide +kernel)
        refine ft_go mi_k74 2 34 [(4, .int l4_1), (3, .int l3_1), (0, .ref 49), (1, .ref 1), (2, .ref 110)] [.ref 110, .ref 49] ig7 ag7 qg7 rg7 (by rfl) ?_
        refine ko_callPI mi_k74.1 (pc := 34) (ls := [(4, .int l4_1), (3, .int l3_1), (0, .ref 49), (1, .ref 1), (2, .ref 110)]) (st := [.ref 110, .ref 49]) (h := ks ig7 ag7 qg7 rg7) (i := (.invokevirtual 126, 3, 73, 0, 9, 0, 265)) (mi_k74.2 _ _ (by rfl)) (ft_invS mi_pq73 (by rfl)) (cy := mi_c73) mi_pq73 rfl (kc73_49_110 hGg7.I hGg7.R ) (by decide) ?_
        intro vg8 hg8
        refine ft_go mi_k74 1 39 [(4, .int l4_1), (3, .int l3_1), (0, .ref 49), (1, .ref 1), (2, .ref 110)] [.int (-2), .int vg8] ig7 ag7 qg7 rg7 (by rfl) ?_
        refine ft_if mi_k74 (vg8 != (-2)) 49 42 [(4, .int l4_1), (3, .int l3_1), (0, .ref 49), (1, .ref 1), (2, .ref 110)] [] (by rfl) (fun c => ?_) (fun c => ?_)
        ·
          have c9 : vg8.toInt ≠ ((-2) : Int32).toInt := kd_ne c; clear c
          have s10 : (l4_1 + 1).toInt = l4_1.toInt + (1 : Int32).toInt := kd_add (oz491 p1_0 kn1) (oz1190 c4 kn5 kn1)
          refine ft_go mi_k74 2 5 [(4, .int (l4_1 + 1)), (3, .int l3_1), (0, .ref 49), (1, .ref 1), (2, .ref 110)] [] ig7 ag7 qg7 rg7 (by rfl) ?_
          exact ih1 _ _ _ _ _ _ hGg7 (oz492 p1_0 s10 kn1) (kj_meas (oz530 s10 kn1) (oz1191 c4 kn5) hm1)
        ·
          have c11 : vg8.toInt = ((-2) : Int32).toInt := kd_neF c; clear c
          have s12 : ((1 : Int) ≤ (1 <<< (l4_1 &&& 31)).toInt) ∧ ((1 <<< (l4_1 &&& 31)).toInt ≤ 256) := kd_shl1 (oz489 p1_0) (oz1192 c4 kn5)
          have s13 : (1 <<< (l4_1 &&& 31)).toInt ≤ 32 := kd_shl32 (oz489 p1_0) (oz1193 c4 kn5)
          have s14 : (l4_1 + 1).toInt = l4_1.toInt + (1 : Int32).toInt := kd_add (oz491 p1_0 kn1) (oz1190 c4 kn5 kn1)
          refine ft_go mi_k74 8 5 [(4, .int (l4_1 + 1)), (3, .int (l3_1 ||| (1 <<< (l4_1 &&& 31)))), (0, .ref 49), (1, .ref 1), (2, .ref 110)] [] ig7 ag7 qg7 rg7 (by rfl) ?_
          exact ih1 _ _ _ _ _ _ hGg7 (oz492 p1_0 s14 kn1) (kj_meas (oz530 s14 kn1) (oz1191 c4 kn5) hm1)
  exact lp1 _ _ _ _ _ _ _ (kG_self _ hG.I hG.R) (oz494 kn1) (Nat.lt_succ_self _)
def w74_49_1_112 : kW := ([645, 3200, 3206, 3207, 3208, 3209, 3214, 3215, 3216, 3586, 3781, 6405], [13, 51, 52, 53, 54, 55, 57, 58, 62, 63, 65, 66, 67, 68, 69, 70, 71, 72, 73, 75, 76, 77, 103], [], [1])
def w74_49_1_112_L5 : kW := ([645, 3200, 3206, 3207, 3208, 3209, 3214, 3215, 3216, 3586, 3781, 6405], [13, 51, 52, 53, 54, 55, 57, 58, 62, 63, 65, 66, 67, 68, 69, 70, 71, 72, 73, 75, 76, 77, 103], [], [1])
set_option maxRecDepth 100000 in
theorem kc74_49_1_112 {i : Nat → Int32} {a : Nat → List Int32} {q : Nat → List Int64} {r : Nat → Nat} (hI : kI i a q) (hr : kr r)  : km 11 74 [.ref 49, .ref 1, .ref 112] (ks i a q r) (kVI w74_49_1_112 i a q r (fun v i1 a1 q1 r1 => True)) := by
  have hG := kG_self w74_49_1_112 hI hr
  refine km_ofI (q := (mi_h74, mi_c74)) rfl (by decide) (Nat.le_of_ble_eq_true rfl) ?_
  intro P hP
  refine ft_go mi_k74 4 5 [(4, .int 1), (3, .int 0), (0, .ref 49), (1, .ref 1), (2, .ref 112)] [] i a q r (by rfl) ?_
  have lp1 : ∀ (nz : Nat) (i1 : Nat → Int32) (a1 : Nat → List Int32) (q1 : Nat → List Int64) (r1 : Nat → Nat) (l4_1 : Int32) (l3_1 : Int32), kG w74_49_1_112_L5 i a q r i1 a1 q1 r1 → (1 : Int) ≤ l4_1.toInt → ((6 - l4_1.toInt)).toNat < nz → ko 11 (mi_h74, mi_c74) P (5, [(4, .int l4_1), (3, .int l3_1), (0, .ref 49), (1, .ref 1), (2, .ref 112)], [], (0, 0), ks i1 a1 q1 r1) := by
    intro nz
    induction nz with
    | zero =>
      intro _ _ _ _ _ _ _ _ hm
      exact absurd hm (Nat.not_lt_zero _)
    | succ nz ih1 =>
      intro i1 a1 q1 r1 l4_1 l3_1 hL1 p1_0 hm1
      refine ft_go mi_k74 2 8 [(4, .int l4_1), (3, .int l3_1), (0, .ref 49), (1, .ref 1), (2, .ref 112)] [.int 5, .int l4_1] i1 a1 q1 r1 (by rfl) ?_
      refine ft_if mi_k74 (decide (5 < l4_1)) 55 11 [(4, .int l4_1), (3, .int l3_1), (0, .ref 49), (1, .ref 1), (2, .ref 112)] [] (by rfl) (fun c => ?_) (fun c => ?_)
      ·
        have c2 : (5 : Int32).toInt < l4_1.toInt := kd_lt c; clear c
        have hG3 := kG_call hG hL1 (by decide +kernel)
        refine ft_go mi_k74 1 56 [(4, .int l4_1), (3, .int l3_1), (0, .ref 49), (1, .ref 1), (2, .ref 112)] [.int l3_1] i1 a1 q1 r1 (by rfl) ?_
        exact ft_ret mi_k74 (by rfl) (hP l3_1 _ _ _ _ hG3 trivial)
      ·
        have c4 : l4_1.toInt ≤ (5 : Int32).toInt := kd_ltF c; clear c
        refine ft_go mi_k74 3 16 [(4, .int l4_1), (3, .int l3_1), (0, .ref 49), (1, .ref 1), (2, .ref 112)] [.ref 1, .ref 50] i1 a1 q1 r1 (by rfl) ?_
        refine ko_callN mi_k74.1 (pc := 16) (ls := [(4, .int l4_1), (3, .int l3_1), (0, .ref 49), (1, .ref 1), (2, .ref 112)]) (st := [.ref 1, .ref 50]) (h := ks i1 a1 q1 r1) (i := (.invokevirtual 56, 3, 34, 0, 9, 0, 212)) (mi_k74.2 _ _ (by rfl)) (ft_invS mi_pq34 (by rfl)) (cy := mi_c34) mi_pq34 rfl (kc34_50_1 hL1.I hL1.R ) (by decide) ?_
        intro ig5 ag5 qg5 rg5 kg5 hg5
        have hGg5 := kG_call hL1 kg5 (by decide +kernel)
        have hJ6 := kG_i hGg5 3206 rfl (v := l4_1) (kd_bd _)
        refine ft_go mi_k74 5 29 [(4, .int l4_1), (3, .int l3_1), (0, .ref 49), (1, .ref 1), (2, .ref 112)] [.ref 49] (ku ig5 3206 l4_1) ag5 qg5 rg5 (by rfl) ?_
        refine ko_callN mi_k74.1 (pc := 29) (ls := [(4, .int l4_1), (3, .int l3_1), (0, .ref 49), (1, .ref 1), (2, .ref 112)]) (st := [.ref 49]) (h := ks (ku ig5 3206 l4_1) ag5 qg5 rg5) (i := (.invokevirtual 60, 3, 60, 0, 9, 0, 219)) (mi_k74.2 _ _ (by rfl)) (ft_invS mi_pq60 (by rfl)) (cy := mi_c60) mi_pq60 rfl (kc60_49 hJ6.I hJ6.R ) (by decide) ?_
        intro ig7 ag7 qg7 rg7 kg7 hg7
        have hGg7 := kG_call hJ6 kg7 (by decide +kernel)
        refine ft_go mi_k74 2 34 [(4, .int l4_1), (3, .int l3_1), (0, .ref 49), (1, .ref 1), (2, .ref 112)] [.ref 112, .ref 49] ig7 ag7 qg7 rg7 (by rfl) ?_
        refine ko_callPI mi_k74.1 (pc := 34) (ls := [(4, .int l4_1), (3, .int l3_1), (0, .ref 49), (1, .ref 1), (2, .ref 112)]) (st := [.ref 112, .ref 49]) (h := ks ig7 ag7 qg7 rg7) (i := (.invokevirtual 126, 3, 73, 0, 9, 0, 265)) (mi_k74.2 _ _ (by rfl)) (ft_invS mi_pq73 (by rfl)) (cy := mi_c73) mi_pq73 rfl (kc73_49_112 hGg7.I hGg7.R ) (by decide) ?_
        intro vg8 hg8
        refine ft_go mi_k74 1 39 [(4, .int l4_1), (3, .int l3_1), (0, .ref 49), (1, .ref 1), (2, .ref 112)] [.int (-2), .int vg8] ig7 ag7 qg7 rg7 (by rfl) ?_
        refine ft_if mi_k74 (vg8 != (-2)) 49 42 [(4, .int l4_1), (3, .int l3_1), (0, .ref 49), (1, .ref 1), (2, .ref 112)] [] (by rfl) (fun c => ?_) (fun c => ?_)
        ·
          have c9 : vg8.toInt ≠ ((-2) : Int32).toInt := kd_ne c; clear c
          have s10 : (l4_1 + 1).toInt = l4_1.toInt + (1 : Int32).toInt := kd_add (oz491 p1_0 kn1) (oz1190 c4 kn5 kn1)
          refine ft_go mi_k74 2 5 [(4, .int (l4_1 + 1)), (3, .int l3_1), (0, .ref 49), (1, .ref 1), (2, .ref 112)] [] ig7 ag7 qg7 rg7 (by rfl) ?_
          exact ih1 _ _ _ _ _ _ hGg7 (oz492 p1_0 s10 kn1) (kj_meas (oz530 s10 kn1) (oz1191 c4 kn5) hm1)
        ·
          have c11 : vg8.toInt = ((-2) : Int32).toInt := kd_neF c; clear c
          have s12 : ((1 : Int) ≤ (1 <<< (l4_1 &&& 31)).toInt) ∧ ((1 <<< (l4_1 &&& 31)).toInt ≤ 256) := kd_shl1 (oz489 p1_0) (oz1192 c4 kn5)
          have s13 : (1 <<< (l4_1 &&& 31)).toInt ≤ 32 := kd_shl32 (oz489 p1_0) (oz1193 c4 kn5)
          have s14 : (l4_1 + 1).toInt = l4_1.toInt + (1 : Int32).toInt := kd_add (oz491 p1_0 kn1) (oz1190 c4 kn5 kn1)
          refine ft_go mi_k74 8 5 [(4, .int (l4_1 + 1)), (3, .int (l3_1 ||| (1 <<< (l4_1 &&& 31)))), (0, .ref 49), (1, .ref 1), (2, .ref 112)] [] ig7 ag7 qg7 rg7 (by rfl) ?_
          exact ih1 _ _ _ _ _ _ hGg7 (oz492 p1_0 s14 kn1) (kj_meas (oz530 s14 kn1) (oz1191 c4 kn5) hm1)
  exact lp1 _ _ _ _ _ _ _ (kG_self _ hG.I hG.R) (oz494 kn1) (Nat.lt_succ_self _)
def w74_49_1_114 : kW := ([645, 3200, 3206, 3207, 3208, 3209, 3214, 3215, 3216, 3586, 3781, 6405], [13, 51, 52, 53, 54, 55, 57, 58, 62, 63, 65, 66, 67, 68, 69, 70, 71, 72, 73, 75, 76, 77, 103], [], [1])
def w74_49_1_114_L5 : kW := ([645, 3200, 3206, 3207, 3208, 3209, 3214, 3215, 3216, 3586, 3781, 6405], [13, 51, 52, 53, 54, 55, 57, 58, 62, 63, 65, 66, 67, 68, 69, 70, 71, 72, 73, 75, 76, 77, 103], [], [1])
set_option maxRecDepth 100000 in
theorem kc74_49_1_114 {i : Nat → Int32} {a : Nat → List Int32} {q : Nat → List Int64} {r : Nat → Nat} (hI : kI i a q) (hr : kr r)  : km 11 74 [.ref 49, .ref 1, .ref 114] (ks i a q r) (kVI w74_49_1_114 i a q r (fun v i1 a1 q1 r1 => True)) := by
  have hG := kG_self w74_49_1_114 hI hr
  refine km_ofI (q := (mi_h74, mi_c74)) rfl (by decide) (Nat.le_of_ble_eq_true rfl) ?_
  intro P hP
  refine ft_go mi_k74 4 5 [(4, .int 1), (3, .int 0), (0, .ref 49), (1, .ref 1), (2, .ref 114)] [] i a q r (by rfl) ?_
  have lp1 : ∀ (nz : Nat) (i1 : Nat → Int32) (a1 : Nat → List Int32) (q1 : Nat → List Int64) (r1 : Nat → Nat) (l4_1 : Int32) (l3_1 : Int32), kG w74_49_1_114_L5 i a q r i1 a1 q1 r1 → (1 : Int) ≤ l4_1.toInt → ((6 - l4_1.toInt)).toNat < nz → ko 11 (mi_h74, mi_c74) P (5, [(4, .int l4_1), (3, .int l3_1), (0, .ref 49), (1, .ref 1), (2, .ref 114)], [], (0, 0), ks i1 a1 q1 r1) := by
    intro nz
    induction nz with
    | zero =>
      intro _ _ _ _ _ _ _ _ hm
      exact absurd hm (Nat.not_lt_zero _)
    | succ nz ih1 =>
      intro i1 a1 q1 r1 l4_1 l3_1 hL1 p1_0 hm1
      refine ft_go mi_k74 2 8 [(4, .int l4_1), (3, .int l3_1), (0, .ref 49), (1, .ref 1), (2, .ref 114)] [.int 5, .int l4_1] i1 a1 q1 r1 (by rfl) ?_
      refine ft_if mi_k74 (decide (5 < l4_1)) 55 11 [(4, .int l4_1), (3, .int l3_1), (0, .ref 49), (1, .ref 1), (2, .ref 114)] [] (by rfl) (fun c => ?_) (fun c => ?_)
      ·
        have c2 : (5 : Int32).toInt < l4_1.toInt := kd_lt c; clear c
        have hG3 := kG_call hG hL1 (by decide +kernel)
        refine ft_go mi_k74 1 56 [(4, .int l4_1), (3, .int l3_1), (0, .ref 49), (1, .ref 1), (2, .ref 114)] [.int l3_1] i1 a1 q1 r1 (by rfl) ?_
        exact ft_ret mi_k74 (by rfl) (hP l3_1 _ _ _ _ hG3 trivial)
      ·
        have c4 : l4_1.toInt ≤ (5 : Int32).toInt := kd_ltF c; clear c
        refine ft_go mi_k74 3 16 [(4, .int l4_1), (3, .int l3_1), (0, .ref 49), (1, .ref 1), (2, .ref 114)] [.ref 1, .ref 50] i1 a1 q1 r1 (by rfl) ?_
        refine ko_callN mi_k74.1 (pc := 16) (ls := [(4, .int l4_1), (3, .int l3_1), (0, .ref 49), (1, .ref 1), (2, .ref 114)]) (st := [.ref 1, .ref 50]) (h := ks i1 a1 q1 r1) (i := (.invokevirtual 56, 3, 34, 0, 9, 0, 212)) (mi_k74.2 _ _ (by rfl)) (ft_invS mi_pq34 (by rfl)) (cy := mi_c34) mi_pq34 rfl (kc34_50_1 hL1.I hL1.R ) (by decide) ?_
        intro ig5 ag5 qg5 rg5 kg5 hg5
        have hGg5 := kG_call hL1 kg5 (by decide +kernel)
        have hJ6 := kG_i hGg5 3206 rfl (v := l4_1) (kd_bd _)
        refine ft_go mi_k74 5 29 [(4, .int l4_1), (3, .int l3_1), (0, .ref 49), (1, .ref 1), (2, .ref 114)] [.ref 49] (ku ig5 3206 l4_1) ag5 qg5 rg5 (by rfl) ?_
        refine ko_callN mi_k74.1 (pc := 29) (ls := [(4, .int l4_1), (3, .int l3_1), (0, .ref 49), (1, .ref 1), (2, .ref 114)]) (st := [.ref 49]) (h := ks (ku ig5 3206 l4_1) ag5 qg5 rg5) (i := (.invokevirtual 60, 3, 60, 0, 9, 0, 219)) (mi_k74.2 _ _ (by rfl)) (ft_invS mi_pq60 (by rfl)) (cy := mi_c60) mi_pq60 rfl (kc60_49 hJ6.I hJ6.R ) (by decide) ?_
        intro ig7 ag7 qg7 rg7 kg7 hg7
        have hGg7 := kG_call hJ6 kg7 (by decide +kernel)
        refine ft_go mi_k74 2 34 [(4, .int l4_1), (3, .int l3_1), (0, .ref 49), (1, .ref 1), (2, .ref 114)] [.ref 114, .ref 49] ig7 ag7 qg7 rg7 (by rfl) ?_
        refine ko_callPI mi_k74.1 (pc := 34) (ls := [(4, .int l4_1), (3, .int l3_1), (0, .ref 49), (1, .ref 1), (2, .ref 114)]) (st := [.ref 114, .ref 49]) (h := ks ig7 ag7 qg7 rg7) (i := (.invokevirtual 126, 3, 73, 0, 9, 0, 265)) (mi_k74.2 _ _ (by rfl)) (ft_invS mi_pq73 (by rfl)) (cy := mi_c73) mi_pq73 rfl (kc73_49_114 hGg7.I hGg7.R ) (by decide) ?_
        intro vg8 hg8
        refine ft_go mi_k74 1 39 [(4, .int l4_1), (3, .int l3_1), (0, .ref 49), (1, .ref 1), (2, .ref 114)] [.int (-2), .int vg8] ig7 ag7 qg7 rg7 (by rfl) ?_
        refine ft_if mi_k74 (vg8 != (-2)) 49 42 [(4, .int l4_1), (3, .int l3_1), (0, .ref 49), (1, .ref 1), (2, .ref 114)] [] (by rfl) (fun c => ?_) (fun c => ?_)
        ·
          have c9 : vg8.toInt ≠ ((-2) : Int32).toInt := kd_ne c; clear c
          have s10 : (l4_1 + 1).toInt = l4_1.toInt + (1 : Int32).toInt := kd_add (oz491 p1_0 kn1) (oz1190 c4 kn5 kn1)
          refine ft_go mi_k74 2 5 [(4, .int (l4_1 + 1)), (3, .int l3_1), (0, .ref 49), (1, .ref 1), (2, .ref 114)] [] ig7 ag7 qg7 rg7 (by rfl) ?_
          exact ih1 _ _ _ _ _ _ hGg7 (oz492 p1_0 s10 kn1) (kj_meas (oz530 s10 kn1) (oz1191 c4 kn5) hm1)
        ·
          have c11 : vg8.toInt = ((-2) : Int32).toInt := kd_neF c; clear c
          have s12 : ((1 : Int) ≤ (1 <<< (l4_1 &&& 31)).toInt) ∧ ((1 <<< (l4_1 &&& 31)).toInt ≤ 256) := kd_shl1 (oz489 p1_0) (oz1192 c4 kn5)
          have s13 : (1 <<< (l4_1 &&& 31)).toInt ≤ 32 := kd_shl32 (oz489 p1_0) (oz1193 c4 kn5)
          have s14 : (l4_1 + 1).toInt = l4_1.toInt + (1 : Int32).toInt := kd_add (oz491 p1_0 kn1) (oz1190 c4 kn5 kn1)
          refine ft_go mi_k74 8 5 [(4, .int (l4_1 + 1)), (3, .int (l3_1 ||| (1 <<< (l4_1 &&& 31)))), (0, .ref 49), (1, .ref 1), (2, .ref 114)] [] ig7 ag7 qg7 rg7 (by rfl) ?_
          exact ih1 _ _ _ _ _ _ hGg7 (oz492 p1_0 s14 kn1) (kj_meas (oz530 s14 kn1) (oz1191 c4 kn5) hm1)
  exact lp1 _ _ _ _ _ _ _ (kG_self _ hG.I hG.R) (oz494 kn1) (Nat.lt_succ_self _)
def w98_0 : kW := ([645, 3138, 3200, 3206, 3207, 3208, 3209, 3214, 3215, 3216, 3586, 3781, 6405], [13, 51, 52, 53, 54, 55, 57, 58, 62, 63, 65, 66, 67, 68, 69, 70, 71, 72, 73, 74, 75, 76, 77, 103], [], [1])
set_option maxRecDepth 100000 in
theorem kc98_0 {i : Nat → Int32} {a : Nat → List Int32} {q : Nat → List Int64} {r : Nat → Nat} (hI : kI i a q) (hr : kr r) (x1 : Int32) (x2 : Int32) (x3 : Int32) : km 13 98 [.ref 0, .int x1, .int x2, .int x3] (ks i a q r) (kVI w98_0 i a q r (fun v i1 a1 q1 r1 => True)) := by
  have hG := kG_self w98_0 hI hr
  refine km_ofI (q := (mi_h98, mi_c98)) rfl (by decide) (Nat.le_of_ble_eq_true rfl) ?_
  intro P hP
  first | refine ft_go mi_k98 1 1 [(0, .ref 0), (1, .int x1), (2, .int x2), (3, .int x3)] [.int x1] i a q r (by rfl) ?_ | refine ko_steps mi_in98 1 _ (1, [(0, .ref 0), (1, .int x1), (2, .int x2), (3, .int x3)], [.int x1], (0, 0), ks i a q r) (by rfl) ?_
  refine ko_callPI mi_k98.1 (pc := 1) (ls := [(0, .ref 0), (1, .int x1), (2, .int x2), (3, .int x3)]) (st := [.int x1]) (h := ks i a q r) (i := (.invokestatic 214, 3, 122, 0, 9, 0, 260)) (mi_k98.2 _ _ (by rfl)) (ft_invS mi_pq122 (by rfl)) (cy := mi_c122) mi_pq122 rfl (kc122 hG.I hG.R x1) (by decide) ?_
  intro vg1 hg1
  rcases hg1 with ⟨eg1, hg1⟩ | ⟨eg1, hg1⟩
  ·
    subst eg1
    have z2 : ((0 : Int) ≤ x1.toInt) ∧ (((0 : Int) ≤ (x1.toInt / 10)) ∧ ((x1.toInt / 10) ≤ 5)) ∧ ((x1.toInt % 10) ≤ 5) := hg1
    first | refine ft_go mi_k98 4 10 [(0, .ref 0), (1, .int x1), (2, .int x2), (3, .int x3)] [.int 3, .int 0, .int x3] i a q r (by rfl) ?_ | refine ko_steps mi_in98 4 _ (10, [(0, .ref 0), (1, .int x1), (2, .int x2), (3, .int x3)], [.int 3, .int 0, .int x3], (0, 0), ks i a q r) (by rfl) ?_
    refine ko_callPI mi_k98.1 (pc := 10) (ls := [(0, .ref 0), (1, .int x1), (2, .int x2), (3, .int x3)]) (st := [.int 3, .int 0, .int x3]) (h := ks i a q r) (i := (.invokestatic 74, 3, 120, 0, 9, 0, 152)) (mi_k98.2 _ _ (by rfl)) (ft_invS mi_pq120 (by rfl)) (cy := mi_c120) mi_pq120 rfl (kc120 hG.I hG.R x3 0 3) (by decide) ?_
    intro vg3 hg3
    rcases hg3 with ⟨eg3, hg3⟩ | ⟨eg3, hg3⟩
    ·
      subst eg3
      have z4 : ((0 : Int32).toInt ≤ x3.toInt) ∧ (x3.toInt ≤ (3 : Int32).toInt) := hg3
      first | refine ft_go mi_k98 2 17 [(0, .ref 0), (1, .int x1), (2, .int x2), (3, .int x3)] [.int x2] i a q r (by rfl) ?_ | refine ko_steps mi_in98 2 _ (17, [(0, .ref 0), (1, .int x1), (2, .int x2), (3, .int x3)], [.int x2], (0, 0), ks i a q r) (by rfl) ?_
      refine ft_if mi_k98 (decide (0 ≤ x2)) 22 20 [(0, .ref 0), (1, .int x1), (2, .int x2), (3, .int x3)] [] (by rfl) (fun c => ?_) (fun c => ?_)
      ·
        have c5 : (0 : Int32).toInt ≤ x2.toInt := kd_le c; clear c
        first | refine ft_go mi_k98 1 23 [(0, .ref 0), (1, .int x1), (2, .int x2), (3, .int x3)] [.int x3] i a q r (by rfl) ?_ | refine ko_steps mi_in98 1 _ (23, [(0, .ref 0), (1, .int x1), (2, .int x2), (3, .int x3)], [.int x3], (0, 0), ks i a q r) (by rfl) ?_
        refine ft_if mi_k98 (x3 != 0) 30 26 [(0, .ref 0), (1, .int x1), (2, .int x2), (3, .int x3)] [] (by rfl) (fun c => ?_) (fun c => ?_)
        ·
          have c6 : x3.toInt ≠ (0 : Int32).toInt := kd_ne c; clear c
          first | refine ft_go mi_k98 2 32 [(0, .ref 0), (1, .int x1), (2, .int x2), (3, .int x3)] [.int 2, .int x3] i a q r (by rfl) ?_ | refine ko_steps mi_in98 2 _ (32, [(0, .ref 0), (1, .int x1), (2, .int x2), (3, .int x3)], [.int 2, .int x3], (0, 0), ks i a q r) (by rfl) ?_
          refine ft_if mi_k98 (decide (x3 < 2)) 45 35 [(0, .ref 0), (1, .int x1), (2, .int x2), (3, .int x3)] [] (by rfl) (fun c => ?_) (fun c => ?_)
          ·
            have c7 : x3.toInt < (2 : Int32).toInt := kd_lt c; clear c
            have s8 : (x1 / 10).toInt = (x1.toInt / 10) := kd_div 10 kn10 (by decide) (oz3 z2.1)
            first | refine ft_go mi_k98 4 50 [(0, .ref 0), (1, .int x1), (2, .int x2), (3, .int x3)] [.int (x1 / 10), .ref 0] i a q r (by rfl) ?_ | refine ko_steps mi_in98 4 _ (50, [(0, .ref 0), (1, .int x1), (2, .int x2), (3, .int x3)], [.int (x1 / 10), .ref 0], (0, 0), ks i a q r) (by rfl) ?_
            refine ko_callI mi_k98.1 (pc := 50) (ls := [(0, .ref 0), (1, .int x1), (2, .int x2), (3, .int x3)]) (st := [.int (x1 / 10), .ref 0]) (h := ks i a q r) (i := (.invokevirtual 144, 3, 129, 0, 9, 0, 208)) (mi_k98.2 _ _ (by rfl)) (ft_invS mi_pq129 (by rfl)) (cy := mi_c129) mi_pq129 rfl (kc129_0 hG.I hG.R (x1 / 10)) (by decide) ?_
            intro vg9 ig9 ag9 qg9 rg9 kg9 hg9
            have hGg9 := kG_call hG kg9 (by decide +kernel)
            first | refine ft_go mi_k98 2 57 [(4, .int vg9), (0, .ref 0), (1, .int x1), (2, .int x2), (3, .int x3)] [.int vg9] ig9 ag9 qg9 rg9 (by rfl) ?_ | refine ko_steps mi_in98 2 _ (57, [(4, .int vg9), (0, .ref 0), (1, .int x1), (2, .int x2), (3, .int x3)], [.int vg9], (0, 0), ks ig9 ag9 qg9 rg9) (by rfl) ?_
            refine ft_if mi_k98 (decide (0 ≤ vg9)) 63 60 [(4, .int vg9), (0, .ref 0), (1, .int x1), (2, .int x2), (3, .int x3)] [] (by rfl) (fun c => ?_) (fun c => ?_)
            ·
              have c11 : (0 : Int32).toInt ≤ vg9.toInt := kd_le c; clear c
              first | refine ft_go mi_k98 2 65 [(4, .int vg9), (0, .ref 0), (1, .int x1), (2, .int x2), (3, .int x3)] [.int 1, .int x3] ig9 ag9 qg9 rg9 (by rfl) ?_ | refine ko_steps mi_in98 2 _ (65, [(4, .int vg9), (0, .ref 0), (1, .int x1), (2, .int x2), (3, .int x3)], [.int 1, .int x3], (0, 0), ks ig9 ag9 qg9 rg9) (by rfl) ?_
              refine ft_if mi_k98 (x3 != 1) 81 68 [(4, .int vg9), (0, .ref 0), (1, .int x1), (2, .int x2), (3, .int x3)] [] (by rfl) (fun c => ?_) (fun c => ?_)
              ·
                have c12 : x3.toInt ≠ (1 : Int32).toInt := kd_ne c; clear c
                exact (oz1173 c12 c6 c7 z4.1 kn1 kn0 kn2).elim
              ·
                have c13 : x3.toInt = (1 : Int32).toInt := kd_neF c; clear c
                have fig9_3138 : ((0 : Int) ≤ (ig9 3138).toInt) ∧ ((ig9 3138).toInt ≤ 20) := hGg9.I.1 3138
                first | refine ft_go mi_k98 4 76 [(4, .int vg9), (0, .ref 0), (1, .int x1), (2, .int x2), (3, .int x3)] [.int (ig9 3138), .int x2] ig9 ag9 qg9 rg9 (by rfl) ?_ | refine ko_steps mi_in98 4 _ (76, [(4, .int vg9), (0, .ref 0), (1, .int x1), (2, .int x2), (3, .int x3)], [.int (ig9 3138), .int x2], (0, 0), ks ig9 ag9 qg9 rg9) (by rfl) ?_
                refine ft_if mi_k98 (decide (x2 < (ig9 3138))) 81 79 [(4, .int vg9), (0, .ref 0), (1, .int x1), (2, .int x2), (3, .int x3)] [] (by rfl) (fun c => ?_) (fun c => ?_)
                ·
                  have c14 : x2.toInt < (ig9 3138).toInt := kd_lt c; clear c
                  have s15 : (x1 - x1 / 10 * 10).toInt = (x1.toInt % 10) := kd_rem 10 kn10 (by decide) (oz3 z2.1)
                  first | refine ft_go mi_k98 4 86 [(4, .int vg9), (0, .ref 0), (1, .int x1), (2, .int x2), (3, .int x3)] [.int (x1 - x1 / 10 * 10), .ref 0] ig9 ag9 qg9 rg9 (by rfl) ?_ | refine ko_steps mi_in98 4 _ (86, [(4, .int vg9), (0, .ref 0), (1, .int x1), (2, .int x2), (3, .int x3)], [.int (x1 - x1 / 10 * 10), .ref 0], (0, 0), ks ig9 ag9 qg9 rg9) (by rfl) ?_
                  refine ko_callPI mi_k98.1 (pc := 86) (ls := [(4, .int vg9), (0, .ref 0), (1, .int x1), (2, .int x2), (3, .int x3)]) (st := [.int (x1 - x1 / 10 * 10), .ref 0]) (h := ks ig9 ag9 qg9 rg9) (i := (.invokevirtual 217, 3, 127, 0, 9, 0, 209)) (mi_k98.2 _ _ (by rfl)) (ft_invS mi_pq127 (by rfl)) (cy := mi_c127) mi_pq127 rfl (kc127_0 hGg9.I hGg9.R (x1 - x1 / 10 * 10)) (by decide) ?_
                  intro vg16 hg16
                  first | refine ft_go mi_k98 2 93 [(4, .int vg16), (0, .ref 0), (1, .int x1), (2, .int x2), (3, .int x3)] [.int vg16] ig9 ag9 qg9 rg9 (by rfl) ?_ | refine ko_steps mi_in98 2 _ (93, [(4, .int vg16), (0, .ref 0), (1, .int x1), (2, .int x2), (3, .int x3)], [.int vg16], (0, 0), ks ig9 ag9 qg9 rg9) (by rfl) ?_
                  refine ft_if mi_k98 (decide (0 ≤ vg16)) 99 96 [(4, .int vg16), (0, .ref 0), (1, .int x1), (2, .int x2), (3, .int x3)] [] (by rfl) (fun c => ?_) (fun c => ?_)
                  ·
                    have c18 : (0 : Int32).toInt ≤ vg16.toInt := kd_le c; clear c
                    first | refine ft_go mi_k98 5 107 [(4, .int vg16), (0, .ref 0), (1, .int x1), (2, .int x2), (3, .int x3)] [.int (x1 - x1 / 10 * 10), .ref 97] ig9 ag9 qg9 rg9 (by rfl) ?_ | refine ko_steps mi_in98 5 _ (107, [(4, .int vg16), (0, .ref 0), (1, .int x1), (2, .int x2), (3, .int x3)], [.int (x1 - x1 / 10 * 10), .ref 97], (0, 0), ks ig9 ag9 qg9 rg9) (by rfl) ?_
                    by_cases w19 : (x1 - x1 / 10 * 10).toInt = 0
                    ·
                      refine ft_alx mi_k98 (pc := 107) (v := 0) (p := 97) (z := 104) (kj_eq w19 (by decide) : (x1 - x1 / 10 * 10) = 0) (by decide +kernel) (by decide +kernel) ?_
                      first | refine ft_go mi_k98 2 111 [(5, .ref 104), (4, .int vg16), (0, .ref 0), (1, .int x1), (2, .int x2), (3, .int x3)] [.int x3] ig9 ag9 qg9 rg9 (by rfl) ?_ | refine ko_steps mi_in98 2 _ (111, [(5, .ref 104), (4, .int vg16), (0, .ref 0), (1, .int x1), (2, .int x2), (3, .int x3)], [.int x3], (0, 0), ks ig9 ag9 qg9 rg9) (by rfl) ?_
                      have w20 : ¬ (x3.toInt = 0) := (oz1174 c13 kn1)
                      by_cases w21 : x3.toInt = 1
                      ·
                        refine ft_swx mi_k98 (pc := 111) (v := 1) (t := 150) (kj_eq w21 (by decide) : x3 = 1) (by decide +kernel) ?_
                        first | refine ft_go mi_k98 6 161 [(5, .ref 104), (4, .int vg16), (0, .ref 0), (1, .int x1), (2, .int x2), (3, .int x3)] [.int x2, .ref 104, .ref 1, .ref 49] ig9 ag9 qg9 rg9 (by rfl) ?_ | refine ko_steps mi_in98 6 _ (161, [(5, .ref 104), (4, .int vg16), (0, .ref 0), (1, .int x1), (2, .int x2), (3, .int x3)], [.int x2, .ref 104, .ref 1, .ref 49], (0, 0), ks ig9 ag9 qg9 rg9) (by rfl) ?_
                        refine ko_callI mi_k98.1 (pc := 161) (ls := [(5, .ref 104), (4, .int vg16), (0, .ref 0), (1, .int x1), (2, .int x2), (3, .int x3)]) (st := [.int x2, .ref 104, .ref 1, .ref 49]) (h := ks ig9 ag9 qg9 rg9) (i := (.invokevirtual 228, 3, 75, 0, 9, 0, 266)) (mi_k98.2 _ _ (by rfl)) (ft_invS mi_pq75 (by rfl)) (cy := mi_c75) mi_pq75 rfl (kc75_49_1_104 hGg9.I hGg9.R x2 (oz1176 c14 c5 fig9_3138.2 kn0)) (by decide) ?_
                        intro vg22 ig22 ag22 qg22 rg22 kg22 hg22
                        have hGg22 := kG_call hGg9 kg22 (by decide +kernel)
                        exact ft_ret mi_k98 (by rfl) (hP vg22 _ _ _ _ hGg22 trivial)
                      have w23 : ¬ (x3.toInt = 2) := (oz1177 c13 c7 w21 kn1 kn2)
                      exact (oz1178 c13 c7 w21 kn1 kn2).elim
                    by_cases w24 : (x1 - x1 / 10 * 10).toInt = 1
                    ·
                      refine ft_alx mi_k98 (pc := 107) (v := 1) (p := 97) (z := 106) (kj_eq w24 (by decide) : (x1 - x1 / 10 * 10) = 1) (by decide +kernel) (by decide +kernel) ?_
                      first | refine ft_go mi_k98 2 111 [(5, .ref 106), (4, .int vg16), (0, .ref 0), (1, .int x1), (2, .int x2), (3, .int x3)] [.int x3] ig9 ag9 qg9 rg9 (by rfl) ?_ | refine ko_steps mi_in98 2 _ (111, [(5, .ref 106), (4, .int vg16), (0, .ref 0), (1, .int x1), (2, .int x2), (3, .int x3)], [.int x3], (0, 0), ks ig9 ag9 qg9 rg9) (by rfl) ?_
                      have w25 : ¬ (x3.toInt = 0) := (oz1174 c13 kn1)
                      by_cases w26 : x3.toInt = 1
                      ·
                        refine ft_swx mi_k98 (pc := 111) (v := 1) (t := 150) (kj_eq w26 (by decide) : x3 = 1) (by decide +kernel) ?_
                        first | refine ft_go mi_k98 6 161 [(5, .ref 106), (4, .int vg16), (0, .ref 0), (1, .int x1), (2, .int x2), (3, .int x3)] [.int x2, .ref 106, .ref 1, .ref 49] ig9 ag9 qg9 rg9 (by rfl) ?_ | refine ko_steps mi_in98 6 _ (161, [(5, .ref 106), (4, .int vg16), (0, .ref 0), (1, .int x1), (2, .int x2), (3, .int x3)], [.int x2, .ref 106, .ref 1, .ref 49], (0, 0), ks ig9 ag9 qg9 rg9) (by rfl) ?_
                        refine ko_callI mi_k98.1 (pc := 161) (ls := [(5, .ref 106), (4, .int vg16), (0, .ref 0), (1, .int x1), (2, .int x2), (3, .int x3)]) (st := [.int x2, .ref 106, .ref 1, .ref 49]) (h := ks ig9 ag9 qg9 rg9) (i := (.invokevirtual 228, 3, 75, 0, 9, 0, 266)) (mi_k98.2 _ _ (by rfl)) (ft_invS mi_pq75 (by rfl)) (cy := mi_c75) mi_pq75 rfl (kc75_49_1_106 hGg9.I hGg9.R x2 (oz1176 c14 c5 fig9_3138.2 kn0)) (by decide) ?_
                        intro vg27 ig27 ag27 qg27 rg27 kg27 hg27
                        have hGg27 := kG_call hGg9 kg27 (by decide +kernel)
                        exact ft_ret mi_k98 (by rfl) (hP vg27 _ _ _ _ hGg27 trivial)
                      have w28 : ¬ (x3.toInt = 2) := (oz1177 c13 c7 w26 kn1 kn2)
                      exact (oz1178 c13 c7 w26 kn1 kn2).elim
                    by_cases w29 : (x1 - x1 / 10 * 10).toInt = 2
                    ·
                      refine ft_alx mi_k98 (pc := 107) (v := 2) (p := 97) (z := 108) (kj_eq w29 (by decide) : (x1 - x1 / 10 * 10) = 2) (by decide +kernel) (by decide +kernel) ?_
                      first | refine ft_go mi_k98 2 111 [(5, .ref 108), (4, .int vg16), (0, .ref 0), (1, .int x1), (2, .int x2), (3, .int x3)] [.int x3] ig9 ag9 qg9 rg9 (by rfl) ?_ | refine ko_steps mi_in98 2 _ (111, [(5, .ref 108), (4, .int vg16), (0, .ref 0), (1, .int x1), (2, .int x2), (3, .int x3)], [.int x3], (0, 0), ks ig9 ag9 qg9 rg9) (by rfl) ?_
                      have w30 : ¬ (x3.toInt = 0) := (oz1174 c13 kn1)
                      by_cases w31 : x3.toInt = 1
                      ·
                        refine ft_swx mi_k98 (pc := 111) (v := 1) (t := 150) (kj_eq w31 (by decide) : x3 = 1) (by decide +kernel) ?_
                        first | refine ft_go mi_k98 6 161 [(5, .ref 108), (4, .int vg16), (0, .ref 0), (1, .int x1), (2, .int x2), (3, .int x3)] [.int x2, .ref 108, .ref 1, .ref 49] ig9 ag9 qg9 rg9 (by rfl) ?_ | refine ko_steps mi_in98 6 _ (161, [(5, .ref 108), (4, .int vg16), (0, .ref 0), (1, .int x1), (2, .int x2), (3, .int x3)], [.int x2, .ref 108, .ref 1, .ref 49], (0, 0), ks ig9 ag9 qg9 rg9) (by rfl) ?_
                        refine ko_callI mi_k98.1 (pc := 161) (ls := [(5, .ref 108), (4, .int vg16), (0, .ref 0), (1, .int x1), (2, .int x2), (3, .int x3)]) (st := [.int x2, .ref 108, .ref 1, .ref 49]) (h := ks ig9 ag9 qg9 rg9) (i := (.invokevirtual 228, 3, 75, 0, 9, 0, 266)) (mi_k98.2 _ _ (by rfl)) (ft_invS mi_pq75 (by rfl)) (cy := mi_c75) mi_pq75 rfl (kc75_49_1_108 hGg9.I hGg9.R x2 (oz1176 c14 c5 fig9_3138.2 kn0)) (by decide) ?_
                        intro vg32 ig32 ag32 qg32 rg32 kg32 hg32
                        have hGg32 := kG_call hGg9 kg32 (by decide +kernel)
                        exact ft_ret mi_k98 (by rfl) (hP vg32 _ _ _ _ hGg32 trivial)
                      have w33 : ¬ (x3.toInt = 2) := (oz1177 c13 c7 w31 kn1 kn2)
                      exact (oz1178 c13 c7 w31 kn1 kn2).elim
                    by_cases w34 : (x1 - x1 / 10 * 10).toInt = 3
                    ·
                      refine ft_alx mi_k98 (pc := 107) (v := 3) (p := 97) (z := 110) (kj_eq w34 (by decide) : (x1 - x1 / 10 * 10) = 3) (by decide +kernel) (by decide +kernel) ?_
                      first | refine ft_go mi_k98 2 111 [(5, .ref 110), (4, .int vg16), (0, .ref 0), (1, .int x1), (2, .int x2), (3, .int x3)] [.int x3] ig9 ag9 qg9 rg9 (by rfl) ?_ | refine ko_steps mi_in98 2 _ (111, [(5, .ref 110), (4, .int vg16), (0, .ref 0), (1, .int x1), (2, .int x2), (3, .int x3)], [.int x3], (0, 0), ks ig9 ag9 qg9 rg9) (by rfl) ?_
                      have w35 : ¬ (x3.toInt = 0) := (oz1174 c13 kn1)
                      by_cases w36 : x3.toInt = 1
                      ·
                        refine ft_swx mi_k98 (pc := 111) (v := 1) (t := 150) (kj_eq w36 (by decide) : x3 = 1) (by decide +kernel) ?_
                        first | refine ft_go mi_k98 6 161 [(5, .ref 110), (4, .int vg16), (0, .ref 0), (1, .int x1), (2, .int x2), (3, .int x3)] [.int x2, .ref 110, .ref 1, .ref 49] ig9 ag9 qg9 rg9 (by rfl) ?_ | refine ko_steps mi_in98 6 _ (161, [(5, .ref 110), (4, .int vg16), (0, .ref 0), (1, .int x1), (2, .int x2), (3, .int x3)], [.int x2, .ref 110, .ref 1, .ref 49], (0, 0), ks ig9 ag9 qg9 rg9) (by rfl) ?_
                        refine ko_callI mi_k98.1 (pc := 161) (ls := [(5, .ref 110), (4, .int vg16), (0, .ref 0), (1, .int x1), (2, .int x2), (3, .int x3)]) (st := [.int x2, .ref 110, .ref 1, .ref 49]) (h := ks ig9 ag9 qg9 rg9) (i := (.invokevirtual 228, 3, 75, 0, 9, 0, 266)) (mi_k98.2 _ _ (by rfl)) (ft_invS mi_pq75 (by rfl)) (cy := mi_c75) mi_pq75 rfl (kc75_49_1_110 hGg9.I hGg9.R x2 (oz1176 c14 c5 fig9_3138.2 kn0)) (by decide) ?_
                        intro vg37 ig37 ag37 qg37 rg37 kg37 hg37
                        have hGg37 := kG_call hGg9 kg37 (by decide +kernel)
                        exact ft_ret mi_k98 (by rfl) (hP vg37 _ _ _ _ hGg37 trivial)
                      have w38 : ¬ (x3.toInt = 2) := (oz1177 c13 c7 w36 kn1 kn2)
                      exact (oz1178 c13 c7 w36 kn1 kn2).elim
                    by_cases w39 : (x1 - x1 / 10 * 10).toInt = 4
                    ·
                      refine ft_alx mi_k98 (pc := 107) (v := 4) (p := 97) (z := 112) (kj_eq w39 (by decide) : (x1 - x1 / 10 * 10) = 4) (by decide +kernel) (by decide +kernel) ?_
                      first | refine ft_go mi_k98 2 111 [(5, .ref 112), (4, .int vg16), (0, .ref 0), (1, .int x1), (2, .int x2), (3, .int x3)] [.int x3] ig9 ag9 qg9 rg9 (by rfl) ?_ | refine ko_steps mi_in98 2 _ (111, [(5, .ref 112), (4, .int vg16), (0, .ref 0), (1, .int x1), (2, .int x2), (3, .int x3)], [.int x3], (0, 0), ks ig9 ag9 qg9 rg9) (by rfl) ?_
                      have w40 : ¬ (x3.toInt = 0) := (oz1174 c13 kn1)
                      by_cases w41 : x3.toInt = 1
                      ·
                        refine ft_swx mi_k98 (pc := 111) (v := 1) (t := 150) (kj_eq w41 (by decide) : x3 = 1) (by decide +kernel) ?_
                        first | refine ft_go mi_k98 6 161 [(5, .ref 112), (4, .int vg16), (0, .ref 0), (1, .int x1), (2, .int x2), (3, .int x3)] [.int x2, .ref 112, .ref 1, .ref 49] ig9 ag9 qg9 rg9 (by rfl) ?_ | refine ko_steps mi_in98 6 _ (161, [(5, .ref 112), (4, .int vg16), (0, .ref 0), (1, .int x1), (2, .int x2), (3, .int x3)], [.int x2, .ref 112, .ref 1, .ref 49], (0, 0), ks ig9 ag9 qg9 rg9) (by rfl) ?_
                        refine ko_callI mi_k98.1 (pc := 161) (ls := [(5, .ref 112), (4, .int vg16), (0, .ref 0), (1, .int x1), (2, .int x2), (3, .int x3)]) (st := [.int x2, .ref 112, .ref 1, .ref 49]) (h := ks ig9 ag9 qg9 rg9) (i := (.invokevirtual 228, 3, 75, 0, 9, 0, 266)) (mi_k98.2 _ _ (by rfl)) (ft_invS mi_pq75 (by rfl)) (cy := mi_c75) mi_pq75 rfl (kc75_49_1_112 hGg9.I hGg9.R x2 (oz1176 c14 c5 fig9_3138.2 kn0)) (by decide) ?_
                        intro vg42 ig42 ag42 qg42 rg42 kg42 hg42
                        have hGg42 := kG_call hGg9 kg42 (by decide +kernel)
                        exact ft_ret mi_k98 (by rfl) (hP vg42 _ _ _ _ hGg42 trivial)
                      have w43 : ¬ (x3.toInt = 2) := (oz1177 c13 c7 w41 kn1 kn2)
                      exact (oz1178 c13 c7 w41 kn1 kn2).elim
                    by_cases w44 : (x1 - x1 / 10 * 10).toInt = 5
                    ·
                      refine ft_alx mi_k98 (pc := 107) (v := 5) (p := 97) (z := 114) (kj_eq w44 (by decide) : (x1 - x1 / 10 * 10) = 5) (by decide +kernel) (by decide +kernel) ?_
                      first | refine ft_go mi_k98 2 111 [(5, .ref 114), (4, .int vg16), (0, .ref 0), (1, .int x1), (2, .int x2), (3, .int x3)] [.int x3] ig9 ag9 qg9 rg9 (by rfl) ?_ | refine ko_steps mi_in98 2 _ (111, [(5, .ref 114), (4, .int vg16), (0, .ref 0), (1, .int x1), (2, .int x2), (3, .int x3)], [.int x3], (0, 0), ks ig9 ag9 qg9 rg9) (by rfl) ?_
                      have w45 : ¬ (x3.toInt = 0) := (oz1174 c13 kn1)
                      by_cases w46 : x3.toInt = 1
                      ·
                        refine ft_swx mi_k98 (pc := 111) (v := 1) (t := 150) (kj_eq w46 (by decide) : x3 = 1) (by decide +kernel) ?_
                        first | refine ft_go mi_k98 6 161 [(5, .ref 114), (4, .int vg16), (0, .ref 0), (1, .int x1), (2, .int x2), (3, .int x3)] [.int x2, .ref 114, .ref 1, .ref 49] ig9 ag9 qg9 rg9 (by rfl) ?_ | refine ko_steps mi_in98 6 _ (161, [(5, .ref 114), (4, .int vg16), (0, .ref 0), (1, .int x1), (2, .int x2), (3, .int x3)], [.int x2, .ref 114, .ref 1, .ref 49], (0, 0), ks ig9 ag9 qg9 rg9) (by rfl) ?_
                        refine ko_callI mi_k98.1 (pc := 161) (ls := [(5, .ref 114), (4, .int vg16), (0, .ref 0), (1, .int x1), (2, .int x2), (3, .int x3)]) (st := [.int x2, .ref 114, .ref 1, .ref 49]) (h := ks ig9 ag9 qg9 rg9) (i := (.invokevirtual 228, 3, 75, 0, 9, 0, 266)) (mi_k98.2 _ _ (by rfl)) (ft_invS mi_pq75 (by rfl)) (cy := mi_c75) mi_pq75 rfl (kc75_49_1_114 hGg9.I hGg9.R x2 (oz1176 c14 c5 fig9_3138.2 kn0)) (by decide) ?_
                        intro vg47 ig47 ag47 qg47 rg47 kg47 hg47
                        have hGg47 := kG_call hGg9 kg47 (by decide +kernel)
                        exact ft_ret mi_k98 (by rfl) (hP vg47 _ _ _ _ hGg47 trivial)
                      have w48 : ¬ (x3.toInt = 2) := (oz1177 c13 c7 w46 kn1 kn2)
                      exact (oz1178 c13 c7 w46 kn1 kn2).elim
                    exact (oz1172 s15 w19 w24 w29 w34 w39 w44 z2.2.2).elim
                  ·
                    have c49 : vg16.toInt < (0 : Int32).toInt := kd_leF c; clear c
                    first | refine ft_go mi_k98 1 98 [(4, .int vg16), (0, .ref 0), (1, .int x1), (2, .int x2), (3, .int x3)] [.int vg16] ig9 ag9 qg9 rg9 (by rfl) ?_ | refine ko_steps mi_in98 1 _ (98, [(4, .int vg16), (0, .ref 0), (1, .int x1), (2, .int x2), (3, .int x3)], [.int vg16], (0, 0), ks ig9 ag9 qg9 rg9) (by rfl) ?_
                    exact ft_ret mi_k98 (by rfl) (hP vg16 _ _ _ _ hGg9 trivial)
                ·
                  have c50 : (ig9 3138).toInt ≤ x2.toInt := kd_ltF c; clear c
                  first | refine ft_go mi_k98 1 80 [(4, .int vg9), (0, .ref 0), (1, .int x1), (2, .int x2), (3, .int x3)] [.int (-1)] ig9 ag9 qg9 rg9 (by rfl) ?_ | refine ko_steps mi_in98 1 _ (80, [(4, .int vg9), (0, .ref 0), (1, .int x1), (2, .int x2), (3, .int x3)], [.int (-1)], (0, 0), ks ig9 ag9 qg9 rg9) (by rfl) ?_
                  exact ft_ret mi_k98 (by rfl) (hP (-1) _ _ _ _ hGg9 trivial)
            ·
              have c51 : vg9.toInt < (0 : Int32).toInt := kd_leF c; clear c
              first | refine ft_go mi_k98 1 62 [(4, .int vg9), (0, .ref 0), (1, .int x1), (2, .int x2), (3, .int x3)] [.int vg9] ig9 ag9 qg9 rg9 (by rfl) ?_ | refine ko_steps mi_in98 1 _ (62, [(4, .int vg9), (0, .ref 0), (1, .int x1), (2, .int x2), (3, .int x3)], [.int vg9], (0, 0), ks ig9 ag9 qg9 rg9) (by rfl) ?_
              exact ft_ret mi_k98 (by rfl) (hP vg9 _ _ _ _ hGg9 trivial)
          ·
            have c52 : (2 : Int32).toInt ≤ x3.toInt := kd_ltF c; clear c
            first | refine ft_go mi_k98 2 37 [(0, .ref 0), (1, .int x1), (2, .int x2), (3, .int x3)] [.int x2, .ref 0] i a q r (by rfl) ?_ | refine ko_steps mi_in98 2 _ (37, [(0, .ref 0), (1, .int x1), (2, .int x2), (3, .int x3)], [.int x2, .ref 0], (0, 0), ks i a q r) (by rfl) ?_
            refine ko_callPI mi_k98.1 (pc := 37) (ls := [(0, .ref 0), (1, .int x1), (2, .int x2), (3, .int x3)]) (st := [.int x2, .ref 0]) (h := ks i a q r) (i := (.invokevirtual 141, 3, 123, 0, 9, 0, 162)) (mi_k98.2 _ _ (by rfl)) (ft_invS mi_pq123 (by rfl)) (cy := mi_c123) mi_pq123 rfl (kc123_0 hG.I hG.R x2) (by decide) ?_
            intro vg53 hg53
            rcases hg53 with ⟨eg53, hg53⟩ | ⟨eg53, hg53⟩
            ·
              subst eg53
              have s55 : (x1 / 10).toInt = (x1.toInt / 10) := kd_div 10 kn10 (by decide) (oz3 z2.1)
              first | refine ft_go mi_k98 5 50 [(0, .ref 0), (1, .int x1), (2, .int x2), (3, .int x3)] [.int (x1 / 10), .ref 0] i a q r (by rfl) ?_ | refine ko_steps mi_in98 5 _ (50, [(0, .ref 0), (1, .int x1), (2, .int x2), (3, .int x3)], [.int (x1 / 10), .ref 0], (0, 0), ks i a q r) (by rfl) ?_
              refine ko_callI mi_k98.1 (pc := 50) (ls := [(0, .ref 0), (1, .int x1), (2, .int x2), (3, .int x3)]) (st := [.int (x1 / 10), .ref 0]) (h := ks i a q r) (i := (.invokevirtual 144, 3, 129, 0, 9, 0, 208)) (mi_k98.2 _ _ (by rfl)) (ft_invS mi_pq129 (by rfl)) (cy := mi_c129) mi_pq129 rfl (kc129_0 hG.I hG.R (x1 / 10)) (by decide) ?_
              intro vg56 ig56 ag56 qg56 rg56 kg56 hg56
              have hGg56 := kG_call hG kg56 (by decide +kernel)
              first | refine ft_go mi_k98 2 57 [(4, .int vg56), (0, .ref 0), (1, .int x1), (2, .int x2), (3, .int x3)] [.int vg56] ig56 ag56 qg56 rg56 (by rfl) ?_ | refine ko_steps mi_in98 2 _ (57, [(4, .int vg56), (0, .ref 0), (1, .int x1), (2, .int x2), (3, .int x3)], [.int vg56], (0, 0), ks ig56 ag56 qg56 rg56) (by rfl) ?_
              refine ft_if mi_k98 (decide (0 ≤ vg56)) 63 60 [(4, .int vg56), (0, .ref 0), (1, .int x1), (2, .int x2), (3, .int x3)] [] (by rfl) (fun c => ?_) (fun c => ?_)
              ·
                have c58 : (0 : Int32).toInt ≤ vg56.toInt := kd_le c; clear c
                first | refine ft_go mi_k98 2 65 [(4, .int vg56), (0, .ref 0), (1, .int x1), (2, .int x2), (3, .int x3)] [.int 1, .int x3] ig56 ag56 qg56 rg56 (by rfl) ?_ | refine ko_steps mi_in98 2 _ (65, [(4, .int vg56), (0, .ref 0), (1, .int x1), (2, .int x2), (3, .int x3)], [.int 1, .int x3], (0, 0), ks ig56 ag56 qg56 rg56) (by rfl) ?_
                refine ft_if mi_k98 (x3 != 1) 81 68 [(4, .int vg56), (0, .ref 0), (1, .int x1), (2, .int x2), (3, .int x3)] [] (by rfl) (fun c => ?_) (fun c => ?_)
                ·
                  have c59 : x3.toInt ≠ (1 : Int32).toInt := kd_ne c; clear c
                  have s60 : (x1 - x1 / 10 * 10).toInt = (x1.toInt % 10) := kd_rem 10 kn10 (by decide) (oz3 z2.1)
                  first | refine ft_go mi_k98 4 86 [(4, .int vg56), (0, .ref 0), (1, .int x1), (2, .int x2), (3, .int x3)] [.int (x1 - x1 / 10 * 10), .ref 0] ig56 ag56 qg56 rg56 (by rfl) ?_ | refine ko_steps mi_in98 4 _ (86, [(4, .int vg56), (0, .ref 0), (1, .int x1), (2, .int x2), (3, .int x3)], [.int (x1 - x1 / 10 * 10), .ref 0], (0, 0), ks ig56 ag56 qg56 rg56) (by rfl) ?_
                  refine ko_callPI mi_k98.1 (pc := 86) (ls := [(4, .int vg56), (0, .ref 0), (1, .int x1), (2, .int x2), (3, .int x3)]) (st := [.int (x1 - x1 / 10 * 10), .ref 0]) (h := ks ig56 ag56 qg56 rg56) (i := (.invokevirtual 217, 3, 127, 0, 9, 0, 209)) (mi_k98.2 _ _ (by rfl)) (ft_invS mi_pq127 (by rfl)) (cy := mi_c127) mi_pq127 rfl (kc127_0 hGg56.I hGg56.R (x1 - x1 / 10 * 10)) (by decide) ?_
                  intro vg61 hg61
                  first | refine ft_go mi_k98 2 93 [(4, .int vg61), (0, .ref 0), (1, .int x1), (2, .int x2), (3, .int x3)] [.int vg61] ig56 ag56 qg56 rg56 (by rfl) ?_ | refine ko_steps mi_in98 2 _ (93, [(4, .int vg61), (0, .ref 0), (1, .int x1), (2, .int x2), (3, .int x3)], [.int vg61], (0, 0), ks ig56 ag56 qg56 rg56) (by rfl) ?_
                  refine ft_if mi_k98 (decide (0 ≤ vg61)) 99 96 [(4, .int vg61), (0, .ref 0), (1, .int x1), (2, .int x2), (3, .int x3)] [] (by rfl) (fun c => ?_) (fun c => ?_)
                  ·
                    have c63 : (0 : Int32).toInt ≤ vg61.toInt := kd_le c; clear c
                    first | refine ft_go mi_k98 5 107 [(4, .int vg61), (0, .ref 0), (1, .int x1), (2, .int x2), (3, .int x3)] [.int (x1 - x1 / 10 * 10), .ref 97] ig56 ag56 qg56 rg56 (by rfl) ?_ | refine ko_steps mi_in98 5 _ (107, [(4, .int vg61), (0, .ref 0), (1, .int x1), (2, .int x2), (3, .int x3)], [.int (x1 - x1 / 10 * 10), .ref 97], (0, 0), ks ig56 ag56 qg56 rg56) (by rfl) ?_
                    by_cases w64 : (x1 - x1 / 10 * 10).toInt = 0
                    ·
                      refine ft_alx mi_k98 (pc := 107) (v := 0) (p := 97) (z := 104) (kj_eq w64 (by decide) : (x1 - x1 / 10 * 10) = 0) (by decide +kernel) (by decide +kernel) ?_
                      first | refine ft_go mi_k98 2 111 [(5, .ref 104), (4, .int vg61), (0, .ref 0), (1, .int x1), (2, .int x2), (3, .int x3)] [.int x3] ig56 ag56 qg56 rg56 (by rfl) ?_ | refine ko_steps mi_in98 2 _ (111, [(5, .ref 104), (4, .int vg61), (0, .ref 0), (1, .int x1), (2, .int x2), (3, .int x3)], [.int x3], (0, 0), ks ig56 ag56 qg56 rg56) (by rfl) ?_
                      have w65 : ¬ (x3.toInt = 0) := (oz1179 c52 kn2)
                      have w66 : ¬ (x3.toInt = 1) := (oz1180 c52 kn2)
                      by_cases w67 : x3.toInt = 2
                      ·
                        refine ft_swx mi_k98 (pc := 111) (v := 2) (t := 165) (kj_eq w67 (by decide) : x3 = 2) (by decide +kernel) ?_
                        first | refine ft_go mi_k98 6 176 [(5, .ref 104), (4, .int vg61), (0, .ref 0), (1, .int x1), (2, .int x2), (3, .int x3)] [.int x2, .ref 104, .ref 1, .ref 49] ig56 ag56 qg56 rg56 (by rfl) ?_ | refine ko_steps mi_in98 6 _ (176, [(5, .ref 104), (4, .int vg61), (0, .ref 0), (1, .int x1), (2, .int x2), (3, .int x3)], [.int x2, .ref 104, .ref 1, .ref 49], (0, 0), ks ig56 ag56 qg56 rg56) (by rfl) ?_
                        refine ko_callI mi_k98.1 (pc := 176) (ls := [(5, .ref 104), (4, .int vg61), (0, .ref 0), (1, .int x1), (2, .int x2), (3, .int x3)]) (st := [.int x2, .ref 104, .ref 1, .ref 49]) (h := ks ig56 ag56 qg56 rg56) (i := (.invokevirtual 232, 3, 76, 0, 9, 0, 267)) (mi_k98.2 _ _ (by rfl)) (ft_invS mi_pq76 (by rfl)) (cy := mi_c76) mi_pq76 rfl (kc76_49_1_104 hGg56.I hGg56.R x2) (by decide) ?_
                        intro vg68 ig68 ag68 qg68 rg68 kg68 hg68
                        have hGg68 := kG_call hGg56 kg68 (by decide +kernel)
                        refine ko_callPI mi_k98.1 (pc := 179) (ls := [(5, .ref 104), (4, .int vg61), (0, .ref 0), (1, .int x1), (2, .int x2), (3, .int x3)]) (st := [.int vg68]) (h := ks ig68 ag68 qg68 rg68) (i := (.invokestatic 188, 3, 226, 0, 9, 0, 247)) (mi_k98.2 _ _ (by rfl)) (ft_invS mi_pq226 (by rfl)) (cy := mi_c226) mi_pq226 rfl (kc226 hGg68.I hGg68.R vg68) (by decide) ?_
                        intro vg69 hg69
                        exact ft_ret mi_k98 (by rfl) (hP vg69 _ _ _ _ hGg68 trivial)
                      refine ko_sw (ls := [(5, .ref 104), (4, .int vg61), (0, .ref 0), (1, .int x1), (2, .int x2), (3, .int x3)]) (r := []) (h := ks ig56 ag56 qg56 rg56) mi_in98 (v := x3) (i := (.tableswitch 72 0 2 #[25, 39, 54], 25, 0, 0, 0, 0, 0)) (by rfl) rfl (oz973 w65 w66 w67) 183 (by rfl) ?_
                      first | refine ft_go mi_k98 6 194 [(5, .ref 104), (4, .int vg61), (0, .ref 0), (1, .int x1), (2, .int x2), (3, .int x3)] [.int x2, .ref 104, .ref 1, .ref 49] ig56 ag56 qg56 rg56 (by rfl) ?_ | refine ko_steps mi_in98 6 _ (194, [(5, .ref 104), (4, .int vg61), (0, .ref 0), (1, .int x1), (2, .int x2), (3, .int x3)], [.int x2, .ref 104, .ref 1, .ref 49], (0, 0), ks ig56 ag56 qg56 rg56) (by rfl) ?_
                      refine ko_callI mi_k98.1 (pc := 194) (ls := [(5, .ref 104), (4, .int vg61), (0, .ref 0), (1, .int x1), (2, .int x2), (3, .int x3)]) (st := [.int x2, .ref 104, .ref 1, .ref 49]) (h := ks ig56 ag56 qg56 rg56) (i := (.invokevirtual 232, 3, 76, 0, 9, 0, 267)) (mi_k98.2 _ _ (by rfl)) (ft_invS mi_pq76 (by rfl)) (cy := mi_c76) mi_pq76 rfl (kc76_49_1_104 hGg56.I hGg56.R x2) (by decide) ?_
                      intro vg71 ig71 ag71 qg71 rg71 kg71 hg71
                      have hGg71 := kG_call hGg56 kg71 (by decide +kernel)
                      refine ko_callPI mi_k98.1 (pc := 197) (ls := [(5, .ref 104), (4, .int vg61), (0, .ref 0), (1, .int x1), (2, .int x2), (3, .int x3)]) (st := [.int vg71]) (h := ks ig71 ag71 qg71 rg71) (i := (.invokestatic 235, 3, 99, 0, 9, 0, 271)) (mi_k98.2 _ _ (by rfl)) (ft_invS mi_pq99 (by rfl)) (cy := mi_c99) mi_pq99 rfl (kc99 hGg71.I hGg71.R vg71) (by decide) ?_
                      intro vg72 hg72
                      exact ft_ret mi_k98 (by rfl) (hP vg72 _ _ _ _ hGg71 trivial)
                    by_cases w73 : (x1 - x1 / 10 * 10).toInt = 1
                    ·
                      refine ft_alx mi_k98 (pc := 107) (v := 1) (p := 97) (z := 106) (kj_eq w73 (by decide) : (x1 - x1 / 10 * 10) = 1) (by decide +kernel) (by decide +kernel) ?_
                      first | refine ft_go mi_k98 2 111 [(5, .ref 106), (4, .int vg61), (0, .ref 0), (1, .int x1), (2, .int x2), (3, .int x3)] [.int x3] ig56 ag56 qg56 rg56 (by rfl) ?_ | refine ko_steps mi_in98 2 _ (111, [(5, .ref 106), (4, .int vg61), (0, .ref 0), (1, .int x1), (2, .int x2), (3, .int x3)], [.int x3], (0, 0), ks ig56 ag56 qg56 rg56) (by rfl) ?_
                      have w74 : ¬ (x3.toInt = 0) := (oz1179 c52 kn2)
                      have w75 : ¬ (x3.toInt = 1) := (oz1180 c52 kn2)
                      by_cases w76 : x3.toInt = 2
                      ·
                        refine ft_swx mi_k98 (pc := 111) (v := 2) (t := 165) (kj_eq w76 (by decide) : x3 = 2) (by decide +kernel) ?_
                        first | refine ft_go mi_k98 6 176 [(5, .ref 106), (4, .int vg61), (0, .ref 0), (1, .int x1), (2, .int x2), (3, .int x3)] [.int x2, .ref 106, .ref 1, .ref 49] ig56 ag56 qg56 rg56 (by rfl) ?_ | refine ko_steps mi_in98 6 _ (176, [(5, .ref 106), (4, .int vg61), (0, .ref 0), (1, .int x1), (2, .int x2), (3, .int x3)], [.int x2, .ref 106, .ref 1, .ref 49], (0, 0), ks ig56 ag56 qg56 rg56) (by rfl) ?_
                        refine ko_callI mi_k98.1 (pc := 176) (ls := [(5, .ref 106), (4, .int vg61), (0, .ref 0), (1, .int x1), (2, .int x2), (3, .int x3)]) (st := [.int x2, .ref 106, .ref 1, .ref 49]) (h := ks ig56 ag56 qg56 rg56) (i := (.invokevirtual 232, 3, 76, 0, 9, 0, 267)) (mi_k98.2 _ _ (by rfl)) (ft_invS mi_pq76 (by rfl)) (cy := mi_c76) mi_pq76 rfl (kc76_49_1_106 hGg56.I hGg56.R x2) (by decide) ?_
                        intro vg77 ig77 ag77 qg77 rg77 kg77 hg77
                        have hGg77 := kG_call hGg56 kg77 (by decide +kernel)
                        refine ko_callPI mi_k98.1 (pc := 179) (ls := [(5, .ref 106), (4, .int vg61), (0, .ref 0), (1, .int x1), (2, .int x2), (3, .int x3)]) (st := [.int vg77]) (h := ks ig77 ag77 qg77 rg77) (i := (.invokestatic 188, 3, 226, 0, 9, 0, 247)) (mi_k98.2 _ _ (by rfl)) (ft_invS mi_pq226 (by rfl)) (cy := mi_c226) mi_pq226 rfl (kc226 hGg77.I hGg77.R vg77) (by decide) ?_
                        intro vg78 hg78
                        exact ft_ret mi_k98 (by rfl) (hP vg78 _ _ _ _ hGg77 trivial)
                      refine ko_sw (ls := [(5, .ref 106), (4, .int vg61), (0, .ref 0), (1, .int x1), (2, .int x2), (3, .int x3)]) (r := []) (h := ks ig56 ag56 qg56 rg56) mi_in98 (v := x3) (i := (.tableswitch 72 0 2 #[25, 39, 54], 25, 0, 0, 0, 0, 0)) (by rfl) rfl (oz973 w74 w75 w76) 183 (by rfl) ?_
                      first | refine ft_go mi_k98 6 194 [(5, .ref 106), (4, .int vg61), (0, .ref 0), (1, .int x1), (2, .int x2), (3, .int x3)] [.int x2, .ref 106, .ref 1, .ref 49] ig56 ag56 qg56 rg56 (by rfl) ?_ | refine ko_steps mi_in98 6 _ (194, [(5, .ref 106), (4, .int vg61), (0, .ref 0), (1, .int x1), (2, .int x2), (3, .int x3)], [.int x2, .ref 106, .ref 1, .ref 49], (0, 0), ks ig56 ag56 qg56 rg56) (by rfl) ?_
                      refine ko_callI mi_k98.1 (pc := 194) (ls := [(5, .ref 106), (4, .int vg61), (0, .ref 0), (1, .int x1), (2, .int x2), (3, .int x3)]) (st := [.int x2, .ref 106, .ref 1, .ref 49]) (h := ks ig56 ag56 qg56 rg56) (i := (.invokevirtual 232, 3, 76, 0, 9, 0, 267)) (mi_k98.2 _ _ (by rfl)) (ft_invS mi_pq76 (by rfl)) (cy := mi_c76) mi_pq76 rfl (kc76_49_1_106 hGg56.I hGg56.R x2) (by decide) ?_
                      intro vg80 ig80 ag80 qg80 rg80 kg80 hg80
                      have hGg80 := kG_call hGg56 kg80 (by decide +kernel)
                      refine ko_callPI mi_k98.1 (pc := 197) (ls := [(5, .ref 106), (4, .int vg61), (0, .ref 0), (1, .int x1), (2, .int x2), (3, .int x3)]) (st := [.int vg80]) (h := ks ig80 ag80 qg80 rg80) (i := (.invokestatic 235, 3, 99, 0, 9, 0, 271)) (mi_k98.2 _ _ (by rfl)) (ft_invS mi_pq99 (by rfl)) (cy := mi_c99) mi_pq99 rfl (kc99 hGg80.I hGg80.R vg80) (by decide) ?_
                      intro vg81 hg81
                      exact ft_ret mi_k98 (by rfl) (hP vg81 _ _ _ _ hGg80 trivial)
                    by_cases w82 : (x1 - x1 / 10 * 10).toInt = 2
                    ·
                      refine ft_alx mi_k98 (pc := 107) (v := 2) (p := 97) (z := 108) (kj_eq w82 (by decide) : (x1 - x1 / 10 * 10) = 2) (by decide +kernel) (by decide +kernel) ?_
                      first | refine ft_go mi_k98 2 111 [(5, .ref 108), (4, .int vg61), (0, .ref 0), (1, .int x1), (2, .int x2), (3, .int x3)] [.int x3] ig56 ag56 qg56 rg56 (by rfl) ?_ | refine ko_steps mi_in98 2 _ (111, [(5, .ref 108), (4, .int vg61), (0, .ref 0), (1, .int x1), (2, .int x2), (3, .int x3)], [.int x3], (0, 0), ks ig56 ag56 qg56 rg56) (by rfl) ?_
                      have w83 : ¬ (x3.toInt = 0) := (oz1179 c52 kn2)
                      have w84 : ¬ (x3.toInt = 1) := (oz1180 c52 kn2)
                      by_cases w85 : x3.toInt = 2
                      ·
                        refine ft_swx mi_k98 (pc := 111) (v := 2) (t := 165) (kj_eq w85 (by decide) : x3 = 2) (by decide +kernel) ?_
                        first | refine ft_go mi_k98 6 176 [(5, .ref 108), (4, .int vg61), (0, .ref 0), (1, .int x1), (2, .int x2), (3, .int x3)] [.int x2, .ref 108, .ref 1, .ref 49] ig56 ag56 qg56 rg56 (by rfl) ?_ | refine ko_steps mi_in98 6 _ (176, [(5, .ref 108), (4, .int vg61), (0, .ref 0), (1, .int x1), (2, .int x2), (3, .int x3)], [.int x2, .ref 108, .ref 1, .ref 49], (0, 0), ks ig56 ag56 qg56 rg56) (by rfl) ?_
                        refine ko_callI mi_k98.1 (pc := 176) (ls := [(5, .ref 108), (4, .int vg61), (0, .ref 0), (1, .int x1), (2, .int x2), (3, .int x3)]) (st := [.int x2, .ref 108, .ref 1, .ref 49]) (h := ks ig56 ag56 qg56 rg56) (i := (.invokevirtual 232, 3, 76, 0, 9, 0, 267)) (mi_k98.2 _ _ (by rfl)) (ft_invS mi_pq76 (by rfl)) (cy := mi_c76) mi_pq76 rfl (kc76_49_1_108 hGg56.I hGg56.R x2) (by decide) ?_
                        intro vg86 ig86 ag86 qg86 rg86 kg86 hg86
                        have hGg86 := kG_call hGg56 kg86 (by decide +kernel)
                        refine ko_callPI mi_k98.1 (pc := 179) (ls := [(5, .ref 108), (4, .int vg61), (0, .ref 0), (1, .int x1), (2, .int x2), (3, .int x3)]) (st := [.int vg86]) (h := ks ig86 ag86 qg86 rg86) (i := (.invokestatic 188, 3, 226, 0, 9, 0, 247)) (mi_k98.2 _ _ (by rfl)) (ft_invS mi_pq226 (by rfl)) (cy := mi_c226) mi_pq226 rfl (kc226 hGg86.I hGg86.R vg86) (by decide) ?_
                        intro vg87 hg87
                        exact ft_ret mi_k98 (by rfl) (hP vg87 _ _ _ _ hGg86 trivial)
                      refine ko_sw (ls := [(5, .ref 108), (4, .int vg61), (0, .ref 0), (1, .int x1), (2, .int x2), (3, .int x3)]) (r := []) (h := ks ig56 ag56 qg56 rg56) mi_in98 (v := x3) (i := (.tableswitch 72 0 2 #[25, 39, 54], 25, 0, 0, 0, 0, 0)) (by rfl) rfl (oz973 w83 w84 w85) 183 (by rfl) ?_
                      first | refine ft_go mi_k98 6 194 [(5, .ref 108), (4, .int vg61), (0, .ref 0), (1, .int x1), (2, .int x2), (3, .int x3)] [.int x2, .ref 108, .ref 1, .ref 49] ig56 ag56 qg56 rg56 (by rfl) ?_ | refine ko_steps mi_in98 6 _ (194, [(5, .ref 108), (4, .int vg61), (0, .ref 0), (1, .int x1), (2, .int x2), (3, .int x3)], [.int x2, .ref 108, .ref 1, .ref 49], (0, 0), ks ig56 ag56 qg56 rg56) (by rfl) ?_
                      refine ko_callI mi_k98.1 (pc := 194) (ls := [(5, .ref 108), (4, .int vg61), (0, .ref 0), (1, .int x1), (2, .int x2), (3, .int x3)]) (st := [.int x2, .ref 108, .ref 1, .ref 49]) (h := ks ig56 ag56 qg56 rg56) (i := (.invokevirtual 232, 3, 76, 0, 9, 0, 267)) (mi_k98.2 _ _ (by rfl)) (ft_invS mi_pq76 (by rfl)) (cy := mi_c76) mi_pq76 rfl (kc76_49_1_108 hGg56.I hGg56.R x2) (by decide) ?_
                      intro vg89 ig89 ag89 qg89 rg89 kg89 hg89
                      have hGg89 := kG_call hGg56 kg89 (by decide +kernel)
                      refine ko_callPI mi_k98.1 (pc := 197) (ls := [(5, .ref 108), (4, .int vg61), (0, .ref 0), (1, .int x1), (2, .int x2), (3, .int x3)]) (st := [.int vg89]) (h := ks ig89 ag89 qg89 rg89) (i := (.invokestatic 235, 3, 99, 0, 9, 0, 271)) (mi_k98.2 _ _ (by rfl)) (ft_invS mi_pq99 (by rfl)) (cy := mi_c99) mi_pq99 rfl (kc99 hGg89.I hGg89.R vg89) (by decide) ?_
                      intro vg90 hg90
                      exact ft_ret mi_k98 (by rfl) (hP vg90 _ _ _ _ hGg89 trivial)
                    by_cases w91 : (x1 - x1 / 10 * 10).toInt = 3
                    ·
                      refine ft_alx mi_k98 (pc := 107) (v := 3) (p := 97) (z := 110) (kj_eq w91 (by decide) : (x1 - x1 / 10 * 10) = 3) (by decide +kernel) (by decide +kernel) ?_
                      first | refine ft_go mi_k98 2 111 [(5, .ref 110), (4, .int vg61), (0, .ref 0), (1, .int x1), (2, .int x2), (3, .int x3)] [.int x3] ig56 ag56 qg56 rg56 (by rfl) ?_ | refine ko_steps mi_in98 2 _ (111, [(5, .ref 110), (4, .int vg61), (0, .ref 0), (1, .int x1), (2, .int x2), (3, .int x3)], [.int x3], (0, 0), ks ig56 ag56 qg56 rg56) (by rfl) ?_
                      have w92 : ¬ (x3.toInt = 0) := (oz1179 c52 kn2)
                      have w93 : ¬ (x3.toInt = 1) := (oz1180 c52 kn2)
                      by_cases w94 : x3.toInt = 2
                      ·
                        refine ft_swx mi_k98 (pc := 111) (v := 2) (t := 165) (kj_eq w94 (by decide) : x3 = 2) (by decide +kernel) ?_
                        first | refine ft_go mi_k98 6 176 [(5, .ref 110), (4, .int vg61), (0, .ref 0), (1, .int x1), (2, .int x2), (3, .int x3)] [.int x2, .ref 110, .ref 1, .ref 49] ig56 ag56 qg56 rg56 (by rfl) ?_ | refine ko_steps mi_in98 6 _ (176, [(5, .ref 110), (4, .int vg61), (0, .ref 0), (1, .int x1), (2, .int x2), (3, .int x3)], [.int x2, .ref 110, .ref 1, .ref 49], (0, 0), ks ig56 ag56 qg56 rg56) (by rfl) ?_
                        refine ko_callI mi_k98.1 (pc := 176) (ls := [(5, .ref 110), (4, .int vg61), (0, .ref 0), (1, .int x1), (2, .int x2), (3, .int x3)]) (st := [.int x2, .ref 110, .ref 1, .ref 49]) (h := ks ig56 ag56 qg56 rg56) (i := (.invokevirtual 232, 3, 76, 0, 9, 0, 267)) (mi_k98.2 _ _ (by rfl)) (ft_invS mi_pq76 (by rfl)) (cy := mi_c76) mi_pq76 rfl (kc76_49_1_110 hGg56.I hGg56.R x2) (by decide) ?_
                        intro vg95 ig95 ag95 qg95 rg95 kg95 hg95
                        have hGg95 := kG_call hGg56 kg95 (by decide +kernel)
                        refine ko_callPI mi_k98.1 (pc := 179) (ls := [(5, .ref 110), (4, .int vg61), (0, .ref 0), (1, .int x1), (2, .int x2), (3, .int x3)]) (st := [.int vg95]) (h := ks ig95 ag95 qg95 rg95) (i := (.invokestatic 188, 3, 226, 0, 9, 0, 247)) (mi_k98.2 _ _ (by rfl)) (ft_invS mi_pq226 (by rfl)) (cy := mi_c226) mi_pq226 rfl (kc226 hGg95.I hGg95.R vg95) (by decide) ?_
                        intro vg96 hg96
                        exact ft_ret mi_k98 (by rfl) (hP vg96 _ _ _ _ hGg95 trivial)
                      refine ko_sw (ls := [(5, .ref 110), (4, .int vg61), (0, .ref 0), (1, .int x1), (2, .int x2), (3, .int x3)]) (r := []) (h := ks ig56 ag56 qg56 rg56) mi_in98 (v := x3) (i := (.tableswitch 72 0 2 #[25, 39, 54], 25, 0, 0, 0, 0, 0)) (by rfl) rfl (oz973 w92 w93 w94) 183 (by rfl) ?_
                      first | refine ft_go mi_k98 6 194 [(5, .ref 110), (4, .int vg61), (0, .ref 0), (1, .int x1), (2, .int x2), (3, .int x3)] [.int x2, .ref 110, .ref 1, .ref 49] ig56 ag56 qg56 rg56 (by rfl) ?_ | refine ko_steps mi_in98 6 _ (194, [(5, .ref 110), (4, .int vg61), (0, .ref 0), (1, .int x1), (2, .int x2), (3, .int x3)], [.int x2, .ref 110, .ref 1, .ref 49], (0, 0), ks ig56 ag56 qg56 rg56) (by rfl) ?_
                      refine ko_callI mi_k98.1 (pc := 194) (ls := [(5, .ref 110), (4, .int vg61), (0, .ref 0), (1, .int x1), (2, .int x2), (3, .int x3)]) (st := [.int x2, .ref 110, .ref 1, .ref 49]) (h := ks ig56 ag56 qg56 rg56) (i := (.invokevirtual 232, 3, 76, 0, 9, 0, 267)) (mi_k98.2 _ _ (by rfl)) (ft_invS mi_pq76 (by rfl)) (cy := mi_c76) mi_pq76 rfl (kc76_49_1_110 hGg56.I hGg56.R x2) (by decide) ?_
                      intro vg98 ig98 ag98 qg98 rg98 kg98 hg98
                      have hGg98 := kG_call hGg56 kg98 (by decide +kernel)
                      refine ko_callPI mi_k98.1 (pc := 197) (ls := [(5, .ref 110), (4, .int vg61), (0, .ref 0), (1, .int x1), (2, .int x2), (3, .int x3)]) (st := [.int vg98]) (h := ks ig98 ag98 qg98 rg98) (i := (.invokestatic 235, 3, 99, 0, 9, 0, 271)) (mi_k98.2 _ _ (by rfl)) (ft_invS mi_pq99 (by rfl)) (cy := mi_c99) mi_pq99 rfl (kc99 hGg98.I hGg98.R vg98) (by decide) ?_
                      intro vg99 hg99
                      exact ft_ret mi_k98 (by rfl) (hP vg99 _ _ _ _ hGg98 trivial)
                    by_cases w100 : (x1 - x1 / 10 * 10).toInt = 4
                    ·
                      refine ft_alx mi_k98 (pc := 107) (v := 4) (p := 97) (z := 112) (kj_eq w100 (by decide) : (x1 - x1 / 10 * 10) = 4) (by decide +kernel) (by decide +kernel) ?_
                      first | refine ft_go mi_k98 2 111 [(5, .ref 112), (4, .int vg61), (0, .ref 0), (1, .int x1), (2, .int x2), (3, .int x3)] [.int x3] ig56 ag56 qg56 rg56 (by rfl) ?_ | refine ko_steps mi_in98 2 _ (111, [(5, .ref 112), (4, .int vg61), (0, .ref 0), (1, .int x1), (2, .int x2), (3, .int x3)], [.int x3], (0, 0), ks ig56 ag56 qg56 rg56) (by rfl) ?_
                      have w101 : ¬ (x3.toInt = 0) := (oz1179 c52 kn2)
                      have w102 : ¬ (x3.toInt = 1) := (oz1180 c52 kn2)
                      by_cases w103 : x3.toInt = 2
                      ·
                        refine ft_swx mi_k98 (pc := 111) (v := 2) (t := 165) (kj_eq w103 (by decide) : x3 = 2) (by decide +kernel) ?_
                        first | refine ft_go mi_k98 6 176 [(5, .ref 112), (4, .int vg61), (0, .ref 0), (1, .int x1), (2, .int x2), (3, .int x3)] [.int x2, .ref 112, .ref 1, .ref 49] ig56 ag56 qg56 rg56 (by rfl) ?_ | refine ko_steps mi_in98 6 _ (176, [(5, .ref 112), (4, .int vg61), (0, .ref 0), (1, .int x1), (2, .int x2), (3, .int x3)], [.int x2, .ref 112, .ref 1, .ref 49], (0, 0), ks ig56 ag56 qg56 rg56) (by rfl) ?_
                        refine ko_callI mi_k98.1 (pc := 176) (ls := [(5, .ref 112), (4, .int vg61), (0, .ref 0), (1, .int x1), (2, .int x2), (3, .int x3)]) (st := [.int x2, .ref 112, .ref 1, .ref 49]) (h := ks ig56 ag56 qg56 rg56) (i := (.invokevirtual 232, 3, 76, 0, 9, 0, 267)) (mi_k98.2 _ _ (by rfl)) (ft_invS mi_pq76 (by rfl)) (cy := mi_c76) mi_pq76 rfl (kc76_49_1_112 hGg56.I hGg56.R x2) (by decide) ?_
                        intro vg104 ig104 ag104 qg104 rg104 kg104 hg104
                        have hGg104 := kG_call hGg56 kg104 (by decide +kernel)
                        refine ko_callPI mi_k98.1 (pc := 179) (ls := [(5, .ref 112), (4, .int vg61), (0, .ref 0), (1, .int x1), (2, .int x2), (3, .int x3)]) (st := [.int vg104]) (h := ks ig104 ag104 qg104 rg104) (i := (.invokestatic 188, 3, 226, 0, 9, 0, 247)) (mi_k98.2 _ _ (by rfl)) (ft_invS mi_pq226 (by rfl)) (cy := mi_c226) mi_pq226 rfl (kc226 hGg104.I hGg104.R vg104) (by decide) ?_
                        intro vg105 hg105
                        exact ft_ret mi_k98 (by rfl) (hP vg105 _ _ _ _ hGg104 trivial)
                      refine ko_sw (ls := [(5, .ref 112), (4, .int vg61), (0, .ref 0), (1, .int x1), (2, .int x2), (3, .int x3)]) (r := []) (h := ks ig56 ag56 qg56 rg56) mi_in98 (v := x3) (i := (.tableswitch 72 0 2 #[25, 39, 54], 25, 0, 0, 0, 0, 0)) (by rfl) rfl (oz973 w101 w102 w103) 183 (by rfl) ?_
                      first | refine ft_go mi_k98 6 194 [(5, .ref 112), (4, .int vg61), (0, .ref 0), (1, .int x1), (2, .int x2), (3, .int x3)] [.int x2, .ref 112, .ref 1, .ref 49] ig56 ag56 qg56 rg56 (by rfl) ?_ | refine ko_steps mi_in98 6 _ (194, [(5, .ref 112), (4, .int vg61), (0, .ref 0), (1, .int x1), (2, .int x2), (3, .int x3)], [.int x2, .ref 112, .ref 1, .ref 49], (0, 0), ks ig56 ag56 qg56 rg56) (by rfl) ?_
                      refine ko_callI mi_k98.1 (pc := 194) (ls := [(5, .ref 112), (4, .int vg61), (0, .ref 0), (1, .int x1), (2, .int x2), (3, .int x3)]) (st := [.int x2, .ref 112, .ref 1, .ref 49]) (h := ks ig56 ag56 qg56 rg56) (i := (.invokevirtual 232, 3, 76, 0, 9, 0, 267)) (mi_k98.2 _ _ (by rfl)) (ft_invS mi_pq76 (by rfl)) (cy := mi_c76) mi_pq76 rfl (kc76_49_1_112 hGg56.I hGg56.R x2) (by decide) ?_
                      intro vg107 ig107 ag107 qg107 rg107 kg107 hg107
                      have hGg107 := kG_call hGg56 kg107 (by decide +kernel)
                      refine ko_callPI mi_k98.1 (pc := 197) (ls := [(5, .ref 112), (4, .int vg61), (0, .ref 0), (1, .int x1), (2, .int x2), (3, .int x3)]) (st := [.int vg107]) (h := ks ig107 ag107 qg107 rg107) (i := (.invokestatic 235, 3, 99, 0, 9, 0, 271)) (mi_k98.2 _ _ (by rfl)) (ft_invS mi_pq99 (by rfl)) (cy := mi_c99) mi_pq99 rfl (kc99 hGg107.I hGg107.R vg107) (by decide) ?_
                      intro vg108 hg108
                      exact ft_ret mi_k98 (by rfl) (hP vg108 _ _ _ _ hGg107 trivial)
                    by_cases w109 : (x1 - x1 / 10 * 10).toInt = 5
                    ·
                      refine ft_alx mi_k98 (pc := 107) (v := 5) (p := 97) (z := 114) (kj_eq w109 (by decide) : (x1 - x1 / 10 * 10) = 5) (by decide +kernel) (by decide +kernel) ?_
                      first | refine ft_go mi_k98 2 111 [(5, .ref 114), (4, .int vg61), (0, .ref 0), (1, .int x1), (2, .int x2), (3, .int x3)] [.int x3] ig56 ag56 qg56 rg56 (by rfl) ?_ | refine ko_steps mi_in98 2 _ (111, [(5, .ref 114), (4, .int vg61), (0, .ref 0), (1, .int x1), (2, .int x2), (3, .int x3)], [.int x3], (0, 0), ks ig56 ag56 qg56 rg56) (by rfl) ?_
                      have w110 : ¬ (x3.toInt = 0) := (oz1179 c52 kn2)
                      have w111 : ¬ (x3.toInt = 1) := (oz1180 c52 kn2)
                      by_cases w112 : x3.toInt = 2
                      ·
                        refine ft_swx mi_k98 (pc := 111) (v := 2) (t := 165) (kj_eq w112 (by decide) : x3 = 2) (by decide +kernel) ?_
                        first | refine ft_go mi_k98 6 176 [(5, .ref 114), (4, .int vg61), (0, .ref 0), (1, .int x1), (2, .int x2), (3, .int x3)] [.int x2, .ref 114, .ref 1, .ref 49] ig56 ag56 qg56 rg56 (by rfl) ?_ | refine ko_steps mi_in98 6 _ (176, [(5, .ref 114), (4, .int vg61), (0, .ref 0), (1, .int x1), (2, .int x2), (3, .int x3)], [.int x2, .ref 114, .ref 1, .ref 49], (0, 0), ks ig56 ag56 qg56 rg56) (by rfl) ?_
                        refine ko_callI mi_k98.1 (pc := 176) (ls := [(5, .ref 114), (4, .int vg61), (0, .ref 0), (1, .int x1), (2, .int x2), (3, .int x3)]) (st := [.int x2, .ref 114, .ref 1, .ref 49]) (h := ks ig56 ag56 qg56 rg56) (i := (.invokevirtual 232, 3, 76, 0, 9, 0, 267)) (mi_k98.2 _ _ (by rfl)) (ft_invS mi_pq76 (by rfl)) (cy := mi_c76) mi_pq76 rfl (kc76_49_1_114 hGg56.I hGg56.R x2) (by decide) ?_
                        intro vg113 ig113 ag113 qg113 rg113 kg113 hg113
                        have hGg113 := kG_call hGg56 kg113 (by decide +kernel)
                        refine ko_callPI mi_k98.1 (pc := 179) (ls := [(5, .ref 114), (4, .int vg61), (0, .ref 0), (1, .int x1), (2, .int x2), (3, .int x3)]) (st := [.int vg113]) (h := ks ig113 ag113 qg113 rg113) (i := (.invokestatic 188, 3, 226, 0, 9, 0, 247)) (mi_k98.2 _ _ (by rfl)) (ft_invS mi_pq226 (by rfl)) (cy := mi_c226) mi_pq226 rfl (kc226 hGg113.I hGg113.R vg113) (by decide) ?_
                        intro vg114 hg114
                        exact ft_ret mi_k98 (by rfl) (hP vg114 _ _ _ _ hGg113 trivial)
                      refine ko_sw (ls := [(5, .ref 114), (4, .int vg61), (0, .ref 0), (1, .int x1), (2, .int x2), (3, .int x3)]) (r := []) (h := ks ig56 ag56 qg56 rg56) mi_in98 (v := x3) (i := (.tableswitch 72 0 2 #[25, 39, 54], 25, 0, 0, 0, 0, 0)) (by rfl) rfl (oz973 w110 w111 w112) 183 (by rfl) ?_
                      first | refine ft_go mi_k98 6 194 [(5, .ref 114), (4, .int vg61), (0, .ref 0), (1, .int x1), (2, .int x2), (3, .int x3)] [.int x2, .ref 114, .ref 1, .ref 49] ig56 ag56 qg56 rg56 (by rfl) ?_ | refine ko_steps mi_in98 6 _ (194, [(5, .ref 114), (4, .int vg61), (0, .ref 0), (1, .int x1), (2, .int x2), (3, .int x3)], [.int x2, .ref 114, .ref 1, .ref 49], (0, 0), ks ig56 ag56 qg56 rg56) (by rfl) ?_
                      refine ko_callI mi_k98.1 (pc := 194) (ls := [(5, .ref 114), (4, .int vg61), (0, .ref 0), (1, .int x1), (2, .int x2), (3, .int x3)]) (st := [.int x2, .ref 114, .ref 1, .ref 49]) (h := ks ig56 ag56 qg56 rg56) (i := (.invokevirtual 232, 3, 76, 0, 9, 0, 267)) (mi_k98.2 _ _ (by rfl)) (ft_invS mi_pq76 (by rfl)) (cy := mi_c76) mi_pq76 rfl (kc76_49_1_114 hGg56.I hGg56.R x2) (by decide) ?_
                      intro vg116 ig116 ag116 qg116 rg116 kg116 hg116
                      have hGg116 := kG_call hGg56 kg116 (by decide +kernel)
                      refine ko_callPI mi_k98.1 (pc := 197) (ls := [(5, .ref 114), (4, .int vg61), (0, .ref 0), (1, .int x1), (2, .int x2), (3, .int x3)]) (st := [.int vg116]) (h := ks ig116 ag116 qg116 rg116) (i := (.invokestatic 235, 3, 99, 0, 9, 0, 271)) (mi_k98.2 _ _ (by rfl)) (ft_invS mi_pq99 (by rfl)) (cy := mi_c99) mi_pq99 rfl (kc99 hGg116.I hGg116.R vg116) (by decide) ?_
                      intro vg117 hg117
                      exact ft_ret mi_k98 (by rfl) (hP vg117 _ _ _ _ hGg116 trivial)
                    exact (oz1188 s60 w100 w109 w64 w73 w82 w91 z2.2.2).elim
                  ·
                    have c118 : vg61.toInt < (0 : Int32).toInt := kd_leF c; clear c
                    first | refine ft_go mi_k98 1 98 [(4, .int vg61), (0, .ref 0), (1, .int x1), (2, .int x2), (3, .int x3)] [.int vg61] ig56 ag56 qg56 rg56 (by rfl) ?_ | refine ko_steps mi_in98 1 _ (98, [(4, .int vg61), (0, .ref 0), (1, .int x1), (2, .int x2), (3, .int x3)], [.int vg61], (0, 0), ks ig56 ag56 qg56 rg56) (by rfl) ?_
                    exact ft_ret mi_k98 (by rfl) (hP vg61 _ _ _ _ hGg56 trivial)
                ·
                  have c119 : x3.toInt = (1 : Int32).toInt := kd_neF c; clear c
                  exact (oz1189 c119 c52 kn1 kn2).elim
              ·
                have c120 : vg56.toInt < (0 : Int32).toInt := kd_leF c; clear c
                first | refine ft_go mi_k98 1 62 [(4, .int vg56), (0, .ref 0), (1, .int x1), (2, .int x2), (3, .int x3)] [.int vg56] ig56 ag56 qg56 rg56 (by rfl) ?_ | refine ko_steps mi_in98 1 _ (62, [(4, .int vg56), (0, .ref 0), (1, .int x1), (2, .int x2), (3, .int x3)], [.int vg56], (0, 0), ks ig56 ag56 qg56 rg56) (by rfl) ?_
                exact ft_ret mi_k98 (by rfl) (hP vg56 _ _ _ _ hGg56 trivial)
            ·
              subst eg53
              first | refine ft_go mi_k98 2 44 [(0, .ref 0), (1, .int x1), (2, .int x2), (3, .int x3)] [.int (-1)] i a q r (by rfl) ?_ | refine ko_steps mi_in98 2 _ (44, [(0, .ref 0), (1, .int x1), (2, .int x2), (3, .int x3)], [.int (-1)], (0, 0), ks i a q r) (by rfl) ?_
              exact ft_ret mi_k98 (by rfl) (hP (-1) _ _ _ _ hG trivial)
        ·
          have c122 : x3.toInt = (0 : Int32).toInt := kd_neF c; clear c
          first | refine ft_go mi_k98 1 27 [(0, .ref 0), (1, .int x1), (2, .int x2), (3, .int x3)] [.int x2] i a q r (by rfl) ?_ | refine ko_steps mi_in98 1 _ (27, [(0, .ref 0), (1, .int x1), (2, .int x2), (3, .int x3)], [.int x2], (0, 0), ks i a q r) (by rfl) ?_
          refine ft_if mi_k98 (x2 != 0) 43 30 [(0, .ref 0), (1, .int x1), (2, .int x2), (3, .int x3)] [] (by rfl) (fun c => ?_) (fun c => ?_)
          ·
            have c123 : x2.toInt ≠ (0 : Int32).toInt := kd_ne c; clear c
            first | refine ft_go mi_k98 1 44 [(0, .ref 0), (1, .int x1), (2, .int x2), (3, .int x3)] [.int (-1)] i a q r (by rfl) ?_ | refine ko_steps mi_in98 1 _ (44, [(0, .ref 0), (1, .int x1), (2, .int x2), (3, .int x3)], [.int (-1)], (0, 0), ks i a q r) (by rfl) ?_
            exact ft_ret mi_k98 (by rfl) (hP (-1) _ _ _ _ hG trivial)
          ·
            have c124 : x2.toInt = (0 : Int32).toInt := kd_neF c; clear c
            first | refine ft_go mi_k98 2 32 [(0, .ref 0), (1, .int x1), (2, .int x2), (3, .int x3)] [.int 2, .int x3] i a q r (by rfl) ?_ | refine ko_steps mi_in98 2 _ (32, [(0, .ref 0), (1, .int x1), (2, .int x2), (3, .int x3)], [.int 2, .int x3], (0, 0), ks i a q r) (by rfl) ?_
            refine ft_if mi_k98 (decide (x3 < 2)) 45 35 [(0, .ref 0), (1, .int x1), (2, .int x2), (3, .int x3)] [] (by rfl) (fun c => ?_) (fun c => ?_)
            ·
              have c125 : x3.toInt < (2 : Int32).toInt := kd_lt c; clear c
              have s126 : (x1 / 10).toInt = (x1.toInt / 10) := kd_div 10 kn10 (by decide) (oz3 z2.1)
              first | refine ft_go mi_k98 4 50 [(0, .ref 0), (1, .int x1), (2, .int x2), (3, .int x3)] [.int (x1 / 10), .ref 0] i a q r (by rfl) ?_ | refine ko_steps mi_in98 4 _ (50, [(0, .ref 0), (1, .int x1), (2, .int x2), (3, .int x3)], [.int (x1 / 10), .ref 0], (0, 0), ks i a q r) (by rfl) ?_
              refine ko_callI mi_k98.1 (pc := 50) (ls := [(0, .ref 0), (1, .int x1), (2, .int x2), (3, .int x3)]) (st := [.int (x1 / 10), .ref 0]) (h := ks i a q r) (i := (.invokevirtual 144, 3, 129, 0, 9, 0, 208)) (mi_k98.2 _ _ (by rfl)) (ft_invS mi_pq129 (by rfl)) (cy := mi_c129) mi_pq129 rfl (kc129_0 hG.I hG.R (x1 / 10)) (by decide) ?_
              intro vg127 ig127 ag127 qg127 rg127 kg127 hg127
              have hGg127 := kG_call hG kg127 (by decide +kernel)
              first | refine ft_go mi_k98 2 57 [(4, .int vg127), (0, .ref 0), (1, .int x1), (2, .int x2), (3, .int x3)] [.int vg127] ig127 ag127 qg127 rg127 (by rfl) ?_ | refine ko_steps mi_in98 2 _ (57, [(4, .int vg127), (0, .ref 0), (1, .int x1), (2, .int x2), (3, .int x3)], [.int vg127], (0, 0), ks ig127 ag127 qg127 rg127) (by rfl) ?_
              refine ft_if mi_k98 (decide (0 ≤ vg127)) 63 60 [(4, .int vg127), (0, .ref 0), (1, .int x1), (2, .int x2), (3, .int x3)] [] (by rfl) (fun c => ?_) (fun c => ?_)
              ·
                have c129 : (0 : Int32).toInt ≤ vg127.toInt := kd_le c; clear c
                first | refine ft_go mi_k98 2 65 [(4, .int vg127), (0, .ref 0), (1, .int x1), (2, .int x2), (3, .int x3)] [.int 1, .int x3] ig127 ag127 qg127 rg127 (by rfl) ?_ | refine ko_steps mi_in98 2 _ (65, [(4, .int vg127), (0, .ref 0), (1, .int x1), (2, .int x2), (3, .int x3)], [.int 1, .int x3], (0, 0), ks ig127 ag127 qg127 rg127) (by rfl) ?_
                refine ft_if mi_k98 (x3 != 1) 81 68 [(4, .int vg127), (0, .ref 0), (1, .int x1), (2, .int x2), (3, .int x3)] [] (by rfl) (fun c => ?_) (fun c => ?_)
                ·
                  have c130 : x3.toInt ≠ (1 : Int32).toInt := kd_ne c; clear c
                  have s131 : (x1 - x1 / 10 * 10).toInt = (x1.toInt % 10) := kd_rem 10 kn10 (by decide) (oz3 z2.1)
                  first | refine ft_go mi_k98 4 86 [(4, .int vg127), (0, .ref 0), (1, .int x1), (2, .int x2), (3, .int x3)] [.int (x1 - x1 / 10 * 10), .ref 0] ig127 ag127 qg127 rg127 (by rfl) ?_ | refine ko_steps mi_in98 4 _ (86, [(4, .int vg127), (0, .ref 0), (1, .int x1), (2, .int x2), (3, .int x3)], [.int (x1 - x1 / 10 * 10), .ref 0], (0, 0), ks ig127 ag127 qg127 rg127) (by rfl) ?_
                  refine ko_callPI mi_k98.1 (pc := 86) (ls := [(4, .int vg127), (0, .ref 0), (1, .int x1), (2, .int x2), (3, .int x3)]) (st := [.int (x1 - x1 / 10 * 10), .ref 0]) (h := ks ig127 ag127 qg127 rg127) (i := (.invokevirtual 217, 3, 127, 0, 9, 0, 209)) (mi_k98.2 _ _ (by rfl)) (ft_invS mi_pq127 (by rfl)) (cy := mi_c127) mi_pq127 rfl (kc127_0 hGg127.I hGg127.R (x1 - x1 / 10 * 10)) (by decide) ?_
                  intro vg132 hg132
                  first | refine ft_go mi_k98 2 93 [(4, .int vg132), (0, .ref 0), (1, .int x1), (2, .int x2), (3, .int x3)] [.int vg132] ig127 ag127 qg127 rg127 (by rfl) ?_ | refine ko_steps mi_in98 2 _ (93, [(4, .int vg132), (0, .ref 0), (1, .int x1), (2, .int x2), (3, .int x3)], [.int vg132], (0, 0), ks ig127 ag127 qg127 rg127) (by rfl) ?_
                  refine ft_if mi_k98 (decide (0 ≤ vg132)) 99 96 [(4, .int vg132), (0, .ref 0), (1, .int x1), (2, .int x2), (3, .int x3)] [] (by rfl) (fun c => ?_) (fun c => ?_)
                  ·
                    have c134 : (0 : Int32).toInt ≤ vg132.toInt := kd_le c; clear c
                    first | refine ft_go mi_k98 5 107 [(4, .int vg132), (0, .ref 0), (1, .int x1), (2, .int x2), (3, .int x3)] [.int (x1 - x1 / 10 * 10), .ref 97] ig127 ag127 qg127 rg127 (by rfl) ?_ | refine ko_steps mi_in98 5 _ (107, [(4, .int vg132), (0, .ref 0), (1, .int x1), (2, .int x2), (3, .int x3)], [.int (x1 - x1 / 10 * 10), .ref 97], (0, 0), ks ig127 ag127 qg127 rg127) (by rfl) ?_
                    by_cases w135 : (x1 - x1 / 10 * 10).toInt = 0
                    ·
                      refine ft_alx mi_k98 (pc := 107) (v := 0) (p := 97) (z := 104) (kj_eq w135 (by decide) : (x1 - x1 / 10 * 10) = 0) (by decide +kernel) (by decide +kernel) ?_
                      first | refine ft_go mi_k98 2 111 [(5, .ref 104), (4, .int vg132), (0, .ref 0), (1, .int x1), (2, .int x2), (3, .int x3)] [.int x3] ig127 ag127 qg127 rg127 (by rfl) ?_ | refine ko_steps mi_in98 2 _ (111, [(5, .ref 104), (4, .int vg132), (0, .ref 0), (1, .int x1), (2, .int x2), (3, .int x3)], [.int x3], (0, 0), ks ig127 ag127 qg127 rg127) (by rfl) ?_
                      by_cases w136 : x3.toInt = 0
                      ·
                        refine ft_swx mi_k98 (pc := 111) (v := 0) (t := 136) (kj_eq w136 (by decide) : x3 = 0) (by decide +kernel) ?_
                        first | refine ft_go mi_k98 5 146 [(5, .ref 104), (4, .int vg132), (0, .ref 0), (1, .int x1), (2, .int x2), (3, .int x3)] [.ref 104, .ref 1, .ref 49] ig127 ag127 qg127 rg127 (by rfl) ?_ | refine ko_steps mi_in98 5 _ (146, [(5, .ref 104), (4, .int vg132), (0, .ref 0), (1, .int x1), (2, .int x2), (3, .int x3)], [.ref 104, .ref 1, .ref 49], (0, 0), ks ig127 ag127 qg127 rg127) (by rfl) ?_
                        refine ko_callI mi_k98.1 (pc := 146) (ls := [(5, .ref 104), (4, .int vg132), (0, .ref 0), (1, .int x1), (2, .int x2), (3, .int x3)]) (st := [.ref 104, .ref 1, .ref 49]) (h := ks ig127 ag127 qg127 rg127) (i := (.invokevirtual 224, 3, 74, 0, 9, 0, 264)) (mi_k98.2 _ _ (by rfl)) (ft_invS mi_pq74 (by rfl)) (cy := mi_c74) mi_pq74 rfl (kc74_49_1_104 hGg127.I hGg127.R ) (by decide) ?_
                        intro vg137 ig137 ag137 qg137 rg137 kg137 hg137
                        have hGg137 := kG_call hGg127 kg137 (by decide +kernel)
                        exact ft_ret mi_k98 (by rfl) (hP vg137 _ _ _ _ hGg137 trivial)
                      have w138 : ¬ (x3.toInt = 1) := (oz1194 c122 w136 z4.1 kn0)
                      have w139 : ¬ (x3.toInt = 2) := (oz1195 c122 w136 z4.1 kn0)
                      exact (oz1196 c122 w136 z4.1 kn0).elim
                    by_cases w140 : (x1 - x1 / 10 * 10).toInt = 1
                    ·
                      refine ft_alx mi_k98 (pc := 107) (v := 1) (p := 97) (z := 106) (kj_eq w140 (by decide) : (x1 - x1 / 10 * 10) = 1) (by decide +kernel) (by decide +kernel) ?_
                      first | refine ft_go mi_k98 2 111 [(5, .ref 106), (4, .int vg132), (0, .ref 0), (1, .int x1), (2, .int x2), (3, .int x3)] [.int x3] ig127 ag127 qg127 rg127 (by rfl) ?_ | refine ko_steps mi_in98 2 _ (111, [(5, .ref 106), (4, .int vg132), (0, .ref 0), (1, .int x1), (2, .int x2), (3, .int x3)], [.int x3], (0, 0), ks ig127 ag127 qg127 rg127) (by rfl) ?_
                      by_cases w141 : x3.toInt = 0
                      ·
                        refine ft_swx mi_k98 (pc := 111) (v := 0) (t := 136) (kj_eq w141 (by decide) : x3 = 0) (by decide +kernel) ?_
                        first | refine ft_go mi_k98 5 146 [(5, .ref 106), (4, .int vg132), (0, .ref 0), (1, .int x1), (2, .int x2), (3, .int x3)] [.ref 106, .ref 1, .ref 49] ig127 ag127 qg127 rg127 (by rfl) ?_ | refine ko_steps mi_in98 5 _ (146, [(5, .ref 106), (4, .int vg132), (0, .ref 0), (1, .int x1), (2, .int x2), (3, .int x3)], [.ref 106, .ref 1, .ref 49], (0, 0), ks ig127 ag127 qg127 rg127) (by rfl) ?_
                        refine ko_callI mi_k98.1 (pc := 146) (ls := [(5, .ref 106), (4, .int vg132), (0, .ref 0), (1, .int x1), (2, .int x2), (3, .int x3)]) (st := [.ref 106, .ref 1, .ref 49]) (h := ks ig127 ag127 qg127 rg127) (i := (.invokevirtual 224, 3, 74, 0, 9, 0, 264)) (mi_k98.2 _ _ (by rfl)) (ft_invS mi_pq74 (by rfl)) (cy := mi_c74) mi_pq74 rfl (kc74_49_1_106 hGg127.I hGg127.R ) (by decide) ?_
                        intro vg142 ig142 ag142 qg142 rg142 kg142 hg142
                        have hGg142 := kG_call hGg127 kg142 (by decide +kernel)
                        exact ft_ret mi_k98 (by rfl) (hP vg142 _ _ _ _ hGg142 trivial)
                      have w143 : ¬ (x3.toInt = 1) := (oz1194 c122 w141 z4.1 kn0)
                      have w144 : ¬ (x3.toInt = 2) := (oz1195 c122 w141 z4.1 kn0)
                      exact (oz1196 c122 w141 z4.1 kn0).elim
                    by_cases w145 : (x1 - x1 / 10 * 10).toInt = 2
                    ·
                      refine ft_alx mi_k98 (pc := 107) (v := 2) (p := 97) (z := 108) (kj_eq w145 (by decide) : (x1 - x1 / 10 * 10) = 2) (by decide +kernel) (by decide +kernel) ?_
                      first | refine ft_go mi_k98 2 111 [(5, .ref 108), (4, .int vg132), (0, .ref 0), (1, .int x1), (2, .int x2), (3, .int x3)] [.int x3] ig127 ag127 qg127 rg127 (by rfl) ?_ | refine ko_steps mi_in98 2 _ (111, [(5, .ref 108), (4, .int vg132), (0, .ref 0), (1, .int x1), (2, .int x2), (3, .int x3)], [.int x3], (0, 0), ks ig127 ag127 qg127 rg127) (by rfl) ?_
                      by_cases w146 : x3.toInt = 0
                      ·
                        refine ft_swx mi_k98 (pc := 111) (v := 0) (t := 136) (kj_eq w146 (by decide) : x3 = 0) (by decide +kernel) ?_
                        first | refine ft_go mi_k98 5 146 [(5, .ref 108), (4, .int vg132), (0, .ref 0), (1, .int x1), (2, .int x2), (3, .int x3)] [.ref 108, .ref 1, .ref 49] ig127 ag127 qg127 rg127 (by rfl) ?_ | refine ko_steps mi_in98 5 _ (146, [(5, .ref 108), (4, .int vg132), (0, .ref 0), (1, .int x1), (2, .int x2), (3, .int x3)], [.ref 108, .ref 1, .ref 49], (0, 0), ks ig127 ag127 qg127 rg127) (by rfl) ?_
                        refine ko_callI mi_k98.1 (pc := 146) (ls := [(5, .ref 108), (4, .int vg132), (0, .ref 0), (1, .int x1), (2, .int x2), (3, .int x3)]) (st := [.ref 108, .ref 1, .ref 49]) (h := ks ig127 ag127 qg127 rg127) (i := (.invokevirtual 224, 3, 74, 0, 9, 0, 264)) (mi_k98.2 _ _ (by rfl)) (ft_invS mi_pq74 (by rfl)) (cy := mi_c74) mi_pq74 rfl (kc74_49_1_108 hGg127.I hGg127.R ) (by decide) ?_
                        intro vg147 ig147 ag147 qg147 rg147 kg147 hg147
                        have hGg147 := kG_call hGg127 kg147 (by decide +kernel)
                        exact ft_ret mi_k98 (by rfl) (hP vg147 _ _ _ _ hGg147 trivial)
                      have w148 : ¬ (x3.toInt = 1) := (oz1194 c122 w146 z4.1 kn0)
                      have w149 : ¬ (x3.toInt = 2) := (oz1195 c122 w146 z4.1 kn0)
                      exact (oz1196 c122 w146 z4.1 kn0).elim
                    by_cases w150 : (x1 - x1 / 10 * 10).toInt = 3
                    ·
                      refine ft_alx mi_k98 (pc := 107) (v := 3) (p := 97) (z := 110) (kj_eq w150 (by decide) : (x1 - x1 / 10 * 10) = 3) (by decide +kernel) (by decide +kernel) ?_
                      first | refine ft_go mi_k98 2 111 [(5, .ref 110), (4, .int vg132), (0, .ref 0), (1, .int x1), (2, .int x2), (3, .int x3)] [.int x3] ig127 ag127 qg127 rg127 (by rfl) ?_ | refine ko_steps mi_in98 2 _ (111, [(5, .ref 110), (4, .int vg132), (0, .ref 0), (1, .int x1), (2, .int x2), (3, .int x3)], [.int x3], (0, 0), ks ig127 ag127 qg127 rg127) (by rfl) ?_
                      by_cases w151 : x3.toInt = 0
                      ·
                        refine ft_swx mi_k98 (pc := 111) (v := 0) (t := 136) (kj_eq w151 (by decide) : x3 = 0) (by decide +kernel) ?_
                        first | refine ft_go mi_k98 5 146 [(5, .ref 110), (4, .int vg132), (0, .ref 0), (1, .int x1), (2, .int x2), (3, .int x3)] [.ref 110, .ref 1, .ref 49] ig127 ag127 qg127 rg127 (by rfl) ?_ | refine ko_steps mi_in98 5 _ (146, [(5, .ref 110), (4, .int vg132), (0, .ref 0), (1, .int x1), (2, .int x2), (3, .int x3)], [.ref 110, .ref 1, .ref 49], (0, 0), ks ig127 ag127 qg127 rg127) (by rfl) ?_
                        refine ko_callI mi_k98.1 (pc := 146) (ls := [(5, .ref 110), (4, .int vg132), (0, .ref 0), (1, .int x1), (2, .int x2), (3, .int x3)]) (st := [.ref 110, .ref 1, .ref 49]) (h := ks ig127 ag127 qg127 rg127) (i := (.invokevirtual 224, 3, 74, 0, 9, 0, 264)) (mi_k98.2 _ _ (by rfl)) (ft_invS mi_pq74 (by rfl)) (cy := mi_c74) mi_pq74 rfl (kc74_49_1_110 hGg127.I hGg127.R ) (by decide) ?_
                        intro vg152 ig152 ag152 qg152 rg152 kg152 hg152
                        have hGg152 := kG_call hGg127 kg152 (by decide +kernel)
                        exact ft_ret mi_k98 (by rfl) (hP vg152 _ _ _ _ hGg152 trivial)
                      have w153 : ¬ (x3.toInt = 1) := (oz1194 c122 w151 z4.1 kn0)
                      have w154 : ¬ (x3.toInt = 2) := (oz1195 c122 w151 z4.1 kn0)
                      exact (oz1196 c122 w151 z4.1 kn0).elim
                    by_cases w155 : (x1 - x1 / 10 * 10).toInt = 4
                    ·
                      refine ft_alx mi_k98 (pc := 107) (v := 4) (p := 97) (z := 112) (kj_eq w155 (by decide) : (x1 - x1 / 10 * 10) = 4) (by decide +kernel) (by decide +kernel) ?_
                      first | refine ft_go mi_k98 2 111 [(5, .ref 112), (4, .int vg132), (0, .ref 0), (1, .int x1), (2, .int x2), (3, .int x3)] [.int x3] ig127 ag127 qg127 rg127 (by rfl) ?_ | refine ko_steps mi_in98 2 _ (111, [(5, .ref 112), (4, .int vg132), (0, .ref 0), (1, .int x1), (2, .int x2), (3, .int x3)], [.int x3], (0, 0), ks ig127 ag127 qg127 rg127) (by rfl) ?_
                      by_cases w156 : x3.toInt = 0
                      ·
                        refine ft_swx mi_k98 (pc := 111) (v := 0) (t := 136) (kj_eq w156 (by decide) : x3 = 0) (by decide +kernel) ?_
                        first | refine ft_go mi_k98 5 146 [(5, .ref 112), (4, .int vg132), (0, .ref 0), (1, .int x1), (2, .int x2), (3, .int x3)] [.ref 112, .ref 1, .ref 49] ig127 ag127 qg127 rg127 (by rfl) ?_ | refine ko_steps mi_in98 5 _ (146, [(5, .ref 112), (4, .int vg132), (0, .ref 0), (1, .int x1), (2, .int x2), (3, .int x3)], [.ref 112, .ref 1, .ref 49], (0, 0), ks ig127 ag127 qg127 rg127) (by rfl) ?_
                        refine ko_callI mi_k98.1 (pc := 146) (ls := [(5, .ref 112), (4, .int vg132), (0, .ref 0), (1, .int x1), (2, .int x2), (3, .int x3)]) (st := [.ref 112, .ref 1, .ref 49]) (h := ks ig127 ag127 qg127 rg127) (i := (.invokevirtual 224, 3, 74, 0, 9, 0, 264)) (mi_k98.2 _ _ (by rfl)) (ft_invS mi_pq74 (by rfl)) (cy := mi_c74) mi_pq74 rfl (kc74_49_1_112 hGg127.I hGg127.R ) (by decide) ?_
                        intro vg157 ig157 ag157 qg157 rg157 kg157 hg157
                        have hGg157 := kG_call hGg127 kg157 (by decide +kernel)
                        exact ft_ret mi_k98 (by rfl) (hP vg157 _ _ _ _ hGg157 trivial)
                      have w158 : ¬ (x3.toInt = 1) := (oz1194 c122 w156 z4.1 kn0)
                      have w159 : ¬ (x3.toInt = 2) := (oz1195 c122 w156 z4.1 kn0)
                      exact (oz1196 c122 w156 z4.1 kn0).elim
                    by_cases w160 : (x1 - x1 / 10 * 10).toInt = 5
                    ·
                      refine ft_alx mi_k98 (pc := 107) (v := 5) (p := 97) (z := 114) (kj_eq w160 (by decide) : (x1 - x1 / 10 * 10) = 5) (by decide +kernel) (by decide +kernel) ?_
                      first | refine ft_go mi_k98 2 111 [(5, .ref 114), (4, .int vg132), (0, .ref 0), (1, .int x1), (2, .int x2), (3, .int x3)] [.int x3] ig127 ag127 qg127 rg127 (by rfl) ?_ | refine ko_steps mi_in98 2 _ (111, [(5, .ref 114), (4, .int vg132), (0, .ref 0), (1, .int x1), (2, .int x2), (3, .int x3)], [.int x3], (0, 0), ks ig127 ag127 qg127 rg127) (by rfl) ?_
                      by_cases w161 : x3.toInt = 0
                      ·
                        refine ft_swx mi_k98 (pc := 111) (v := 0) (t := 136) (kj_eq w161 (by decide) : x3 = 0) (by decide +kernel) ?_
                        first | refine ft_go mi_k98 5 146 [(5, .ref 114), (4, .int vg132), (0, .ref 0), (1, .int x1), (2, .int x2), (3, .int x3)] [.ref 114, .ref 1, .ref 49] ig127 ag127 qg127 rg127 (by rfl) ?_ | refine ko_steps mi_in98 5 _ (146, [(5, .ref 114), (4, .int vg132), (0, .ref 0), (1, .int x1), (2, .int x2), (3, .int x3)], [.ref 114, .ref 1, .ref 49], (0, 0), ks ig127 ag127 qg127 rg127) (by rfl) ?_
                        refine ko_callI mi_k98.1 (pc := 146) (ls := [(5, .ref 114), (4, .int vg132), (0, .ref 0), (1, .int x1), (2, .int x2), (3, .int x3)]) (st := [.ref 114, .ref 1, .ref 49]) (h := ks ig127 ag127 qg127 rg127) (i := (.invokevirtual 224, 3, 74, 0, 9, 0, 264)) (mi_k98.2 _ _ (by rfl)) (ft_invS mi_pq74 (by rfl)) (cy := mi_c74) mi_pq74 rfl (kc74_49_1_114 hGg127.I hGg127.R ) (by decide) ?_
                        intro vg162 ig162 ag162 qg162 rg162 kg162 hg162
                        have hGg162 := kG_call hGg127 kg162 (by decide +kernel)
                        exact ft_ret mi_k98 (by rfl) (hP vg162 _ _ _ _ hGg162 trivial)
                      have w163 : ¬ (x3.toInt = 1) := (oz1194 c122 w161 z4.1 kn0)
                      have w164 : ¬ (x3.toInt = 2) := (oz1195 c122 w161 z4.1 kn0)
                      exact (oz1196 c122 w161 z4.1 kn0).elim
                    exact (oz1172 s131 w135 w140 w145 w150 w155 w160 z2.2.2).elim
                  ·
                    have c165 : vg132.toInt < (0 : Int32).toInt := kd_leF c; clear c
                    first | refine ft_go mi_k98 1 98 [(4, .int vg132), (0, .ref 0), (1, .int x1), (2, .int x2), (3, .int x3)] [.int vg132] ig127 ag127 qg127 rg127 (by rfl) ?_ | refine ko_steps mi_in98 1 _ (98, [(4, .int vg132), (0, .ref 0), (1, .int x1), (2, .int x2), (3, .int x3)], [.int vg132], (0, 0), ks ig127 ag127 qg127 rg127) (by rfl) ?_
                    exact ft_ret mi_k98 (by rfl) (hP vg132 _ _ _ _ hGg127 trivial)
                ·
                  have c166 : x3.toInt = (1 : Int32).toInt := kd_neF c; clear c
                  exact (oz533 c122 c166 kn0 kn1).elim
              ·
                have c167 : vg127.toInt < (0 : Int32).toInt := kd_leF c; clear c
                first | refine ft_go mi_k98 1 62 [(4, .int vg127), (0, .ref 0), (1, .int x1), (2, .int x2), (3, .int x3)] [.int vg127] ig127 ag127 qg127 rg127 (by rfl) ?_ | refine ko_steps mi_in98 1 _ (62, [(4, .int vg127), (0, .ref 0), (1, .int x1), (2, .int x2), (3, .int x3)], [.int vg127], (0, 0), ks ig127 ag127 qg127 rg127) (by rfl) ?_
                exact ft_ret mi_k98 (by rfl) (hP vg127 _ _ _ _ hGg127 trivial)
            ·
              have c168 : (2 : Int32).toInt ≤ x3.toInt := kd_ltF c; clear c
              exact (oz1197 c122 c168 kn0 kn2).elim
      ·
        have c169 : x2.toInt < (0 : Int32).toInt := kd_leF c; clear c
        first | refine ft_go mi_k98 1 21 [(0, .ref 0), (1, .int x1), (2, .int x2), (3, .int x3)] [.int (-1)] i a q r (by rfl) ?_ | refine ko_steps mi_in98 1 _ (21, [(0, .ref 0), (1, .int x1), (2, .int x2), (3, .int x3)], [.int (-1)], (0, 0), ks i a q r) (by rfl) ?_
        exact ft_ret mi_k98 (by rfl) (hP (-1) _ _ _ _ hG trivial)
    ·
      subst eg3
      first | refine ft_go mi_k98 2 21 [(0, .ref 0), (1, .int x1), (2, .int x2), (3, .int x3)] [.int (-1)] i a q r (by rfl) ?_ | refine ko_steps mi_in98 2 _ (21, [(0, .ref 0), (1, .int x1), (2, .int x2), (3, .int x3)], [.int (-1)], (0, 0), ks i a q r) (by rfl) ?_
      exact ft_ret mi_k98 (by rfl) (hP (-1) _ _ _ _ hG trivial)
  ·
    subst eg1
    first | refine ft_go mi_k98 2 21 [(0, .ref 0), (1, .int x1), (2, .int x2), (3, .int x3)] [.int (-1)] i a q r (by rfl) ?_ | refine ko_steps mi_in98 2 _ (21, [(0, .ref 0), (1, .int x1), (2, .int x2), (3, .int x3)], [.int (-1)], (0, 0), ks i a q r) (by rfl) ?_
    exact ft_ret mi_k98 (by rfl) (hP (-1) _ _ _ _ hG trivial)
def w78_49_1 : kW := ([645, 3200, 3206, 3207, 3208, 3209, 3214, 3215, 3216, 3586, 3781, 6405], [13, 51, 52, 53, 54, 55, 57, 58, 62, 63, 65, 66, 67, 68, 69, 70, 71, 72, 73, 103], [], [1])
def w78_49_1_L14 : kW := ([645, 3208, 3209, 3214, 3215, 3216, 3586, 3781, 6405], [13, 51, 55, 57, 58, 62, 63, 65, 66, 67, 68, 69, 70, 71, 72, 73, 103], [], [])
set_option maxRecDepth 100000 in
theorem kc78_49_1 {i : Nat → Int32} {a : Nat → List Int32} {q : Nat → List Int64} {r : Nat → Nat} (hI : kI i a q) (hr : kr r) (x2 : Int32) (x3 : Int32) (x4 : Int32) (hp0 : x3.toInt ≤ 99) : km 9 78 [.ref 49, .ref 1, .int x2, .int x3, .int x4] (ks i a q r) (kVI w78_49_1 i a q r (fun v i1 a1 q1 r1 => True)) := by
  have hG := kG_self w78_49_1 hI hr
  refine km_ofI (q := (mi_h78, mi_c78)) rfl (by decide) (Nat.le_of_ble_eq_true rfl) ?_
  intro P hP
  refine ft_go mi_k78 3 5 [(0, .ref 49), (1, .ref 1), (2, .int x2), (3, .int x3), (4, .int x4)] [.ref 1, .ref 50] i a q r (by rfl) ?_
  refine ko_callN mi_k78.1 (pc := 5) (ls := [(0, .ref 49), (1, .ref 1), (2, .int x2), (3, .int x3), (4, .int x4)]) (st := [.ref 1, .ref 50]) (h := ks i a q r) (i := (.invokevirtual 56, 3, 34, 0, 9, 0, 212)) (mi_k78.2 _ _ (by rfl)) (ft_invS mi_pq34 (by rfl)) (cy := mi_c34) mi_pq34 rfl (kc34_50_1 hG.I hG.R ) (by decide) ?_
  intro ig1 ag1 qg1 rg1 kg1 hg1
  have hGg1 := kG_call hG kg1 (by decide +kernel)
  refine ft_go mi_k78 4 14 [(6, .int 0), (5, .int x2), (0, .ref 49), (1, .ref 1), (2, .int x2), (3, .int x3), (4, .int x4)] [] ig1 ag1 qg1 rg1 (by rfl) ?_
  have lp2 : ∀ (nz : Nat) (i2 : Nat → Int32) (a2 : Nat → List Int32) (q2 : Nat → List Int64) (r2 : Nat → Nat) (l6_2 : Int32) (l5_2 : Int32), kG w78_49_1_L14 ig1 ag1 qg1 rg1 i2 a2 q2 r2 → (0 : Int) ≤ l6_2.toInt → ((x3.toInt - l6_2.toInt)).toNat < nz → ko 9 (mi_h78, mi_c78) P (14, [(6, .int l6_2), (5, .int l5_2), (0, .ref 49), (1, .ref 1), (2, .int x2), (3, .int x3), (4, .int x4)], [], (0, 0), ks i2 a2 q2 r2) := by
    intro nz
    induction nz with
    | zero =>
      intro _ _ _ _ _ _ _ _ hm
      exact absurd hm (Nat.not_lt_zero _)
    | succ nz ih2 =>
      intro i2 a2 q2 r2 l6_2 l5_2 hL2 p2_0 hm2
      refine ft_go mi_k78 2 17 [(6, .int l6_2), (5, .int l5_2), (0, .ref 49), (1, .ref 1), (2, .int x2), (3, .int x3), (4, .int x4)] [.int x3, .int l6_2] i2 a2 q2 r2 (by rfl) ?_
      refine ft_if mi_k78 (decide (x3 ≤ l6_2)) 82 20 [(6, .int l6_2), (5, .int l5_2), (0, .ref 49), (1, .ref 1), (2, .int x2), (3, .int x3), (4, .int x4)] [] (by rfl) (fun c => ?_) (fun c => ?_)
      ·
        have c3 : x3.toInt ≤ l6_2.toInt := kd_le c; clear c
        have hG4 := kG_call hGg1 hL2 (by decide +kernel)
        refine ft_go mi_k78 1 84 [(6, .int l6_2), (5, .int l5_2), (0, .ref 49), (1, .ref 1), (2, .int x2), (3, .int x3), (4, .int x4)] [.int l5_2] i2 a2 q2 r2 (by rfl) ?_
        exact ft_ret mi_k78 (by rfl) (hP l5_2 _ _ _ _ hG4 trivial)
      ·
        have c5 : l6_2.toInt < x3.toInt := kd_leF c; clear c
        refine ft_go mi_k78 2 24 [(6, .int l6_2), (5, .int l5_2), (0, .ref 49), (1, .ref 1), (2, .int x2), (3, .int x3), (4, .int x4)] [.int (i2 64)] i2 a2 q2 r2 (by rfl) ?_
        refine ft_if mi_k78 (decide ((i2 64) ≤ 0)) 82 27 [(6, .int l6_2), (5, .int l5_2), (0, .ref 49), (1, .ref 1), (2, .int x2), (3, .int x3), (4, .int x4)] [] (by rfl) (fun c => ?_) (fun c => ?_)
        ·
          have c6 : (i2 64).toInt ≤ (0 : Int32).toInt := kd_le c; clear c
          have hG7 := kG_call hGg1 hL2 (by decide +kernel)
          refine ft_go mi_k78 1 84 [(6, .int l6_2), (5, .int l5_2), (0, .ref 49), (1, .ref 1), (2, .int x2), (3, .int x3), (4, .int x4)] [.int l5_2] i2 a2 q2 r2 (by rfl) ?_
          exact ft_ret mi_k78 (by rfl) (hP l5_2 _ _ _ _ hG7 trivial)
        ·
          have c8 : (0 : Int32).toInt < (i2 64).toInt := kd_leF c; clear c
          have b9 : ((-2147483648 : Int) ≤ l5_2.toInt) ∧ (l5_2.toInt ≤ 2147483647) := kd_bd l5_2
          have b10 : ((-2147483648 : Int) ≤ (l5_2 * 1103515245).toInt) ∧ ((l5_2 * 1103515245).toInt ≤ 2147483647) := kd_bd (l5_2 * 1103515245)
          have s11 : (0 : Int) ≤ ((((l5_2 * 1103515245) + 12345).toUInt32 >>> ((16 : Int32).toUInt32 &&& Int32.toUInt32 31)).toInt32).toInt := kd_ushr 16 (by decide) (by decide) (by decide)
          have s12 : (((((l5_2 * 1103515245) + 12345).toUInt32 >>> ((16 : Int32).toUInt32 &&& Int32.toUInt32 31)).toInt32) - ((((l5_2 * 1103515245) + 12345).toUInt32 >>> ((16 : Int32).toUInt32 &&& Int32.toUInt32 31)).toInt32) / 12 * 12).toInt = (((((l5_2 * 1103515245) + 12345).toUInt32 >>> ((16 : Int32).toUInt32 &&& Int32.toUInt32 31)).toInt32).toInt % 12) := kd_rem 12 kn12 (by decide) (oz3 s11)
          refine ft_go mi_k78 12 48 [(5, .int ((l5_2 * 1103515245) + 12345)), (6, .int l6_2), (0, .ref 49), (1, .ref 1), (2, .int x2), (3, .int x3), (4, .int x4)] [.int x4, .int (((((l5_2 * 1103515245) + 12345).toUInt32 >>> ((16 : Int32).toUInt32 &&& Int32.toUInt32 31)).toInt32) - ((((l5_2 * 1103515245) + 12345).toUInt32 >>> ((16 : Int32).toUInt32 &&& Int32.toUInt32 31)).toInt32) / 12 * 12)] i2 a2 q2 r2 (by rfl) ?_
          refine ft_if mi_k78 (decide (x4 ≤ (((((l5_2 * 1103515245) + 12345).toUInt32 >>> ((16 : Int32).toUInt32 &&& Int32.toUInt32 31)).toInt32) - ((((l5_2 * 1103515245) + 12345).toUInt32 >>> ((16 : Int32).toUInt32 &&& Int32.toUInt32 31)).toInt32) / 12 * 12))) 58 51 [(5, .int ((l5_2 * 1103515245) + 12345)), (6, .int l6_2), (0, .ref 49), (1, .ref 1), (2, .int x2), (3, .int x3), (4, .int x4)] [] (by rfl) (fun c => ?_) (fun c => ?_)
          ·
            have c13 : x4.toInt ≤ (((((l5_2 * 1103515245) + 12345).toUInt32 >>> ((16 : Int32).toUInt32 &&& Int32.toUInt32 31)).toInt32) - ((((l5_2 * 1103515245) + 12345).toUInt32 >>> ((16 : Int32).toUInt32 &&& Int32.toUInt32 31)).toInt32) / 12 * 12).toInt := kd_le c; clear c
            have s14 : (0 : Int) ≤ ((((l5_2 * 1103515245) + 12345).toUInt32 >>> ((8 : Int32).toUInt32 &&& Int32.toUInt32 31)).toInt32).toInt := kd_ushr 8 (by decide) (by decide) (by decide)
            refine ft_go mi_k78 7 71 [(5, .int ((l5_2 * 1103515245) + 12345)), (6, .int l6_2), (0, .ref 49), (1, .ref 1), (2, .int x2), (3, .int x3), (4, .int x4)] [.int (i2 64), .int ((((l5_2 * 1103515245) + 12345).toUInt32 >>> ((8 : Int32).toUInt32 &&& Int32.toUInt32 31)).toInt32), .ref 50] i2 a2 q2 r2 (by rfl) ?_
            have s15 : ((0 : Int) ≤ (((((l5_2 * 1103515245) + 12345).toUInt32 >>> ((8 : Int32).toUInt32 &&& Int32.toUInt32 31)).toInt32) - ((((l5_2 * 1103515245) + 12345).toUInt32 >>> ((8 : Int32).toUInt32 &&& Int32.toUInt32 31)).toInt32) / (i2 64) * (i2 64)).toInt) ∧ ((((((l5_2 * 1103515245) + 12345).toUInt32 >>> ((8 : Int32).toUInt32 &&& Int32.toUInt32 31)).toInt32) - ((((l5_2 * 1103515245) + 12345).toUInt32 >>> ((8 : Int32).toUInt32 &&& Int32.toUInt32 31)).toInt32) / (i2 64) * (i2 64)).toInt < (i2 64).toInt) := kd_remv (oz659 c8 kn0) (oz3 s14)
            refine ko_irem mi_k78.1 (ax := (0, 0, 0, 0, 0)) (mi_k78.2 _ _ (by rfl)) (oz1230 c8 kn0) ?_
            refine ko_callI mi_k78.1 (pc := 72) (ls := [(5, .int ((l5_2 * 1103515245) + 12345)), (6, .int l6_2), (0, .ref 49), (1, .ref 1), (2, .int x2), (3, .int x3), (4, .int x4)]) (st := [.int (((((l5_2 * 1103515245) + 12345).toUInt32 >>> ((8 : Int32).toUInt32 &&& Int32.toUInt32 31)).toInt32) - ((((l5_2 * 1103515245) + 12345).toUInt32 >>> ((8 : Int32).toUInt32 &&& Int32.toUInt32 31)).toInt32) / (i2 64) * (i2 64)), .ref 50]) (h := ks i2 a2 q2 r2) (i := (.invokevirtual 63, 3, 29, 0, 9, 0, 220)) (mi_k78.2 _ _ (by rfl)) (ft_invS mi_pq29 (by rfl)) (cy := mi_c29) mi_pq29 rfl (kc29_50 hL2.I hL2.R (((((l5_2 * 1103515245) + 12345).toUInt32 >>> ((8 : Int32).toUInt32 &&& Int32.toUInt32 31)).toInt32) - ((((l5_2 * 1103515245) + 12345).toUInt32 >>> ((8 : Int32).toUInt32 &&& Int32.toUInt32 31)).toInt32) / (i2 64) * (i2 64))) (by decide) ?_
            intro vg16 ig16 ag16 qg16 rg16 kg16 hg16
            have hGg16 := kG_call hL2 kg16 (by decide +kernel)
            have s17 : (l6_2 + 1).toInt = l6_2.toInt + (1 : Int32).toInt := kd_add (oz12 p2_0 kn1) (oz1231 c5 hp0 kn1)
            refine ft_go mi_k78 3 14 [(6, .int (l6_2 + 1)), (5, .int ((l5_2 * 1103515245) + 12345)), (0, .ref 49), (1, .ref 1), (2, .int x2), (3, .int x3), (4, .int x4)] [] ig16 ag16 qg16 rg16 (by rfl) ?_
            exact ih2 _ _ _ _ _ _ hGg16 (oz14 p2_0 s17 kn1) (kj_meas (oz44 s17 kn1) (oz45 c5) hm2)
          ·
            have c18 : (((((l5_2 * 1103515245) + 12345).toUInt32 >>> ((16 : Int32).toUInt32 &&& Int32.toUInt32 31)).toInt32) - ((((l5_2 * 1103515245) + 12345).toUInt32 >>> ((16 : Int32).toUInt32 &&& Int32.toUInt32 31)).toInt32) / 12 * 12).toInt < x4.toInt := kd_leF c; clear c
            refine ft_go mi_k78 2 55 [(5, .int ((l5_2 * 1103515245) + 12345)), (6, .int l6_2), (0, .ref 49), (1, .ref 1), (2, .int x2), (3, .int x3), (4, .int x4)] [.ref 50] i2 a2 q2 r2 (by rfl) ?_
            refine ko_callN mi_k78.1 (pc := 55) (ls := [(5, .int ((l5_2 * 1103515245) + 12345)), (6, .int l6_2), (0, .ref 49), (1, .ref 1), (2, .int x2), (3, .int x3), (4, .int x4)]) (st := [.ref 50]) (h := ks i2 a2 q2 r2) (i := (.invokevirtual 72, 3, 32, 0, 9, 0, 232)) (mi_k78.2 _ _ (by rfl)) (ft_invS mi_pq32 (by rfl)) (cy := mi_c32) mi_pq32 rfl (kc32_50 hL2.I hL2.R ) (by decide) ?_
            intro ig19 ag19 qg19 rg19 kg19 hg19
            have hGg19 := kG_call hL2 kg19 (by decide +kernel)
            have s20 : (0 : Int) ≤ ((((l5_2 * 1103515245) + 12345).toUInt32 >>> ((8 : Int32).toUInt32 &&& Int32.toUInt32 31)).toInt32).toInt := kd_ushr 8 (by decide) (by decide) (by decide)
            have efig19_64 : (ig19 64).toInt = (i2 64).toInt := kg19.ti 64 rfl
            refine ft_go mi_k78 7 71 [(5, .int ((l5_2 * 1103515245) + 12345)), (6, .int l6_2), (0, .ref 49), (1, .ref 1), (2, .int x2), (3, .int x3), (4, .int x4)] [.int (ig19 64), .int ((((l5_2 * 1103515245) + 12345).toUInt32 >>> ((8 : Int32).toUInt32 &&& Int32.toUInt32 31)).toInt32), .ref 50] ig19 ag19 qg19 rg19 (by rfl) ?_
            have s21 : ((0 : Int) ≤ (((((l5_2 * 1103515245) + 12345).toUInt32 >>> ((8 : Int32).toUInt32 &&& Int32.toUInt32 31)).toInt32) - ((((l5_2 * 1103515245) + 12345).toUInt32 >>> ((8 : Int32).toUInt32 &&& Int32.toUInt32 31)).toInt32) / (ig19 64) * (ig19 64)).toInt) ∧ ((((((l5_2 * 1103515245) + 12345).toUInt32 >>> ((8 : Int32).toUInt32 &&& Int32.toUInt32 31)).toInt32) - ((((l5_2 * 1103515245) + 12345).toUInt32 >>> ((8 : Int32).toUInt32 &&& Int32.toUInt32 31)).toInt32) / (ig19 64) * (ig19 64)).toInt < (ig19 64).toInt) := kd_remv (oz540 c8 efig19_64 kn0) (oz3 s20)
            refine ko_irem mi_k78.1 (ax := (0, 0, 0, 0, 0)) (mi_k78.2 _ _ (by rfl)) (oz539 c8 efig19_64 kn0) ?_
            refine ko_callI mi_k78.1 (pc := 72) (ls := [(5, .int ((l5_2 * 1103515245) + 12345)), (6, .int l6_2), (0, .ref 49), (1, .ref 1), (2, .int x2), (3, .int x3), (4, .int x4)]) (st := [.int (((((l5_2 * 1103515245) + 12345).toUInt32 >>> ((8 : Int32).toUInt32 &&& Int32.toUInt32 31)).toInt32) - ((((l5_2 * 1103515245) + 12345).toUInt32 >>> ((8 : Int32).toUInt32 &&& Int32.toUInt32 31)).toInt32) / (ig19 64) * (ig19 64)), .ref 50]) (h := ks ig19 ag19 qg19 rg19) (i := (.invokevirtual 63, 3, 29, 0, 9, 0, 220)) (mi_k78.2 _ _ (by rfl)) (ft_invS mi_pq29 (by rfl)) (cy := mi_c29) mi_pq29 rfl (kc29_50 hGg19.I hGg19.R (((((l5_2 * 1103515245) + 12345).toUInt32 >>> ((8 : Int32).toUInt32 &&& Int32.toUInt32 31)).toInt32) - ((((l5_2 * 1103515245) + 12345).toUInt32 >>> ((8 : Int32).toUInt32 &&& Int32.toUInt32 31)).toInt32) / (ig19 64) * (ig19 64))) (by decide) ?_
            intro vg22 ig22 ag22 qg22 rg22 kg22 hg22
            have hGg22 := kG_call hGg19 kg22 (by decide +kernel)
            have s23 : (l6_2 + 1).toInt = l6_2.toInt + (1 : Int32).toInt := kd_add (oz12 p2_0 kn1) (oz1231 c5 hp0 kn1)
            refine ft_go mi_k78 3 14 [(6, .int (l6_2 + 1)), (5, .int ((l5_2 * 1103515245) + 12345)), (0, .ref 49), (1, .ref 1), (2, .int x2), (3, .int x3), (4, .int x4)] [] ig22 ag22 qg22 rg22 (by rfl) ?_
            exact ih2 _ _ _ _ _ _ hGg22 (oz14 p2_0 s23 kn1) (kj_meas (oz44 s23 kn1) (oz45 c5) hm2)
  exact lp2 _ _ _ _ _ _ _ (kG_self _ hGg1.I hGg1.R) (oz46 kn0) (Nat.lt_succ_self _)

