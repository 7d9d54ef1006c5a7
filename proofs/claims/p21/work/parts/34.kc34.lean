section
theorem kn32 : (32 : Int32).toInt = 32 := by decide
theorem oz1170 {a0 a1 : Int} (h0 : a0 ≠ a1) (h1 : a1 ≤ a0) (h2 : (a0 < 0) ∨ (a0 = 0)) (h3 : a1 = 0) : False := by omega
theorem oz1172 {a0 a1 : Int} (h0 : a0 = (a1 % 10)) (h1 : ¬ (a0 = 0)) (h2 : ¬ (a0 = 1)) (h3 : ¬ (a0 = 2)) (h4 : ¬ (a0 = 3)) (h5 : ¬ (a0 = 4)) (h6 : ¬ (a0 = 5)) (h7 : (a1 % 10) ≤ 5) : False := by omega
theorem oz1173 {a0 a1 a2 a3 : Int} (h0 : a0 ≠ a1) (h1 : a0 ≠ a2) (h2 : a0 < a3) (h3 : a2 ≤ a0) (h4 : a1 = 1) (h5 : a2 = 0) (h6 : a3 = 2) : False := by omega
theorem oz1174 {a0 a1 : Int} (h0 : a0 = a1) (h1 : a1 = 1) : ¬ (a0 = 0) := by omega
theorem oz1175 {a0 a1 a2 a3 a4 a5 : Int} (h0 : a0 = a1) (h1 : a2 = a0) (h2 : a3 = a4 + a5) (h3 : a5 = 1) : (a2 - a3) < (a1 - a4) := by omega
theorem oz1176 {a0 a1 a2 : Int} (h0 : a0 < a1) (h1 : a2 ≤ a0) (h2 : a1 ≤ 20) (h3 : a2 = 0) : ((0 : Int) ≤ a0) ∧ (a0 ≤ 19) := by omega
theorem oz1177 {a0 a1 a2 : Int} (h0 : a0 = a1) (h1 : a0 < a2) (h2 : ¬ (a0 = 1)) (h3 : a1 = 1) (h4 : a2 = 2) : ¬ (a0 = 2) := by omega
theorem oz1178 {a0 a1 a2 : Int} (h0 : a0 = a1) (h1 : a0 < a2) (h2 : ¬ (a0 = 1)) (h3 : a1 = 1) (h4 : a2 = 2) : False := by omega
theorem oz1179 {a0 a1 : Int} (h0 : a0 ≤ a1) (h1 : a0 = 2) : ¬ (a1 = 0) := by omega
theorem oz1180 {a0 a1 : Int} (h0 : a0 ≤ a1) (h1 : a0 = 2) : ¬ (a1 = 1) := by omega
theorem oz1181 {a0 : Int} (h0 : a0 = 1) : a0 < 7 := by omega
theorem oz1182 {a0 a1 a2 : Int} (h0 : a0 ≤ a1) (h1 : a1 ≤ 999) (h2 : a2 = 1) : a0 + a2 ≤ 2147483647 := by omega
theorem oz1183 {a0 a1 a2 : Int} (h0 : a0 = a1 + a2) (h1 : a2 = 1) : (1001 - a0) < (1001 - a1) := by omega
theorem oz1184 {a0 a1 : Int} (h0 : a0 ≤ a1) (h1 : a1 ≤ 999) : (1 : Int) ≤ (1001 - a0) := by omega
theorem oz1185 {a0 a1 a2 : Int} (h0 : a0 < a1) (h1 : a1 = 32) (h2 : a2 = 1) : a0 + a2 ≤ 2147483647 := by omega
theorem oz1186 {a0 a1 a2 : Int} (h0 : a0 = a1 + a2) (h1 : a2 = 1) : (32 - a0) < (32 - a1) := by omega
theorem oz1187 {a0 a1 : Int} (h0 : a0 < a1) (h1 : a1 = 32) : (1 : Int) ≤ (32 - a0) := by omega
theorem oz1188 {a0 a1 : Int} (h0 : a0 = (a1 % 10)) (h1 : ¬ (a0 = 4)) (h2 : ¬ (a0 = 5)) (h3 : ¬ (a0 = 0)) (h4 : ¬ (a0 = 1)) (h5 : ¬ (a0 = 2)) (h6 : ¬ (a0 = 3)) (h7 : (a1 % 10) ≤ 5) : False := by omega
theorem oz1189 {a0 a1 a2 : Int} (h0 : a0 = a1) (h1 : a2 ≤ a0) (h2 : a1 = 1) (h3 : a2 = 2) : False := by omega
theorem oz1190 {a0 a1 a2 : Int} (h0 : a0 ≤ a1) (h1 : a1 = 5) (h2 : a2 = 1) : a0 + a2 ≤ 2147483647 := by omega
theorem oz1191 {a0 a1 : Int} (h0 : a0 ≤ a1) (h1 : a1 = 5) : (1 : Int) ≤ (6 - a0) := by omega
theorem oz1192 {a0 a1 : Int} (h0 : a0 ≤ a1) (h1 : a1 = 5) : a0 ≤ 8 := by omega
theorem oz1193 {a0 a1 : Int} (h0 : a0 ≤ a1) (h1 : a1 = 5) : a0 ≤ 5 := by omega
theorem oz1194 {a0 a1 : Int} (h0 : a0 = a1) (h1 : ¬ (a0 = 0)) (h2 : a1 ≤ a0) (h3 : a1 = 0) : ¬ (a0 = 1) := by omega
theorem oz1195 {a0 a1 : Int} (h0 : a0 = a1) (h1 : ¬ (a0 = 0)) (h2 : a1 ≤ a0) (h3 : a1 = 0) : ¬ (a0 = 2) := by omega
theorem oz1196 {a0 a1 : Int} (h0 : a0 = a1) (h1 : ¬ (a0 = 0)) (h2 : a1 ≤ a0) (h3 : a1 = 0) : False := by omega
theorem oz1197 {a0 a1 a2 : Int} (h0 : a0 = a1) (h1 : a2 ≤ a0) (h2 : a1 = 0) (h3 : a2 = 2) : False := by omega
theorem oz1198 {a0 : Int} (h0 : a0 ≤ 5) : a0 ≤ 8 := by omega
theorem oz1199 {a0 a1 : Int} (h0 : a0 < a1) (h1 : a0 = 0) : (0 : Int) ≤ a1 := by omega
theorem oz1200 {a0 : Int} (h0 : a0 ≤ 4) : a0 ≤ 8 := by omega
theorem oz1201 {a0 : Int} (h0 : a0 ≤ 4) : a0 ≤ 4 := by omega
theorem oz1202 {a0 a1 a2 : Int} (h0 : a0 < a1) (h1 : a0 = 0) (h2 : a2 = (-1)) : (-2147483648 : Int) ≤ a1 + a2 := by omega
theorem oz1203 {a0 a1 : Int} (h0 : a0 ≤ 4) (h1 : a1 = (-1)) : a0 + a1 ≤ 2147483647 := by omega
theorem oz1204 {a0 a1 a2 : Int} (h0 : a0 ≤ 4) (h1 : a1 = a0 + a2) (h2 : a2 = (-1)) : a1 ≤ 4 := by omega
theorem oz1205 {a0 a1 a2 : Int} (h0 : a0 = a1 + a2) (h1 : a2 = (-1)) : a0 < a1 := by omega
theorem oz1206 {a0 : Int} (h0 : (0 : Int) ≤ a0) : (-2147483648 : Int) ≤ 2 * a0 := by omega
theorem oz1207 {a0 a1 : Int} (h0 : a0 < a1) (h1 : a1 ≤ 256) : 2 * a0 ≤ 2147483647 := by omega
theorem oz1208 {a0 a1 : Int} (h0 : (0 : Int) ≤ a0) (h1 : a1 = 2 * a0) : (0 : Int) ≤ a1 := by omega
theorem oz1209 {a0 a1 a2 : Int} (h0 : a0 < a1) (h1 : a1 ≤ 16) (h2 : a2 = 2 * a0) : a2 < 32 := by omega
theorem oz1210 {a0 a1 a2 : Int} (h0 : (0 : Int) ≤ a0) (h1 : a1 = 2 * a0) (h2 : a2 = 1) : (-2147483648 : Int) ≤ a1 + a2 := by omega
theorem oz1211 {a0 a1 a2 a3 : Int} (h0 : a0 < a1) (h1 : a1 ≤ 256) (h2 : a2 = 2 * a0) (h3 : a3 = 1) : a2 + a3 ≤ 2147483647 := by omega
theorem oz1212 {a0 a1 a2 a3 : Int} (h0 : (0 : Int) ≤ a0) (h1 : a1 = 2 * a0) (h2 : a2 = a1 + a3) (h3 : a3 = 1) : (0 : Int) ≤ a2 := by omega
theorem oz1213 {a0 a1 a2 a3 a4 : Int} (h0 : a0 < a1) (h1 : a1 ≤ 16) (h2 : a2 = 2 * a0) (h3 : a3 = a2 + a4) (h4 : a4 = 1) : a3 < 32 := by omega
theorem oz1214 {a0 a1 : Int} (h0 : a0 < a1) (h1 : a1 ≤ 16) : a0 < 32 := by omega
theorem oz1215 {a0 a1 a2 : Int} (h0 : a0 < a1) (h1 : a1 ≤ 256) (h2 : a2 = 1) : a0 + a2 ≤ 2147483647 := by omega
theorem oz1216 {a0 a1 : Int} (h0 : a0 < a1) (h1 : a1 ≤ 4) (h2 : a0 = 0) : ((1 : Int) ≤ a1) ∧ (a1 ≤ 4) := by omega
theorem oz1217 {a0 a1 a2 : Int} (h0 : a0 = a1 + a2) (h1 : a2 = 1) : (16 - a0) < (16 - a1) := by omega
theorem oz1218 {a0 a1 : Int} (h0 : a0 < a1) (h1 : a1 ≤ 16) : (1 : Int) ≤ (16 - a0) := by omega
theorem oz1219 {a0 a1 a2 : Int} (h0 : a0 ≤ 5) (h1 : a1 = a0 - a2) (h2 : a2 = 1) : a1 ≤ 4 := by omega
theorem oz1220 {a0 : Int} (h0 : a0 ≤ 31) : a0 < 32 := by omega
theorem oz1221 {a0 a1 : Int} (h0 : a0 ≤ 31) (h1 : a1 = 1) : a0 + a1 ≤ 2147483647 := by omega
theorem oz1222 {a0 : Int} (h0 : a0 ≤ 31) : (1 : Int) ≤ (32 - a0) := by omega
theorem oz1223 {a0 a1 a2 a3 : Int} (h0 : a0 < a1) (h1 : a2 = a1 - a3) (h2 : a3 = 1) : (-2147483648 : Int) ≤ a2 - a0 := by omega
theorem oz1224 {a0 a1 a2 a3 : Int} (h0 : a0 ≤ 5) (h1 : (0 : Int) ≤ a1) (h2 : a2 = a0 - a3) (h3 : a3 = 1) : a2 - a1 ≤ 2147483647 := by omega
theorem oz1225 {a0 : Int} (h0 : (0 : Int) ≤ a0) (h1 : a0 ≤ 31) : ((0 : Int) ≤ a0) ∧ (a0 ≤ 31) := by omega
theorem oz1226 {a0 a1 : Int} (h0 : a0 < a1) (h1 : (0 : Int) ≤ a0) (h2 : a1 ≤ 32) : ((0 : Int) ≤ a0) ∧ (a0 ≤ 31) := by omega
theorem oz1227 {a0 a1 a2 : Int} (h0 : a0 ≤ a1) (h1 : a1 ≤ a2) (h2 : a0 = 1) (h3 : a2 = 5) : ((1 : Int) ≤ a1) ∧ (a1 ≤ 5) := by omega
theorem oz1228 {a0 : Int} (h0 : a0 = 0) : a0 < 32 := by omega
theorem oz1229 {a0 : Int} (h0 : a0 = 1) : a0 < 32 := by omega
theorem oz1230 {a0 a1 : Int} (h0 : a0 < a1) (h1 : a0 = 0) : a1 ≠ 0 := by omega
theorem oz1231 {a0 a1 a2 : Int} (h0 : a0 < a1) (h1 : a1 ≤ 99) (h2 : a2 = 1) : a0 + a2 ≤ 2147483647 := by omega
def w96_0 : kW := ([645, 3138, 3200, 3206, 3207, 3208, 3209, 3214, 3215, 3216, 3586, 3781, 6405], [13, 51, 52, 53, 54, 55, 57, 58, 62, 63, 65, 66, 67, 68, 69, 70, 71, 72, 73, 74, 75, 76, 77, 81, 82, 83, 84, 85, 86, 87, 88, 103], [], [1])
set_option maxRecDepth 100000 in
theorem kc96_0 {i : Nat → Int32} {a : Nat → List Int32} {q : Nat → List Int64} {r : Nat → Nat} (hI : kI i a q) (hr : kr r) (x1 : Int32) (x2 : Int32) : km 13 96 [.ref 0, .int x1, .int x2] (ks i a q r) (kVI w96_0 i a q r (fun v i1 a1 q1 r1 => True)) := by
  have hG := kG_self w96_0 hI hr
  refine km_ofI (q := (mi_h96, mi_c96)) rfl (by decide) (Nat.le_of_ble_eq_true rfl) ?_
  intro P hP
  first | refine ft_goL mi_k96 3 3 [(0, .ref 0), (1, .int x1), (2, .int x2)] [.int 1, .int 0, .int x2] (by rfl) ?_ | refine ft_go mi_k96 3 3 [(0, .ref 0), (1, .int x1), (2, .int x2)] [.int 1, .int 0, .int x2] i a q r (by rfl) ?_
  refine ko_callPI mi_k96.1 (pc := 3) (ls := [(0, .ref 0), (1, .int x1), (2, .int x2)]) (st := [.int 1, .int 0, .int x2]) (h := ks i a q r) (i := (.invokestatic 74, 3, 120, 0, 9, 0, 152)) (mi_k96.2 _ _ (by rfl)) (ft_invS mi_pq120 (by rfl)) (cy := mi_c120) mi_pq120 rfl (kc120 hG.I hG.R x2 0 1) (by decide) ?_
  intro vg1 hg1
  rcases hg1 with ⟨eg1, hg1⟩ | ⟨eg1, hg1⟩
  ·
    subst eg1
    first | refine ft_goS mi_k96 3 13 [.int x1, .ref 0] (by rfl) ?_ | refine ft_go mi_k96 3 13 [(0, .ref 0), (1, .int x1), (2, .int x2)] [.int x1, .ref 0] i a q r (by rfl) ?_
    refine ko_callI mi_k96.1 (pc := 13) (ls := [(0, .ref 0), (1, .int x1), (2, .int x2)]) (st := [.int x1, .ref 0]) (h := ks i a q r) (i := (.invokevirtual 144, 3, 129, 0, 9, 0, 208)) (mi_k96.2 _ _ (by rfl)) (ft_invS mi_pq129 (by rfl)) (cy := mi_c129) mi_pq129 rfl (kc129_0 hG.I hG.R x1) (by decide) ?_
    intro vg3 ig3 ag3 qg3 rg3 kg3 hg3
    have hGg3 := kG_call hG kg3 (by decide +kernel)
    first | refine ft_goL mi_k96 2 18 [(3, .int vg3), (0, .ref 0), (1, .int x1), (2, .int x2)] [.int vg3] (by rfl) ?_ | refine ft_go mi_k96 2 18 [(3, .int vg3), (0, .ref 0), (1, .int x1), (2, .int x2)] [.int vg3] ig3 ag3 qg3 rg3 (by rfl) ?_
    refine ft_ifS mi_k96 (decide (0 ≤ vg3)) 23 21 [] (by rfl) (fun c => ?_) (fun c => ?_)
    ·
      have c5 : (0 : Int32).toInt ≤ vg3.toInt := kd_le c; clear c
      first | refine ft_goS mi_k96 4 31 [.ref 1, .ref 49] (by rfl) ?_ | refine ft_go mi_k96 4 31 [(3, .int vg3), (0, .ref 0), (1, .int x1), (2, .int x2)] [.ref 1, .ref 49] ig3 ag3 qg3 rg3 (by rfl) ?_
      refine ko_callN mi_k96.1 (pc := 31) (ls := [(3, .int vg3), (0, .ref 0), (1, .int x1), (2, .int x2)]) (st := [.ref 1, .ref 49]) (h := ks ig3 ag3 qg3 rg3) (i := (.invokevirtual 147, 3, 59, 0, 9, 0, 211)) (mi_k96.2 _ _ (by rfl)) (ft_invS mi_pq59 (by rfl)) (cy := mi_c59) mi_pq59 rfl (kc59_49_1 hGg3.I hGg3.R ) (by decide) ?_
      intro ig6 ag6 qg6 rg6 kg6 hg6
      have hGg6 := kG_call hGg3 kg6 (by decide +kernel)
      first | refine ft_goS mi_k96 1 35 [.int x2] (by rfl) ?_ | refine ft_go mi_k96 1 35 [(3, .int vg3), (0, .ref 0), (1, .int x1), (2, .int x2)] [.int x2] ig6 ag6 qg6 rg6 (by rfl) ?_
      refine ft_ifS mi_k96 (x2 != 0) 48 38 [] (by rfl) (fun c => ?_) (fun c => ?_)
      ·
        have c7 : x2.toInt ≠ (0 : Int32).toInt := kd_ne c; clear c
        first | refine ft_goS mi_k96 4 56 [.ref 1, .ref 49] (by rfl) ?_ | refine ft_go mi_k96 4 56 [(3, .int vg3), (0, .ref 0), (1, .int x1), (2, .int x2)] [.ref 1, .ref 49] ig6 ag6 qg6 rg6 (by rfl) ?_
        refine ko_callPI mi_k96.1 (pc := 56) (ls := [(3, .int vg3), (0, .ref 0), (1, .int x1), (2, .int x2)]) (st := [.ref 1, .ref 49]) (h := ks ig6 ag6 qg6 rg6) (i := (.invokevirtual 210, 3, 72, 0, 9, 0, 258)) (mi_k96.2 _ _ (by rfl)) (ft_invS mi_pq72 (by rfl)) (cy := mi_c72) mi_pq72 rfl (kc72_49_1 hGg6.I hGg6.R ) (by decide) ?_
        intro vg8 hg8
        exact ft_ret mi_k96 (by rfl) (hP vg8 _ _ _ _ hGg6 trivial)
      ·
        have c9 : x2.toInt = (0 : Int32).toInt := kd_neF c; clear c
        first | refine ft_goS mi_k96 2 42 [.ref 49] (by rfl) ?_ | refine ft_go mi_k96 2 42 [(3, .int vg3), (0, .ref 0), (1, .int x1), (2, .int x2)] [.ref 49] ig6 ag6 qg6 rg6 (by rfl) ?_
        refine ko_callI mi_k96.1 (pc := 42) (ls := [(3, .int vg3), (0, .ref 0), (1, .int x1), (2, .int x2)]) (st := [.ref 49]) (h := ks ig6 ag6 qg6 rg6) (i := (.invokevirtual 207, 3, 71, 0, 9, 0, 256)) (mi_k96.2 _ _ (by rfl)) (ft_invS mi_pq71 (by rfl)) (cy := mi_c71) mi_pq71 rfl (kc71_49 hGg6.I hGg6.R ) (by decide) ?_
        intro vg10 ig10 ag10 qg10 rg10 kg10 hg10
        have hGg10 := kG_call hGg6 kg10 (by decide +kernel)
        first | refine ft_goS mi_k96 1 59 [.int vg10] (by rfl) ?_ | refine ft_go mi_k96 1 59 [(3, .int vg3), (0, .ref 0), (1, .int x1), (2, .int x2)] [.int vg10] ig10 ag10 qg10 rg10 (by rfl) ?_
        exact ft_ret mi_k96 (by rfl) (hP vg10 _ _ _ _ hGg10 trivial)
    ·
      have c11 : vg3.toInt < (0 : Int32).toInt := kd_leF c; clear c
      first | refine ft_goS mi_k96 1 22 [.int vg3] (by rfl) ?_ | refine ft_go mi_k96 1 22 [(3, .int vg3), (0, .ref 0), (1, .int x1), (2, .int x2)] [.int vg3] ig3 ag3 qg3 rg3 (by rfl) ?_
      exact ft_ret mi_k96 (by rfl) (hP vg3 _ _ _ _ hGg3 trivial)
  ·
    subst eg1
    first | refine ft_goS mi_k96 2 10 [.int (-1)] (by rfl) ?_ | refine ft_go mi_k96 2 10 [(0, .ref 0), (1, .int x1), (2, .int x2)] [.int (-1)] i a q r (by rfl) ?_
    exact ft_ret mi_k96 (by rfl) (hP (-1) _ _ _ _ hG trivial)
set_option maxRecDepth 100000 in
theorem kc122 {i : Nat → Int32} {a : Nat → List Int32} {q : Nat → List Int64} {r : Nat → Nat} (hI : kI i a q) (hr : kr r) (x1 : Int32) : km 5 122 [.int x1] (ks i a q r) (kPI (ks i a q r) (fun v => (v = 1 ∧ (((0 : Int) ≤ x1.toInt) ∧ (((0 : Int) ≤ (x1.toInt / 10)) ∧ ((x1.toInt / 10) ≤ 5)) ∧ ((x1.toInt % 10) ≤ 5))) ∨ (v = 0 ∧ (¬ (((0 : Int) ≤ x1.toInt) ∧ (((0 : Int) ≤ (x1.toInt / 10)) ∧ ((x1.toInt / 10) ≤ 5)) ∧ ((x1.toInt % 10) ≤ 5)))))) := by
  have hG := kG_self kW0 hI hr
  refine km_ofPI (q := (mi_h122, mi_c122)) rfl (by decide) (Nat.le_of_ble_eq_true rfl) ?_
  intro P hP
  first | refine ft_goL mi_k122 1 1 [(0, .int x1)] [.int x1] (by rfl) ?_ | refine ft_go mi_k122 1 1 [(0, .int x1)] [.int x1] i a q r (by rfl) ?_
  refine ft_ifS mi_k122 (decide (x1 < 0)) 28 4 [] (by rfl) (fun c => ?_) (fun c => ?_)
  ·
    have c1 : x1.toInt < (0 : Int32).toInt := kd_lt c; clear c
    first | refine ft_goS mi_k122 1 29 [.int 0] (by rfl) ?_ | refine ft_go mi_k122 1 29 [(0, .int x1)] [.int 0] i a q r (by rfl) ?_
    exact ft_ret mi_k122 (by rfl) (hP 0 (Or.inr ⟨rfl, (oz495 c1 kn0)⟩))
  ·
    have c2 : (0 : Int32).toInt ≤ x1.toInt := kd_ltF c; clear c
    have s3 : (x1 / 10).toInt = (x1.toInt / 10) := kd_div 10 kn10 (by decide) (oz389 c2 kn0)
    first | refine ft_goS mi_k122 3 8 [.int (x1 / 10)] (by rfl) ?_ | refine ft_go mi_k122 3 8 [(0, .int x1)] [.int (x1 / 10)] i a q r (by rfl) ?_
    refine ko_callPI mi_k122.1 (pc := 8) (ls := [(0, .int x1)]) (st := [.int (x1 / 10)]) (h := ks i a q r) (i := (.invokestatic 70, 3, 121, 0, 9, 0, 157)) (mi_k122.2 _ _ (by rfl)) (ft_invS mi_pq121 (by rfl)) (cy := mi_c121) mi_pq121 rfl (kc121 hG.I hG.R (x1 / 10)) (by decide) ?_
    intro vg4 hg4
    rcases hg4 with ⟨eg4, hg4⟩ | ⟨eg4, hg4⟩
    ·
      subst eg4
      have z5 : ((0 : Int) ≤ (x1 / 10).toInt) ∧ ((x1 / 10).toInt ≤ 5) := hg4
      have s6 : (x1 - x1 / 10 * 10).toInt = (x1.toInt % 10) := kd_rem 10 kn10 (by decide) (oz389 c2 kn0)
      first | refine ft_goS mi_k122 4 18 [.int (x1 - x1 / 10 * 10)] (by rfl) ?_ | refine ft_go mi_k122 4 18 [(0, .int x1)] [.int (x1 - x1 / 10 * 10)] i a q r (by rfl) ?_
      refine ko_callPI mi_k122.1 (pc := 18) (ls := [(0, .int x1)]) (st := [.int (x1 - x1 / 10 * 10)]) (h := ks i a q r) (i := (.invokestatic 70, 3, 121, 0, 9, 0, 157)) (mi_k122.2 _ _ (by rfl)) (ft_invS mi_pq121 (by rfl)) (cy := mi_c121) mi_pq121 rfl (kc121 hG.I hG.R (x1 - x1 / 10 * 10)) (by decide) ?_
      intro vg7 hg7
      rcases hg7 with ⟨eg7, hg7⟩ | ⟨eg7, hg7⟩
      ·
        subst eg7
        have z8 : ((0 : Int) ≤ (x1 - x1 / 10 * 10).toInt) ∧ ((x1 - x1 / 10 * 10).toInt ≤ 5) := hg7
        first | refine ft_goS mi_k122 3 29 [.int 1] (by rfl) ?_ | refine ft_go mi_k122 3 29 [(0, .int x1)] [.int 1] i a q r (by rfl) ?_
        exact ft_ret mi_k122 (by rfl) (hP 1 (Or.inl ⟨rfl, (oz496 c2 s3 s6 z5.1 z5.2 z8.2 kn0)⟩))
      ·
        subst eg7
        have z9 : ¬ (((0 : Int) ≤ (x1 - x1 / 10 * 10).toInt) ∧ ((x1 - x1 / 10 * 10).toInt ≤ 5)) := hg7
        first | refine ft_goS mi_k122 2 29 [.int 0] (by rfl) ?_ | refine ft_go mi_k122 2 29 [(0, .int x1)] [.int 0] i a q r (by rfl) ?_
        exact ft_ret mi_k122 (by rfl) (hP 0 (Or.inr ⟨rfl, (oz497 s6 z9)⟩))
    ·
      subst eg4
      have z10 : ¬ (((0 : Int) ≤ (x1 / 10).toInt) ∧ ((x1 / 10).toInt ≤ 5)) := hg4
      first | refine ft_goS mi_k122 2 29 [.int 0] (by rfl) ?_ | refine ft_go mi_k122 2 29 [(0, .int x1)] [.int 0] i a q r (by rfl) ?_
      exact ft_ret mi_k122 (by rfl) (hP 0 (Or.inr ⟨rfl, (oz498 c2 s3 z10 kn0)⟩))
set_option maxRecDepth 100000 in
theorem kc73_49_104 {i : Nat → Int32} {a : Nat → List Int32} {q : Nat → List Int64} {r : Nat → Nat} (hI : kI i a q) (hr : kr r)  : km 1 73 [.ref 49, .ref 104] (ks i a q r) (kPI (ks i a q r) (fun v => True)) := by
  have hG := kG_self kW0 hI hr
  refine km_ofPI (q := (mi_h73, mi_c73)) rfl (by decide) (Nat.le_of_ble_eq_true rfl) ?_
  intro P hP
  first | refine fo_goL mi_k73 fz73_0_2_2 [(2, .int 0), (0, .ref 49), (1, .ref 104)] [] (by rfl) ?_ | refine fo_goL mi_k73 fz73_50_2_2 [(2, .int 0), (0, .ref 49), (1, .ref 104)] [] (by rfl) ?_ | refine ft_go mi_k73 2 2 [(2, .int 0), (0, .ref 49), (1, .ref 104)] [] i a q r (by rfl) ?_
  have lp1 : ∀ (nz : Nat) (l2_1 : Int32), (0 : Int) ≤ l2_1.toInt → (((i 6659).toInt - l2_1.toInt)).toNat < nz → ko 1 (mi_h73, mi_c73) P (2, [(2, .int l2_1), (0, .ref 49), (1, .ref 104)], [], (0, 0), ks i a q r) := by
    intro nz
    induction nz with
    | zero =>
      intro _ _ hm
      exact absurd hm (Nat.not_lt_zero _)
    | succ nz ih1 =>
      intro l2_1 p1_0 hm1
      have fi_6659 : ((0 : Int) ≤ (i 6659).toInt) ∧ ((i 6659).toInt ≤ 60) := hG.I.1 6659
      first | refine fo_goL mi_k73 fz73_2_3_7 [(2, .int l2_1), (0, .ref 49), (1, .ref 104)] [.int (i 6659), .int l2_1] (by rfl) ?_ | refine ft_go mi_k73 3 7 [(2, .int l2_1), (0, .ref 49), (1, .ref 104)] [.int (i 6659), .int l2_1] i a q r (by rfl) ?_
      refine ft_ifS mi_k73 (decide ((i 6659) ≤ l2_1)) 56 10 [] (by rfl) (fun c => ?_) (fun c => ?_)
      ·
        have c2 : (i 6659).toInt ≤ l2_1.toInt := kd_le c; clear c
        first | refine fo_goS mi_k73 fz73_56_1_58 [.int (-2)] (by rfl) ?_ | refine ft_go mi_k73 1 58 [(2, .int l2_1), (0, .ref 49), (1, .ref 104)] [.int (-2)] i a q r (by rfl) ?_
        exact ft_ret mi_k73 (by rfl) (hP (-2) trivial)
      ·
        have c3 : l2_1.toInt < (i 6659).toInt := kd_leF c; clear c
        have fi_3138 : ((0 : Int) ≤ (i 3138).toInt) ∧ ((i 3138).toInt ≤ 20) := hG.I.1 3138
        first | refine fo_goS mi_k73 fz73_10_3_15 [.int (i 3138), .int l2_1] (by rfl) ?_ | refine ft_go mi_k73 3 15 [(2, .int l2_1), (0, .ref 49), (1, .ref 104)] [.int (i 3138), .int l2_1] i a q r (by rfl) ?_
        refine ft_ifS mi_k73 (decide ((i 3138) ≤ l2_1)) 48 18 [] (by rfl) (fun c => ?_) (fun c => ?_)
        ·
          have c4 : (i 3138).toInt ≤ l2_1.toInt := kd_le c; clear c
          first | refine fo_goS mi_k73 fz73_48_1_49 [.int l2_1] (by rfl) ?_ | refine ft_go mi_k73 1 49 [(2, .int l2_1), (0, .ref 49), (1, .ref 104)] [.int l2_1] i a q r (by rfl) ?_
          exact ft_ret mi_k73 (by rfl) (hP l2_1 trivial)
        ·
          have c5 : l2_1.toInt < (i 3138).toInt := kd_leF c; clear c
          first | refine fo_goS mi_k73 fz73_18_3_23 [.int l2_1, .ref 105] (by rfl) ?_ | refine ft_go mi_k73 3 23 [(2, .int l2_1), (0, .ref 49), (1, .ref 104)] [.int l2_1, .ref 105] i a q r (by rfl) ?_
          refine ko_lald2 mi_k73.1 (l := q 105) (n := 60) (c := 60) (ax := (0, 0, 0, 0, 0)) (mi_k73.2 _ _ (by rfl)) (by rfl) (by rfl) (hG.I.2.2.2 105) rfl (oz3 p1_0) (oz266 c3 fi_6659.2) ?_
          have s6 : (((lg_cmp ((q 105).getD l2_1.toNatClampNeg 0) 9).toInt < 0 ↔ ((q 105).getD l2_1.toNatClampNeg 0).toInt < (9 : Int64).toInt)) ∧ ((0 < (lg_cmp ((q 105).getD l2_1.toNatClampNeg 0) 9).toInt ↔ (9 : Int64).toInt < ((q 105).getD l2_1.toNatClampNeg 0).toInt)) := kl_cmp
          first | refine ft_goS mi_k73 2 28 [.int (lg_cmp ((q 105).getD l2_1.toNatClampNeg 0) 9)] (by rfl) ?_ | refine ft_go mi_k73 2 28 [(2, .int l2_1), (0, .ref 49), (1, .ref 104)] [.int (lg_cmp ((q 105).getD l2_1.toNatClampNeg 0) 9)] i a q r (by rfl) ?_
          refine ft_ifS mi_k73 ((lg_cmp ((q 105).getD l2_1.toNatClampNeg 0) 9) == 0) 50 31 [] (by rfl) (fun c => ?_) (fun c => ?_)
          ·
            have c7 : (lg_cmp ((q 105).getD l2_1.toNatClampNeg 0) 9).toInt = (0 : Int32).toInt := kd_eq c; clear c
            have s8 : (l2_1 + 1).toInt = l2_1.toInt + (1 : Int32).toInt := kd_add (oz12 p1_0 kn1) (oz307 c3 fi_6659.2 kn1)
            first | refine fo_goL mi_k73 fz73_0_2_2 [(2, .int (l2_1 + 1)), (0, .ref 49), (1, .ref 104)] [] (by rfl) ?_ | refine fo_goL mi_k73 fz73_50_2_2 [(2, .int (l2_1 + 1)), (0, .ref 49), (1, .ref 104)] [] (by rfl) ?_ | refine ft_go mi_k73 2 2 [(2, .int (l2_1 + 1)), (0, .ref 49), (1, .ref 104)] [] i a q r (by rfl) ?_
            exact ih1 _ (oz14 p1_0 s8 kn1) (kj_meas (oz44 s8 kn1) (oz45 c3) hm1)
          ·
            have c9 : (lg_cmp ((q 105).getD l2_1.toNatClampNeg 0) 9).toInt ≠ (0 : Int32).toInt := kd_eqF c; clear c
            first | refine fo_goS mi_k73 fz73_31_3_36 [.int l2_1, .ref 105] (by rfl) ?_ | refine ft_go mi_k73 3 36 [(2, .int l2_1), (0, .ref 49), (1, .ref 104)] [.int l2_1, .ref 105] i a q r (by rfl) ?_
            refine ko_lald2 mi_k73.1 (l := q 105) (n := 60) (c := 60) (ax := (0, 0, 0, 0, 0)) (mi_k73.2 _ _ (by rfl)) (by rfl) (by rfl) (hG.I.2.2.2 105) rfl (oz3 p1_0) (oz266 c3 fi_6659.2) ?_
            first | refine fo_goS mi_k73 fz73_37_3_42 [.int l2_1, .ref 75, .long ((q 105).getD l2_1.toNatClampNeg 0)] (by rfl) ?_ | refine ft_go mi_k73 3 42 [(2, .int l2_1), (0, .ref 49), (1, .ref 104)] [.int l2_1, .ref 75, .long ((q 105).getD l2_1.toNatClampNeg 0)] i a q r (by rfl) ?_
            refine ko_iald3 mi_k73.1 (n := 20) (c := 20) (ax := (0, 0, 0, 0, 0)) (mi_k73.2 _ _ (by rfl)) (by rfl) (ksG75 _ _ _ _) (hG.I.2.1 75) rfl (oz3 p1_0) (oz1056 c5 fi_3138.2) ?_
            have b10 : ((-2147483648 : Int) ≤ ((a 75).getD l2_1.toNatClampNeg 0).toInt) ∧ (((a 75).getD l2_1.toNatClampNeg 0).toInt ≤ 2147483647) := kd_bd ((a 75).getD l2_1.toNatClampNeg 0)
            have s11 : (((a 75).getD l2_1.toNatClampNeg 0).toInt64).toInt = ((a 75).getD l2_1.toNatClampNeg 0).toInt := kl_i2l
            have s12 : (((lg_cmp ((q 105).getD l2_1.toNatClampNeg 0) (((a 75).getD l2_1.toNatClampNeg 0).toInt64)).toInt < 0 ↔ ((q 105).getD l2_1.toNatClampNeg 0).toInt < (((a 75).getD l2_1.toNatClampNeg 0).toInt64).toInt)) ∧ ((0 < (lg_cmp ((q 105).getD l2_1.toNatClampNeg 0) (((a 75).getD l2_1.toNatClampNeg 0).toInt64)).toInt ↔ (((a 75).getD l2_1.toNatClampNeg 0).toInt64).toInt < ((q 105).getD l2_1.toNatClampNeg 0).toInt)) := kl_cmp
            first | refine fo_goS mi_k73 fz73_43_2_45 [.int (lg_cmp ((q 105).getD l2_1.toNatClampNeg 0) (((a 75).getD l2_1.toNatClampNeg 0).toInt64))] (by rfl) ?_ | refine ft_go mi_k73 2 45 [(2, .int l2_1), (0, .ref 49), (1, .ref 104)] [.int (lg_cmp ((q 105).getD l2_1.toNatClampNeg 0) (((a 75).getD l2_1.toNatClampNeg 0).toInt64))] i a q r (by rfl) ?_
            refine ft_ifS mi_k73 ((lg_cmp ((q 105).getD l2_1.toNatClampNeg 0) (((a 75).getD l2_1.toNatClampNeg 0).toInt64)) == 0) 50 48 [] (by rfl) (fun c => ?_) (fun c => ?_)
            ·
              have c13 : (lg_cmp ((q 105).getD l2_1.toNatClampNeg 0) (((a 75).getD l2_1.toNatClampNeg 0).toInt64)).toInt = (0 : Int32).toInt := kd_eq c; clear c
              have s14 : (l2_1 + 1).toInt = l2_1.toInt + (1 : Int32).toInt := kd_add (oz12 p1_0 kn1) (oz307 c3 fi_6659.2 kn1)
              first | refine fo_goL mi_k73 fz73_0_2_2 [(2, .int (l2_1 + 1)), (0, .ref 49), (1, .ref 104)] [] (by rfl) ?_ | refine fo_goL mi_k73 fz73_50_2_2 [(2, .int (l2_1 + 1)), (0, .ref 49), (1, .ref 104)] [] (by rfl) ?_ | refine ft_go mi_k73 2 2 [(2, .int (l2_1 + 1)), (0, .ref 49), (1, .ref 104)] [] i a q r (by rfl) ?_
              exact ih1 _ (oz14 p1_0 s14 kn1) (kj_meas (oz44 s14 kn1) (oz45 c3) hm1)
            ·
              have c15 : (lg_cmp ((q 105).getD l2_1.toNatClampNeg 0) (((a 75).getD l2_1.toNatClampNeg 0).toInt64)).toInt ≠ (0 : Int32).toInt := kd_eqF c; clear c
              first | refine fo_goS mi_k73 fz73_48_1_49 [.int l2_1] (by rfl) ?_ | refine ft_go mi_k73 1 49 [(2, .int l2_1), (0, .ref 49), (1, .ref 104)] [.int l2_1] i a q r (by rfl) ?_
              exact ft_ret mi_k73 (by rfl) (hP l2_1 trivial)
  exact lp1 _ _ (oz46 kn0) (Nat.lt_succ_self _)
set_option maxRecDepth 100000 in
theorem kc73_49_106 {i : Nat → Int32} {a : Nat → List Int32} {q : Nat → List Int64} {r : Nat → Nat} (hI : kI i a q) (hr : kr r)  : km 1 73 [.ref 49, .ref 106] (ks i a q r) (kPI (ks i a q r) (fun v => True)) := by
  have hG := kG_self kW0 hI hr
  refine km_ofPI (q := (mi_h73, mi_c73)) rfl (by decide) (Nat.le_of_ble_eq_true rfl) ?_
  intro P hP
  first | refine fo_goL mi_k73 fz73_0_2_2 [(2, .int 0), (0, .ref 49), (1, .ref 106)] [] (by rfl) ?_ | refine fo_goL mi_k73 fz73_50_2_2 [(2, .int 0), (0, .ref 49), (1, .ref 106)] [] (by rfl) ?_ | refine ft_go mi_k73 2 2 [(2, .int 0), (0, .ref 49), (1, .ref 106)] [] i a q r (by rfl) ?_
  have lp1 : ∀ (nz : Nat) (l2_1 : Int32), (0 : Int) ≤ l2_1.toInt → (((i 6787).toInt - l2_1.toInt)).toNat < nz → ko 1 (mi_h73, mi_c73) P (2, [(2, .int l2_1), (0, .ref 49), (1, .ref 106)], [], (0, 0), ks i a q r) := by
    intro nz
    induction nz with
    | zero =>
      intro _ _ hm
      exact absurd hm (Nat.not_lt_zero _)
    | succ nz ih1 =>
      intro l2_1 p1_0 hm1
      have fi_6787 : ((0 : Int) ≤ (i 6787).toInt) ∧ ((i 6787).toInt ≤ 60) := hG.I.1 6787
      first | refine fo_goL mi_k73 fz73_2_3_7 [(2, .int l2_1), (0, .ref 49), (1, .ref 106)] [.int (i 6787), .int l2_1] (by rfl) ?_ | refine ft_go mi_k73 3 7 [(2, .int l2_1), (0, .ref 49), (1, .ref 106)] [.int (i 6787), .int l2_1] i a q r (by rfl) ?_
      refine ft_ifS mi_k73 (decide ((i 6787) ≤ l2_1)) 56 10 [] (by rfl) (fun c => ?_) (fun c => ?_)
      ·
        have c2 : (i 6787).toInt ≤ l2_1.toInt := kd_le c; clear c
        first | refine fo_goS mi_k73 fz73_56_1_58 [.int (-2)] (by rfl) ?_ | refine ft_go mi_k73 1 58 [(2, .int l2_1), (0, .ref 49), (1, .ref 106)] [.int (-2)] i a q r (by rfl) ?_
        exact ft_ret mi_k73 (by rfl) (hP (-2) trivial)
      ·
        have c3 : l2_1.toInt < (i 6787).toInt := kd_leF c; clear c
        have fi_3138 : ((0 : Int) ≤ (i 3138).toInt) ∧ ((i 3138).toInt ≤ 20) := hG.I.1 3138
        first | refine fo_goS mi_k73 fz73_10_3_15 [.int (i 3138), .int l2_1] (by rfl) ?_ | refine ft_go mi_k73 3 15 [(2, .int l2_1), (0, .ref 49), (1, .ref 106)] [.int (i 3138), .int l2_1] i a q r (by rfl) ?_
        refine ft_ifS mi_k73 (decide ((i 3138) ≤ l2_1)) 48 18 [] (by rfl) (fun c => ?_) (fun c => ?_)
        ·
          have c4 : (i 3138).toInt ≤ l2_1.toInt := kd_le c; clear c
          first | refine fo_goS mi_k73 fz73_48_1_49 [.int l2_1] (by rfl) ?_ | refine ft_go mi_k73 1 49 [(2, .int l2_1), (0, .ref 49), (1, .ref 106)] [.int l2_1] i a q r (by rfl) ?_
          exact ft_ret mi_k73 (by rfl) (hP l2_1 trivial)
        ·
          have c5 : l2_1.toInt < (i 3138).toInt := kd_leF c; clear c
          first | refine fo_goS mi_k73 fz73_18_3_23 [.int l2_1, .ref 107] (by rfl) ?_ | refine ft_go mi_k73 3 23 [(2, .int l2_1), (0, .ref 49), (1, .ref 106)] [.int l2_1, .ref 107] i a q r (by rfl) ?_
          refine ko_lald2 mi_k73.1 (l := q 107) (n := 60) (c := 60) (ax := (0, 0, 0, 0, 0)) (mi_k73.2 _ _ (by rfl)) (by rfl) (by rfl) (hG.I.2.2.2 107) rfl (oz3 p1_0) (oz266 c3 fi_6787.2) ?_
          have s6 : (((lg_cmp ((q 107).getD l2_1.toNatClampNeg 0) 9).toInt < 0 ↔ ((q 107).getD l2_1.toNatClampNeg 0).toInt < (9 : Int64).toInt)) ∧ ((0 < (lg_cmp ((q 107).getD l2_1.toNatClampNeg 0) 9).toInt ↔ (9 : Int64).toInt < ((q 107).getD l2_1.toNatClampNeg 0).toInt)) := kl_cmp
          first | refine ft_goS mi_k73 2 28 [.int (lg_cmp ((q 107).getD l2_1.toNatClampNeg 0) 9)] (by rfl) ?_ | refine ft_go mi_k73 2 28 [(2, .int l2_1), (0, .ref 49), (1, .ref 106)] [.int (lg_cmp ((q 107).getD l2_1.toNatClampNeg 0) 9)] i a q r (by rfl) ?_
          refine ft_ifS mi_k73 ((lg_cmp ((q 107).getD l2_1.toNatClampNeg 0) 9) == 0) 50 31 [] (by rfl) (fun c => ?_) (fun c => ?_)
          ·
            have c7 : (lg_cmp ((q 107).getD l2_1.toNatClampNeg 0) 9).toInt = (0 : Int32).toInt := kd_eq c; clear c
            have s8 : (l2_1 + 1).toInt = l2_1.toInt + (1 : Int32).toInt := kd_add (oz12 p1_0 kn1) (oz307 c3 fi_6787.2 kn1)
            first | refine fo_goL mi_k73 fz73_0_2_2 [(2, .int (l2_1 + 1)), (0, .ref 49), (1, .ref 106)] [] (by rfl) ?_ | refine fo_goL mi_k73 fz73_50_2_2 [(2, .int (l2_1 + 1)), (0, .ref 49), (1, .ref 106)] [] (by rfl) ?_ | refine ft_go mi_k73 2 2 [(2, .int (l2_1 + 1)), (0, .ref 49), (1, .ref 106)] [] i a q r (by rfl) ?_
            exact ih1 _ (oz14 p1_0 s8 kn1) (kj_meas (oz44 s8 kn1) (oz45 c3) hm1)
          ·
            have c9 : (lg_cmp ((q 107).getD l2_1.toNatClampNeg 0) 9).toInt ≠ (0 : Int32).toInt := kd_eqF c; clear c
            first | refine fo_goS mi_k73 fz73_31_3_36 [.int l2_1, .ref 107] (by rfl) ?_ | refine ft_go mi_k73 3 36 [(2, .int l2_1), (0, .ref 49), (1, .ref 106)] [.int l2_1, .ref 107] i a q r (by rfl) ?_
            refine ko_lald2 mi_k73.1 (l := q 107) (n := 60) (c := 60) (ax := (0, 0, 0, 0, 0)) (mi_k73.2 _ _ (by rfl)) (by rfl) (by rfl) (hG.I.2.2.2 107) rfl (oz3 p1_0) (oz266 c3 fi_6787.2) ?_
            first | refine fo_goS mi_k73 fz73_37_3_42 [.int l2_1, .ref 75, .long ((q 107).getD l2_1.toNatClampNeg 0)] (by rfl) ?_ | refine ft_go mi_k73 3 42 [(2, .int l2_1), (0, .ref 49), (1, .ref 106)] [.int l2_1, .ref 75, .long ((q 107).getD l2_1.toNatClampNeg 0)] i a q r (by rfl) ?_
            refine ko_iald3 mi_k73.1 (n := 20) (c := 20) (ax := (0, 0, 0, 0, 0)) (mi_k73.2 _ _ (by rfl)) (by rfl) (ksG75 _ _ _ _) (hG.I.2.1 75) rfl (oz3 p1_0) (oz1056 c5 fi_3138.2) ?_
            have b10 : ((-2147483648 : Int) ≤ ((a 75).getD l2_1.toNatClampNeg 0).toInt) ∧ (((a 75).getD l2_1.toNatClampNeg 0).toInt ≤ 2147483647) := kd_bd ((a 75).getD l2_1.toNatClampNeg 0)
            have s11 : (((a 75).getD l2_1.toNatClampNeg 0).toInt64).toInt = ((a 75).getD l2_1.toNatClampNeg 0).toInt := kl_i2l
            have s12 : (((lg_cmp ((q 107).getD l2_1.toNatClampNeg 0) (((a 75).getD l2_1.toNatClampNeg 0).toInt64)).toInt < 0 ↔ ((q 107).getD l2_1.toNatClampNeg 0).toInt < (((a 75).getD l2_1.toNatClampNeg 0).toInt64).toInt)) ∧ ((0 < (lg_cmp ((q 107).getD l2_1.toNatClampNeg 0) (((a 75).getD l2_1.toNatClampNeg 0).toInt64)).toInt ↔ (((a 75).getD l2_1.toNatClampNeg 0).toInt64).toInt < ((q 107).getD l2_1.toNatClampNeg 0).toInt)) := kl_cmp
            first | refine fo_goS mi_k73 fz73_43_2_45 [.int (lg_cmp ((q 107).getD l2_1.toNatClampNeg 0) (((a 75).getD l2_1.toNatClampNeg 0).toInt64))] (by rfl) ?_ | refine ft_go mi_k73 2 45 [(2, .int l2_1), (0, .ref 49), (1, .ref 106)] [.int (lg_cmp ((q 107).getD l2_1.toNatClampNeg 0) (((a 75).getD l2_1.toNatClampNeg 0).toInt64))] i a q r (by rfl) ?_
            refine ft_ifS mi_k73 ((lg_cmp ((q 107).getD l2_1.toNatClampNeg 0) (((a 75).getD l2_1.toNatClampNeg 0).toInt64)) == 0) 50 48 [] (by rfl) (fun c => ?_) (fun c => ?_)
            ·
              have c13 : (lg_cmp ((q 107).getD l2_1.toNatClampNeg 0) (((a 75).getD l2_1.toNatClampNeg 0).toInt64)).toInt = (0 : Int32).toInt := kd_eq c; clear c
              have s14 : (l2_1 + 1).toInt = l2_1.toInt + (1 : Int32).toInt := kd_add (oz12 p1_0 kn1) (oz307 c3 fi_6787.2 kn1)
              first | refine fo_goL mi_k73 fz73_0_2_2 [(2, .int (l2_1 + 1)), (0, .ref 49), (1, .ref 106)] [] (by rfl) ?_ | refine fo_goL mi_k73 fz73_50_2_2 [(2, .int (l2_1 + 1)), (0, .ref 49), (1, .ref 106)] [] (by rfl) ?_ | refine ft_go mi_k73 2 2 [(2, .int (l2_1 + 1)), (0, .ref 49), (1, .ref 106)] [] i a q r (by rfl) ?_
              exact ih1 _ (oz14 p1_0 s14 kn1) (kj_meas (oz44 s14 kn1) (oz45 c3) hm1)
            ·
              have c15 : (lg_cmp ((q 107).getD l2_1.toNatClampNeg 0) (((a 75).getD l2_1.toNatClampNeg 0).toInt64)).toInt ≠ (0 : Int32).toInt := kd_eqF c; clear c
              first | refine fo_goS mi_k73 fz73_48_1_49 [.int l2_1] (by rfl) ?_ | refine ft_go mi_k73 1 49 [(2, .int l2_1), (0, .ref 49), (1, .ref 106)] [.int l2_1] i a q r (by rfl) ?_
              exact ft_ret mi_k73 (by rfl) (hP l2_1 trivial)
  exact lp1 _ _ (oz46 kn0) (Nat.lt_succ_self _)
set_option maxRecDepth 100000 in
theorem kc73_49_108 {i : Nat → Int32} {a : Nat → List Int32} {q : Nat → List Int64} {r : Nat → Nat} (hI : kI i a q) (hr : kr r)  : km 1 73 [.ref 49, .ref 108] (ks i a q r) (kPI (ks i a q r) (fun v => True)) := by
  have hG := kG_self kW0 hI hr
  refine km_ofPI (q := (mi_h73, mi_c73)) rfl (by decide) (Nat.le_of_ble_eq_true rfl) ?_
  intro P hP
  first | refine fo_goL mi_k73 fz73_0_2_2 [(2, .int 0), (0, .ref 49), (1, .ref 108)] [] (by rfl) ?_ | refine fo_goL mi_k73 fz73_50_2_2 [(2, .int 0), (0, .ref 49), (1, .ref 108)] [] (by rfl) ?_ | refine ft_go mi_k73 2 2 [(2, .int 0), (0, .ref 49), (1, .ref 108)] [] i a q r (by rfl) ?_
  have lp1 : ∀ (nz : Nat) (l2_1 : Int32), (0 : Int) ≤ l2_1.toInt → (((i 6915).toInt - l2_1.toInt)).toNat < nz → ko 1 (mi_h73, mi_c73) P (2, [(2, .int l2_1), (0, .ref 49), (1, .ref 108)], [], (0, 0), ks i a q r) := by
    intro nz
    induction nz with
    | zero =>
      intro _ _ hm
      exact absurd hm (Nat.not_lt_zero _)
    | succ nz ih1 =>
      intro l2_1 p1_0 hm1
      have fi_6915 : ((0 : Int) ≤ (i 6915).toInt) ∧ ((i 6915).toInt ≤ 60) := hG.I.1 6915
      first | refine fo_goL mi_k73 fz73_2_3_7 [(2, .int l2_1), (0, .ref 49), (1, .ref 108)] [.int (i 6915), .int l2_1] (by rfl) ?_ | refine ft_go mi_k73 3 7 [(2, .int l2_1), (0, .ref 49), (1, .ref 108)] [.int (i 6915), .int l2_1] i a q r (by rfl) ?_
      refine ft_ifS mi_k73 (decide ((i 6915) ≤ l2_1)) 56 10 [] (by rfl) (fun c => ?_) (fun c => ?_)
      ·
        have c2 : (i 6915).toInt ≤ l2_1.toInt := kd_le c; clear c
        first | refine fo_goS mi_k73 fz73_56_1_58 [.int (-2)] (by rfl) ?_ | refine ft_go mi_k73 1 58 [(2, .int l2_1), (0, .ref 49), (1, .ref 108)] [.int (-2)] i a q r (by rfl) ?_
        exact ft_ret mi_k73 (by rfl) (hP (-2) trivial)
      ·
        have c3 : l2_1.toInt < (i 6915).toInt := kd_leF c; clear c
        have fi_3138 : ((0 : Int) ≤ (i 3138).toInt) ∧ ((i 3138).toInt ≤ 20) := hG.I.1 3138
        first | refine fo_goS mi_k73 fz73_10_3_15 [.int (i 3138), .int l2_1] (by rfl) ?_ | refine ft_go mi_k73 3 15 [(2, .int l2_1), (0, .ref 49), (1, .ref 108)] [.int (i 3138), .int l2_1] i a q r (by rfl) ?_
        refine ft_ifS mi_k73 (decide ((i 3138) ≤ l2_1)) 48 18 [] (by rfl) (fun c => ?_) (fun c => ?_)
        ·
          have c4 : (i 3138).toInt ≤ l2_1.toInt := kd_le c; clear c
          first | refine fo_goS mi_k73 fz73_48_1_49 [.int l2_1] (by rfl) ?_ | refine ft_go mi_k73 1 49 [(2, .int l2_1), (0, .ref 49), (1, .ref 108)] [.int l2_1] i a q r (by rfl) ?_
          exact ft_ret mi_k73 (by rfl) (hP l2_1 trivial)
        ·
          have c5 : l2_1.toInt < (i 3138).toInt := kd_leF c; clear c
          first | refine fo_goS mi_k73 fz73_18_3_23 [.int l2_1, .ref 109] (by rfl) ?_ | refine ft_go mi_k73 3 23 [(2, .int l2_1), (0, .ref 49), (1, .ref 108)] [.int l2_1, .ref 109] i a q r (by rfl) ?_
          refine ko_lald2 mi_k73.1 (l := q 109) (n := 60) (c := 60) (ax := (0, 0, 0, 0, 0)) (mi_k73.2 _ _ (by rfl)) (by rfl) (by rfl) (hG.I.2.2.2 109) rfl (oz3 p1_0) (oz266 c3 fi_6915.2) ?_
          have s6 : (((lg_cmp ((q 109).getD l2_1.toNatClampNeg 0) 9).toInt < 0 ↔ ((q 109).getD l2_1.toNatClampNeg 0).toInt < (9 : Int64).toInt)) ∧ ((0 < (lg_cmp ((q 109).getD l2_1.toNatClampNeg 0) 9).toInt ↔ (9 : Int64).toInt < ((q 109).getD l2_1.toNatClampNeg 0).toInt)) := kl_cmp
          first | refine ft_goS mi_k73 2 28 [.int (lg_cmp ((q 109).getD l2_1.toNatClampNeg 0) 9)] (by rfl) ?_ | refine ft_go mi_k73 2 28 [(2, .int l2_1), (0, .ref 49), (1, .ref 108)] [.int (lg_cmp ((q 109).getD l2_1.toNatClampNeg 0) 9)] i a q r (by rfl) ?_
          refine ft_ifS mi_k73 ((lg_cmp ((q 109).getD l2_1.toNatClampNeg 0) 9) == 0) 50 31 [] (by rfl) (fun c => ?_) (fun c => ?_)
          ·
            have c7 : (lg_cmp ((q 109).getD l2_1.toNatClampNeg 0) 9).toInt = (0 : Int32).toInt := kd_eq c; clear c
            have s8 : (l2_1 + 1).toInt = l2_1.toInt + (1 : Int32).toInt := kd_add (oz12 p1_0 kn1) (oz307 c3 fi_6915.2 kn1)
            first | refine fo_goL mi_k73 fz73_0_2_2 [(2, .int (l2_1 + 1)), (0, .ref 49), (1, .ref 108)] [] (by rfl) ?_ | refine fo_goL mi_k73 fz73_50_2_2 [(2, .int (l2_1 + 1)), (0, .ref 49), (1, .ref 108)] [] (by rfl) ?_ | refine ft_go mi_k73 2 2 [(2, .int (l2_1 + 1)), (0, .ref 49), (1, .ref 108)] [] i a q r (by rfl) ?_
            exact ih1 _ (oz14 p1_0 s8 kn1) (kj_meas (oz44 s8 kn1) (oz45 c3) hm1)
          ·
            have c9 : (lg_cmp ((q 109).getD l2_1.toNatClampNeg 0) 9).toInt ≠ (0 : Int32).toInt := kd_eqF c; clear c
            first | refine fo_goS mi_k73 fz73_31_3_36 [.int l2_1, .ref 109] (by rfl) ?_ | refine ft_go mi_k73 3 36 [(2, .int l2_1), (0, .ref 49), (1, .ref 108)] [.int l2_1, .ref 109] i a q r (by rfl) ?_
            refine ko_lald2 mi_k73.1 (l := q 109) (n := 60) (c := 60) (ax := (0, 0, 0, 0, 0)) (mi_k73.2 _ _ (by rfl)) (by rfl) (by rfl) (hG.I.2.2.2 109) rfl (oz3 p1_0) (oz266 c3 fi_6915.2) ?_
            first | refine fo_goS mi_k73 fz73_37_3_42 [.int l2_1, .ref 75, .long ((q 109).getD l2_1.toNatClampNeg 0)] (by rfl) ?_ | refine ft_go mi_k73 3 42 [(2, .int l2_1), (0, .ref 49), (1, .ref 108)] [.int l2_1, .ref 75, .long ((q 109).getD l2_1.toNatClampNeg 0)] i a q r (by rfl) ?_
            refine ko_iald3 mi_k73.1 (n := 20) (c := 20) (ax := (0, 0, 0, 0, 0)) (mi_k73.2 _ _ (by rfl)) (by rfl) (ksG75 _ _ _ _) (hG.I.2.1 75) rfl (oz3 p1_0) (oz1056 c5 fi_3138.2) ?_
            have b10 : ((-2147483648 : Int) ≤ ((a 75).getD l2_1.toNatClampNeg 0).toInt) ∧ (((a 75).getD l2_1.toNatClampNeg 0).toInt ≤ 2147483647) := kd_bd ((a 75).getD l2_1.toNatClampNeg 0)
            have s11 : (((a 75).getD l2_1.toNatClampNeg 0).toInt64).toInt = ((a 75).getD l2_1.toNatClampNeg 0).toInt := kl_i2l
            have s12 : (((lg_cmp ((q 109).getD l2_1.toNatClampNeg 0) (((a 75).getD l2_1.toNatClampNeg 0).toInt64)).toInt < 0 ↔ ((q 109).getD l2_1.toNatClampNeg 0).toInt < (((a 75).getD l2_1.toNatClampNeg 0).toInt64).toInt)) ∧ ((0 < (lg_cmp ((q 109).getD l2_1.toNatClampNeg 0) (((a 75).getD l2_1.toNatClampNeg 0).toInt64)).toInt ↔ (((a 75).getD l2_1.toNatClampNeg 0).toInt64).toInt < ((q 109).getD l2_1.toNatClampNeg 0).toInt)) := kl_cmp
            first | refine fo_goS mi_k73 fz73_43_2_45 [.int (lg_cmp ((q 109).getD l2_1.toNatClampNeg 0) (((a 75).getD l2_1.toNatClampNeg 0).toInt64))] (by rfl) ?_ | refine ft_go mi_k73 2 45 [(2, .int l2_1), (0, .ref 49), (1, .ref 108)] [.int (lg_cmp ((q 109).getD l2_1.toNatClampNeg 0) (((a 75).getD l2_1.toNatClampNeg 0).toInt64))] i a q r (by rfl) ?_
            refine ft_ifS mi_k73 ((lg_cmp ((q 109).getD l2_1.toNatClampNeg 0) (((a 75).getD l2_1.toNatClampNeg 0).toInt64)) == 0) 50 48 [] (by rfl) (fun c => ?_) (fun c => ?_)
            ·
              have c13 : (lg_cmp ((q 109).getD l2_1.toNatClampNeg 0) (((a 75).getD l2_1.toNatClampNeg 0).toInt64)).toInt = (0 : Int32).toInt := kd_eq c; clear c
              have s14 : (l2_1 + 1).toInt = l2_1.toInt + (1 : Int32).toInt := kd_add (oz12 p1_0 kn1) (oz307 c3 fi_6915.2 kn1)
              first | refine fo_goL mi_k73 fz73_0_2_2 [(2, .int (l2_1 + 1)), (0, .ref 49), (1, .ref 108)] [] (by rfl) ?_ | refine fo_goL mi_k73 fz73_50_2_2 [(2, .int (l2_1 + 1)), (0, .ref 49), (1, .ref 108)] [] (by rfl) ?_ | refine ft_go mi_k73 2 2 [(2, .int (l2_1 + 1)), (0, .ref 49), (1, .ref 108)] [] i a q r (by rfl) ?_
              exact ih1 _ (oz14 p1_0 s14 kn1) (kj_meas (oz44 s14 kn1) (oz45 c3) hm1)
            ·
              have c15 : (lg_cmp ((q 109).getD l2_1.toNatClampNeg 0) (((a 75).getD l2_1.toNatClampNeg 0).toInt64)).toInt ≠ (0 : Int32).toInt := kd_eqF c; clear c
              first | refine fo_goS mi_k73 fz73_48_1_49 [.int l2_1] (by rfl) ?_ | refine ft_go mi_k73 1 49 [(2, .int l2_1), (0, .ref 49), (1, .ref 108)] [.int l2_1] i a q r (by rfl) ?_
              exact ft_ret mi_k73 (by rfl) (hP l2_1 trivial)
  exact lp1 _ _ (oz46 kn0) (Nat.lt_succ_self _)
set_option maxRecDepth 100000 in
theorem kc73_49_110 {i : Nat → Int32} {a : Nat → List Int32} {q : Nat → List Int64} {r : Nat → Nat} (hI : kI i a q) (hr : kr r)  : km 1 73 [.ref 49, .ref 110] (ks i a q r) (kPI (ks i a q r) (fun v => True)) := by
  have hG := kG_self kW0 hI hr
  refine km_ofPI (q := (mi_h73, mi_c73)) rfl (by decide) (Nat.le_of_ble_eq_true rfl) ?_
  intro P hP
  first | refine fo_goL mi_k73 fz73_0_2_2 [(2, .int 0), (0, .ref 49), (1, .ref 110)] [] (by rfl) ?_ | refine fo_goL mi_k73 fz73_50_2_2 [(2, .int 0), (0, .ref 49), (1, .ref 110)] [] (by rfl) ?_ | refine ft_go mi_k73 2 2 [(2, .int 0), (0, .ref 49), (1, .ref 110)] [] i a q r (by rfl) ?_
  have lp1 : ∀ (nz : Nat) (l2_1 : Int32), (0 : Int) ≤ l2_1.toInt → (((i 7043).toInt - l2_1.toInt)).toNat < nz → ko 1 (mi_h73, mi_c73) P (2, [(2, .int l2_1), (0, .ref 49), (1, .ref 110)], [], (0, 0), ks i a q r) := by
    intro nz
    induction nz with
    | zero =>
      intro _ _ hm
      exact absurd hm (Nat.not_lt_zero _)
    | succ nz ih1 =>
      intro l2_1 p1_0 hm1
      have fi_7043 : ((0 : Int) ≤ (i 7043).toInt) ∧ ((i 7043).toInt ≤ 60) := hG.I.1 7043
      first | refine fo_goL mi_k73 fz73_2_3_7 [(2, .int l2_1), (0, .ref 49), (1, .ref 110)] [.int (i 7043), .int l2_1] (by rfl) ?_ | refine ft_go mi_k73 3 7 [(2, .int l2_1), (0, .ref 49), (1, .ref 110)] [.int (i 7043), .int l2_1] i a q r (by rfl) ?_
      refine ft_ifS mi_k73 (decide ((i 7043) ≤ l2_1)) 56 10 [] (by rfl) (fun c => ?_) (fun c => ?_)
      ·
        have c2 : (i 7043).toInt ≤ l2_1.toInt := kd_le c; clear c
        first | refine fo_goS mi_k73 fz73_56_1_58 [.int (-2)] (by rfl) ?_ | refine ft_go mi_k73 1 58 [(2, .int l2_1), (0, .ref 49), (1, .ref 110)] [.int (-2)] i a q r (by rfl) ?_
        exact ft_ret mi_k73 (by rfl) (hP (-2) trivial)
      ·
        have c3 : l2_1.toInt < (i 7043).toInt := kd_leF c; clear c
        have fi_3138 : ((0 : Int) ≤ (i 3138).toInt) ∧ ((i 3138).toInt ≤ 20) := hG.I.1 3138
        first | refine fo_goS mi_k73 fz73_10_3_15 [.int (i 3138), .int l2_1] (by rfl) ?_ | refine ft_go mi_k73 3 15 [(2, .int l2_1), (0, .ref 49), (1, .ref 110)] [.int (i 3138), .int l2_1] i a q r (by rfl) ?_
        refine ft_ifS mi_k73 (decide ((i 3138) ≤ l2_1)) 48 18 [] (by rfl) (fun c => ?_) (fun c => ?_)
        ·
          have c4 : (i 3138).toInt ≤ l2_1.toInt := kd_le c; clear c
          first | refine fo_goS mi_k73 fz73_48_1_49 [.int l2_1] (by rfl) ?_ | refine ft_go mi_k73 1 49 [(2, .int l2_1), (0, .ref 49), (1, .ref 110)] [.int l2_1] i a q r (by rfl) ?_
          exact ft_ret mi_k73 (by rfl) (hP l2_1 trivial)
        ·
          have c5 : l2_1.toInt < (i 3138).toInt := kd_leF c; clear c
          first | refine fo_goS mi_k73 fz73_18_3_23 [.int l2_1, .ref 111] (by rfl) ?_ | refine ft_go mi_k73 3 23 [(2, .int l2_1), (0, .ref 49), (1, .ref 110)] [.int l2_1, .ref 111] i a q r (by rfl) ?_
          refine ko_lald2 mi_k73.1 (l := q 111) (n := 60) (c := 60) (ax := (0, 0, 0, 0, 0)) (mi_k73.2 _ _ (by rfl)) (by rfl) (by rfl) (hG.I.2.2.2 111) rfl (oz3 p1_0) (oz266 c3 fi_7043.2) ?_
          have s6 : (((lg_cmp ((q 111).getD l2_1.toNatClampNeg 0) 9).toInt < 0 ↔ ((q 111).getD l2_1.toNatClampNeg 0).toInt < (9 : Int64).toInt)) ∧ ((0 < (lg_cmp ((q 111).getD l2_1.toNatClampNeg 0) 9).toInt ↔ (9 : Int64).toInt < ((q 111).getD l2_1.toNatClampNeg 0).toInt)) := kl_cmp
          first | refine ft_goS mi_k73 2 28 [.int (lg_cmp ((q 111).getD l2_1.toNatClampNeg 0) 9)] (by rfl) ?_ | refine ft_go mi_k73 2 28 [(2, .int l2_1), (0, .ref 49), (1, .ref 110)] [.int (lg_cmp ((q 111).getD l2_1.toNatClampNeg 0) 9)] i a q r (by rfl) ?_
          refine ft_ifS mi_k73 ((lg_cmp ((q 111).getD l2_1.toNatClampNeg 0) 9) == 0) 50 31 [] (by rfl) (fun c => ?_) (fun c => ?_)
          ·
            have c7 : (lg_cmp ((q 111).getD l2_1.toNatClampNeg 0) 9).toInt = (0 : Int32).toInt := kd_eq c; clear c
            have s8 : (l2_1 + 1).toInt = l2_1.toInt + (1 : Int32).toInt := kd_add (oz12 p1_0 kn1) (oz307 c3 fi_7043.2 kn1)
            first | refine fo_goL mi_k73 fz73_0_2_2 [(2, .int (l2_1 + 1)), (0, .ref 49), (1, .ref 110)] [] (by rfl) ?_ | refine fo_goL mi_k73 fz73_50_2_2 [(2, .int (l2_1 + 1)), (0, .ref 49), (1, .ref 110)] [] (by rfl) ?_ | refine ft_go mi_k73 2 2 [(2, .int (l2_1 + 1)), (0, .ref 49), (1, .ref 110)] [] i a q r (by rfl) ?_
            exact ih1 _ (oz14 p1_0 s8 kn1) (kj_meas (oz44 s8 kn1) (oz45 c3) hm1)
          ·
            have c9 : (lg_cmp ((q 111).getD l2_1.toNatClampNeg 0) 9).toInt ≠ (0 : Int32).toInt := kd_eqF c; clear c
            first | refine fo_goS mi_k73 fz73_31_3_36 [.int l2_1, .ref 111] (by rfl) ?_ | refine ft_go mi_k73 3 36 [(2, .int l2_1), (0, .ref 49), (1, .ref 110)] [.int l2_1, .ref 111] i a q r (by rfl) ?_
            refine ko_lald2 mi_k73.1 (l := q 111) (n := 60) (c := 60) (ax := (0, 0, 0, 0, 0)) (mi_k73.2 _ _ (by rfl)) (by rfl) (by rfl) (hG.I.2.2.2 111) rfl (oz3 p1_0) (oz266 c3 fi_7043.2) ?_
            first | refine fo_goS mi_k73 fz73_37_3_42 [.int l2_1, .ref 75, .long ((q 111).getD l2_1.toNatClampNeg 0)] (by rfl) ?_ | refine ft_go mi_k73 3 42 [(2, .int l2_1), (0, .ref 49), (1, .ref 110)] [.int l2_1, .ref 75, .long ((q 111).getD l2_1.toNatClampNeg 0)] i a q r (by rfl) ?_
            refine ko_iald3 mi_k73.1 (n := 20) (c := 20) (ax := (0, 0, 0, 0, 0)) (mi_k73.2 _ _ (by rfl)) (by rfl) (ksG75 _ _ _ _) (hG.I.2.1 75) rfl (oz3 p1_0) (oz1056 c5 fi_3138.2) ?_
            have b10 : ((-2147483648 : Int) ≤ ((a 75).getD l2_1.toNatClampNeg 0).toInt) ∧ (((a 75).getD l2_1.toNatClampNeg 0).toInt ≤ 2147483647) := kd_bd ((a 75).getD l2_1.toNatClampNeg 0)
            have s11 : (((a 75).getD l2_1.toNatClampNeg 0).toInt64).toInt = ((a 75).getD l2_1.toNatClampNeg 0).toInt := kl_i2l
            have s12 : (((lg_cmp ((q 111).getD l2_1.toNatClampNeg 0) (((a 75).getD l2_1.toNatClampNeg 0).toInt64)).toInt < 0 ↔ ((q 111).getD l2_1.toNatClampNeg 0).toInt < (((a 75).getD l2_1.toNatClampNeg 0).toInt64).toInt)) ∧ ((0 < (lg_cmp ((q 111).getD l2_1.toNatClampNeg 0) (((a 75).getD l2_1.toNatClampNeg 0).toInt64)).toInt ↔ (((a 75).getD l2_1.toNatClampNeg 0).toInt64).toInt < ((q 111).getD l2_1.toNatClampNeg 0).toInt)) := kl_cmp
            first | refine fo_goS mi_k73 fz73_43_2_45 [.int (lg_cmp ((q 111).getD l2_1.toNatClampNeg 0) (((a 75).getD l2_1.toNatClampNeg 0).toInt64))] (by rfl) ?_ | refine ft_go mi_k73 2 45 [(2, .int l2_1), (0, .ref 49), (1, .ref 110)] [.int (lg_cmp ((q 111).getD l2_1.toNatClampNeg 0) (((a 75).getD l2_1.toNatClampNeg 0).toInt64))] i a q r (by rfl) ?_
            refine ft_ifS mi_k73 ((lg_cmp ((q 111).getD l2_1.toNatClampNeg 0) (((a 75).getD l2_1.toNatClampNeg 0).toInt64)) == 0) 50 48 [] (by rfl) (fun c => ?_) (fun c => ?_)
            ·
              have c13 : (lg_cmp ((q 111).getD l2_1.toNatClampNeg 0) (((a 75).getD l2_1.toNatClampNeg 0).toInt64)).toInt = (0 : Int32).toInt := kd_eq c; clear c
              have s14 : (l2_1 + 1).toInt = l2_1.toInt + (1 : Int32).toInt := kd_add (oz12 p1_0 kn1) (oz307 c3 fi_7043.2 kn1)
              first | refine fo_goL mi_k73 fz73_0_2_2 [(2, .int (l2_1 + 1)), (0, .ref 49), (1, .ref 110)] [] (by rfl) ?_ | refine fo_goL mi_k73 fz73_50_2_2 [(2, .int (l2_1 + 1)), (0, .ref 49), (1, .ref 110)] [] (by rfl) ?_ | refine ft_go mi_k73 2 2 [(2, .int (l2_1 + 1)), (0, .ref 49), (1, .ref 110)] [] i a q r (by rfl) ?_
              exact ih1 _ (oz14 p1_0 s14 kn1) (kj_meas (oz44 s14 kn1) (oz45 c3) hm1)
            ·
              have c15 : (lg_cmp ((q 111).getD l2_1.toNatClampNeg 0) (((a 75).getD l2_1.toNatClampNeg 0).toInt64)).toInt ≠ (0 : Int32).toInt := kd_eqF c; clear c
              first | refine fo_goS mi_k73 fz73_48_1_49 [.int l2_1] (by rfl) ?_ | refine ft_go mi_k73 1 49 [(2, .int l2_1), (0, .ref 49), (1, .ref 110)] [.int l2_1] i a q r (by rfl) ?_
              exact ft_ret mi_k73 (by rfl) (hP l2_1 trivial)
  exact lp1 _ _ (oz46 kn0) (Nat.lt_succ_self _)
set_option maxRecDepth 100000 in
theorem kc73_49_112 {i : Nat → Int32} {a : Nat → List Int32} {q : Nat → List Int64} {r : Nat → Nat} (hI : kI i a q) (hr : kr r)  : km 1 73 [.ref 49, .ref 112] (ks i a q r) (kPI (ks i a q r) (fun v => True)) := by
  have hG := kG_self kW0 hI hr
  refine km_ofPI (q := (mi_h73, mi_c73)) rfl (by decide) (Nat.le_of_ble_eq_true rfl) ?_
  intro P hP
  first | refine fo_goL mi_k73 fz73_0_2_2 [(2, .int 0), (0, .ref 49), (1, .ref 112)] [] (by rfl) ?_ | refine fo_goL mi_k73 fz73_50_2_2 [(2, .int 0), (0, .ref 49), (1, .ref 112)] [] (by rfl) ?_ | refine ft_go mi_k73 2 2 [(2, .int 0), (0, .ref 49), (1, .ref 112)] [] i a q r (by rfl) ?_
  have lp1 : ∀ (nz : Nat) (l2_1 : Int32), (0 : Int) ≤ l2_1.toInt → (((i 7171).toInt - l2_1.toInt)).toNat < nz → ko 1 (mi_h73, mi_c73) P (2, [(2, .int l2_1), (0, .ref 49), (1, .ref 112)], [], (0, 0), ks i a q r) := by
    intro nz
    induction nz with
    | zero =>
      intro _ _ hm
      exact absurd hm (Nat.not_lt_zero _)
    | succ nz ih1 =>
      intro l2_1 p1_0 hm1
      have fi_7171 : ((0 : Int) ≤ (i 7171).toInt) ∧ ((i 7171).toInt ≤ 60) := hG.I.1 7171
      first | refine fo_goL mi_k73 fz73_2_3_7 [(2, .int l2_1), (0, .ref 49), (1, .ref 112)] [.int (i 7171), .int l2_1] (by rfl) ?_ | refine ft_go mi_k73 3 7 [(2, .int l2_1), (0, .ref 49), (1, .ref 112)] [.int (i 7171), .int l2_1] i a q r (by rfl) ?_
      refine ft_ifS mi_k73 (decide ((i 7171) ≤ l2_1)) 56 10 [] (by rfl) (fun c => ?_) (fun c => ?_)
      ·
        have c2 : (i 7171).toInt ≤ l2_1.toInt := kd_le c; clear c
        first | refine fo_goS mi_k73 fz73_56_1_58 [.int (-2)] (by rfl) ?_ | refine ft_go mi_k73 1 58 [(2, .int l2_1), (0, .ref 49), (1, .ref 112)] [.int (-2)] i a q r (by rfl) ?_
        exact ft_ret mi_k73 (by rfl) (hP (-2) trivial)
      ·
        have c3 : l2_1.toInt < (i 7171).toInt := kd_leF c; clear c
        have fi_3138 : ((0 : Int) ≤ (i 3138).toInt) ∧ ((i 3138).toInt ≤ 20) := hG.I.1 3138
        first | refine fo_goS mi_k73 fz73_10_3_15 [.int (i 3138), .int l2_1] (by rfl) ?_ | refine ft_go mi_k73 3 15 [(2, .int l2_1), (0, .ref 49), (1, .ref 112)] [.int (i 3138), .int l2_1] i a q r (by rfl) ?_
        refine ft_ifS mi_k73 (decide ((i 3138) ≤ l2_1)) 48 18 [] (by rfl) (fun c => ?_) (fun c => ?_)
        ·
          have c4 : (i 3138).toInt ≤ l2_1.toInt := kd_le c; clear c
          first | refine fo_goS mi_k73 fz73_48_1_49 [.int l2_1] (by rfl) ?_ | refine ft_go mi_k73 1 49 [(2, .int l2_1), (0, .ref 49), (1, .ref 112)] [.int l2_1] i a q r (by rfl) ?_
          exact ft_ret mi_k73 (by rfl) (hP l2_1 trivial)
        ·
          have c5 : l2_1.toInt < (i 3138).toInt := kd_leF c; clear c
          first | refine fo_goS mi_k73 fz73_18_3_23 [.int l2_1, .ref 113] (by rfl) ?_ | refine ft_go mi_k73 3 23 [(2, .int l2_1), (0, .ref 49), (1, .ref 112)] [.int l2_1, .ref 113] i a q r (by rfl) ?_
          refine ko_lald2 mi_k73.1 (l := q 113) (n := 60) (c := 60) (ax := (0, 0, 0, 0, 0)) (mi_k73.2 _ _ (by rfl)) (by rfl) (by rfl) (hG.I.2.2.2 113) rfl (oz3 p1_0) (oz266 c3 fi_7171.2) ?_
          have s6 : (((lg_cmp ((q 113).getD l2_1.toNatClampNeg 0) 9).toInt < 0 ↔ ((q 113).getD l2_1.toNatClampNeg 0).toInt < (9 : Int64).toInt)) ∧ ((0 < (lg_cmp ((q 113).getD l2_1.toNatClampNeg 0) 9).toInt ↔ (9 : Int64).toInt < ((q 113).getD l2_1.toNatClampNeg 0).toInt)) := kl_cmp
          first | refine ft_goS mi_k73 2 28 [.int (lg_cmp ((q 113).getD l2_1.toNatClampNeg 0) 9)] (by rfl) ?_ | refine ft_go mi_k73 2 28 [(2, .int l2_1), (0, .ref 49), (1, .ref 112)] [.int (lg_cmp ((q 113).getD l2_1.toNatClampNeg 0) 9)] i a q r (by rfl) ?_
          refine ft_ifS mi_k73 ((lg_cmp ((q 113).getD l2_1.toNatClampNeg 0) 9) == 0) 50 31 [] (by rfl) (fun c => ?_) (fun c => ?_)
          ·
            have c7 : (lg_cmp ((q 113).getD l2_1.toNatClampNeg 0) 9).toInt = (0 : Int32).toInt := kd_eq c; clear c
            have s8 : (l2_1 + 1).toInt = l2_1.toInt + (1 : Int32).toInt := kd_add (oz12 p1_0 kn1) (oz307 c3 fi_7171.2 kn1)
            first | refine fo_goL mi_k73 fz73_0_2_2 [(2, .int (l2_1 + 1)), (0, .ref 49), (1, .ref 112)] [] (by rfl) ?_ | refine fo_goL mi_k73 fz73_50_2_2 [(2, .int (l2_1 + 1)), (0, .ref 49), (1, .ref 112)] [] (by rfl) ?_ | refine ft_go mi_k73 2 2 [(2, .int (l2_1 + 1)), (0, .ref 49), (1, .ref 112)] [] i a q r (by rfl) ?_
            exact ih1 _ (oz14 p1_0 s8 kn1) (kj_meas (oz44 s8 kn1) (oz45 c3) hm1)
          ·
            have c9 : (lg_cmp ((q 113).getD l2_1.toNatClampNeg 0) 9).toInt ≠ (0 : Int32).toInt := kd_eqF c; clear c
            first | refine fo_goS mi_k73 fz73_31_3_36 [.int l2_1, .ref 113] (by rfl) ?_ | refine ft_go mi_k73 3 36 [(2, .int l2_1), (0, .ref 49), (1, .ref 112)] [.int l2_1, .ref 113] i a q r (by rfl) ?_
            refine ko_lald2 mi_k73.1 (l := q 113) (n := 60) (c := 60) (ax := (0, 0, 0, 0, 0)) (mi_k73.2 _ _ (by rfl)) (by rfl) (by rfl) (hG.I.2.2.2 113) rfl (oz3 p1_0) (oz266 c3 fi_7171.2) ?_
            first | refine fo_goS mi_k73 fz73_37_3_42 [.int l2_1, .ref 75, .long ((q 113).getD l2_1.toNatClampNeg 0)] (by rfl) ?_ | refine ft_go mi_k73 3 42 [(2, .int l2_1), (0, .ref 49), (1, .ref 112)] [.int l2_1, .ref 75, .long ((q 113).getD l2_1.toNatClampNeg 0)] i a q r (by rfl) ?_
            refine ko_iald3 mi_k73.1 (n := 20) (c := 20) (ax := (0, 0, 0, 0, 0)) (mi_k73.2 _ _ (by rfl)) (by rfl) (ksG75 _ _ _ _) (hG.I.2.1 75) rfl (oz3 p1_0) (oz1056 c5 fi_3138.2) ?_
            have b10 : ((-2147483648 : Int) ≤ ((a 75).getD l2_1.toNatClampNeg 0).toInt) ∧ (((a 75).getD l2_1.toNatClampNeg 0).toInt ≤ 2147483647) := kd_bd ((a 75).getD l2_1.toNatClampNeg 0)
            have s11 : (((a 75).getD l2_1.toNatClampNeg 0).toInt64).toInt = ((a 75).getD l2_1.toNatClampNeg 0).toInt := kl_i2l
            have s12 : (((lg_cmp ((q 113).getD l2_1.toNatClampNeg 0) (((a 75).getD l2_1.toNatClampNeg 0).toInt64)).toInt < 0 ↔ ((q 113).getD l2_1.toNatClampNeg 0).toInt < (((a 75).getD l2_1.toNatClampNeg 0).toInt64).toInt)) ∧ ((0 < (lg_cmp ((q 113).getD l2_1.toNatClampNeg 0) (((a 75).getD l2_1.toNatClampNeg 0).toInt64)).toInt ↔ (((a 75).getD l2_1.toNatClampNeg 0).toInt64).toInt < ((q 113).getD l2_1.toNatClampNeg 0).toInt)) := kl_cmp
            first | refine fo_goS mi_k73 fz73_43_2_45 [.int (lg_cmp ((q 113).getD l2_1.toNatClampNeg 0) (((a 75).getD l2_1.toNatClampNeg 0).toInt64))] (by rfl) ?_ | refine ft_go mi_k73 2 45 [(2, .int l2_1), (0, .ref 49), (1, .ref 112)] [.int (lg_cmp ((q 113).getD l2_1.toNatClampNeg 0) (((a 75).getD l2_1.toNatClampNeg 0).toInt64))] i a q r (by rfl) ?_
            refine ft_ifS mi_k73 ((lg_cmp ((q 113).getD l2_1.toNatClampNeg 0) (((a 75).getD l2_1.toNatClampNeg 0).toInt64)) == 0) 50 48 [] (by rfl) (fun c => ?_) (fun c => ?_)
            ·
              have c13 : (lg_cmp ((q 113).getD l2_1.toNatClampNeg 0) (((a 75).getD l2_1.toNatClampNeg 0).toInt64)).toInt = (0 : Int32).toInt := kd_eq c; clear c
              have s14 : (l2_1 + 1).toInt = l2_1.toInt + (1 : Int32).toInt := kd_add (oz12 p1_0 kn1) (oz307 c3 fi_7171.2 kn1)
              first | refine fo_goL mi_k73 fz73_0_2_2 [(2, .int (l2_1 + 1)), (0, .ref 49), (1, .ref 112)] [] (by rfl) ?_ | refine fo_goL mi_k73 fz73_50_2_2 [(2, .int (l2_1 + 1)), (0, .ref 49), (1, .ref 112)] [] (by rfl) ?_ | refine ft_go mi_k73 2 2 [(2, .int (l2_1 + 1)), (0, .ref 49), (1, .ref 112)] [] i a q r (by rfl) ?_
              exact ih1 _ (oz14 p1_0 s14 kn1) (kj_meas (oz44 s14 kn1) (oz45 c3) hm1)
            ·
              have c15 : (lg_cmp ((q 113).getD l2_1.toNatClampNeg 0) (((a 75).getD l2_1.toNatClampNeg 0).toInt64)).toInt ≠ (0 : Int32).toInt := kd_eqF c; clear c
              first | refine fo_goS mi_k73 fz73_48_1_49 [.int l2_1] (by rfl) ?_ | refine ft_go mi_k73 1 49 [(2, .int l2_1), (0, .ref 49), (1, .ref 112)] [.int l2_1] i a q r (by rfl) ?_
              exact ft_ret mi_k73 (by rfl) (hP l2_1 trivial)
  exact lp1 _ _ (oz46 kn0) (Nat.lt_succ_self _)
set_option maxRecDepth 100000 in
theorem kc73_49_114 {i : Nat → Int32} {a : Nat → List Int32} {q : Nat → List Int64} {r : Nat → Nat} (hI : kI i a q) (hr : kr r)  : km 1 73 [.ref 49, .ref 114] (ks i a q r) (kPI (ks i a q r) (fun v => True)) := by
  have hG := kG_self kW0 hI hr
  refine km_ofPI (q := (mi_h73, mi_c73)) rfl (by decide) (Nat.le_of_ble_eq_true rfl) ?_
  intro P hP
  first | refine fo_goL mi_k73 fz73_0_2_2 [(2, .int 0), (0, .ref 49), (1, .ref 114)] [] (by rfl) ?_ | refine fo_goL mi_k73 fz73_50_2_2 [(2, .int 0), (0, .ref 49), (1, .ref 114)] [] (by rfl) ?_ | refine ft_go mi_k73 2 2 [(2, .int 0), (0, .ref 49), (1, .ref 114)] [] i a q r (by rfl) ?_
  have lp1 : ∀ (nz : Nat) (l2_1 : Int32), (0 : Int) ≤ l2_1.toInt → (((i 7299).toInt - l2_1.toInt)).toNat < nz → ko 1 (mi_h73, mi_c73) P (2, [(2, .int l2_1), (0, .ref 49), (1, .ref 114)], [], (0, 0), ks i a q r) := by
    intro nz
    induction nz with
    | zero =>
      intro _ _ hm
      exact absurd hm (Nat.not_lt_zero _)
    | succ nz ih1 =>
      intro l2_1 p1_0 hm1
      have fi_7299 : ((0 : Int) ≤ (i 7299).toInt) ∧ ((i 7299).toInt ≤ 60) := hG.I.1 7299
      first | refine fo_goL mi_k73 fz73_2_3_7 [(2, .int l2_1), (0, .ref 49), (1, .ref 114)] [.int (i 7299), .int l2_1] (by rfl) ?_ | refine ft_go mi_k73 3 7 [(2, .int l2_1), (0, .ref 49), (1, .ref 114)] [.int (i 7299), .int l2_1] i a q r (by rfl) ?_
      refine ft_ifS mi_k73 (decide ((i 7299) ≤ l2_1)) 56 10 [] (by rfl) (fun c => ?_) (fun c => ?_)
      ·
        have c2 : (i 7299).toInt ≤ l2_1.toInt := kd_le c; clear c
        first | refine fo_goS mi_k73 fz73_56_1_58 [.int (-2)] (by rfl) ?_ | refine ft_go mi_k73 1 58 [(2, .int l2_1), (0, .ref 49), (1, .ref 114)] [.int (-2)] i a q r (by rfl) ?_
        exact ft_ret mi_k73 (by rfl) (hP (-2) trivial)
      ·
        have c3 : l2_1.toInt < (i 7299).toInt := kd_leF c; clear c
        have fi_3138 : ((0 : Int) ≤ (i 3138).toInt) ∧ ((i 3138).toInt ≤ 20) := hG.I.1 3138
        first | refine fo_goS mi_k73 fz73_10_3_15 [.int (i 3138), .int l2_1] (by rfl) ?_ | refine ft_go mi_k73 3 15 [(2, .int l2_1), (0, .ref 49), (1, .ref 114)] [.int (i 3138), .int l2_1] i a q r (by rfl) ?_
        refine ft_ifS mi_k73 (decide ((i 3138) ≤ l2_1)) 48 18 [] (by rfl) (fun c => ?_) (fun c => ?_)
        ·
          have c4 : (i 3138).toInt ≤ l2_1.toInt := kd_le c; clear c
          first | refine fo_goS mi_k73 fz73_48_1_49 [.int l2_1] (by rfl) ?_ | refine ft_go mi_k73 1 49 [(2, .int l2_1), (0, .ref 49), (1, .ref 114)] [.int l2_1] i a q r (by rfl) ?_
          exact ft_ret mi_k73 (by rfl) (hP l2_1 trivial)
        ·
          have c5 : l2_1.toInt < (i 3138).toInt := kd_leF c; clear c
          first | refine fo_goS mi_k73 fz73_18_3_23 [.int l2_1, .ref 115] (by rfl) ?_ | refine ft_go mi_k73 3 23 [(2, .int l2_1), (0, .ref 49), (1, .ref 114)] [.int l2_1, .ref 115] i a q r (by rfl) ?_
          refine ko_lald2 mi_k73.1 (l := q 115) (n := 60) (c := 60) (ax := (0, 0, 0, 0, 0)) (mi_k73.2 _ _ (by rfl)) (by rfl) (by rfl) (hG.I.2.2.2 115) rfl (oz3 p1_0) (oz266 c3 fi_7299.2) ?_
          have s6 : (((lg_cmp ((q 115).getD l2_1.toNatClampNeg 0) 9).toInt < 0 ↔ ((q 115).getD l2_1.toNatClampNeg 0).toInt < (9 : Int64).toInt)) ∧ ((0 < (lg_cmp ((q 115).getD l2_1.toNatClampNeg 0) 9).toInt ↔ (9 : Int64).toInt < ((q 115).getD l2_1.toNatClampNeg 0).toInt)) := kl_cmp
          first | refine ft_goS mi_k73 2 28 [.int (lg_cmp ((q 115).getD l2_1.toNatClampNeg 0) 9)] (by rfl) ?_ | refine ft_go mi_k73 2 28 [(2, .int l2_1), (0, .ref 49), (1, .ref 114)] [.int (lg_cmp ((q 115).getD l2_1.toNatClampNeg 0) 9)] i a q r (by rfl) ?_
          refine ft_ifS mi_k73 ((lg_cmp ((q 115).getD l2_1.toNatClampNeg 0) 9) == 0) 50 31 [] (by rfl) (fun c => ?_) (fun c => ?_)
          ·
            have c7 : (lg_cmp ((q 115).getD l2_1.toNatClampNeg 0) 9).toInt = (0 : Int32).toInt := kd_eq c; clear c
            have s8 : (l2_1 + 1).toInt = l2_1.toInt + (1 : Int32).toInt := kd_add (oz12 p1_0 kn1) (oz307 c3 fi_7299.2 kn1)
            first | refine fo_goL mi_k73 fz73_0_2_2 [(2, .int (l2_1 + 1)), (0, .ref 49), (1, .ref 114)] [] (by rfl) ?_ | refine fo_goL mi_k73 fz73_50_2_2 [(2, .int (l2_1 + 1)), (0, .ref 49), (1, .ref 114)] [] (by rfl) ?_ | refine ft_go mi_k73 2 2 [(2, .int (l2_1 + 1)), (0, .ref 49), (1, .ref 114)] [] i a q r (by rfl) ?_
            exact ih1 _ (oz14 p1_0 s8 kn1) (kj_meas (oz44 s8 kn1) (oz45 c3) hm1)
          ·
            have c9 : (lg_cmp ((q 115).getD l2_1.toNatClampNeg 0) 9).toInt ≠ (0 : Int32).toInt := kd_eqF c; clear c
            first | refine fo_goS mi_k73 fz73_31_3_36 [.int l2_1, .ref 115] (by rfl) ?_ | refine ft_go mi_k73 3 36 [(2, .int l2_1), (0, .ref 49), (1, .ref 114)] [.int l2_1, .ref 115] i a q r (by rfl) ?_
            refine ko_lald2 mi_k73.1 (l := q 115) (n := 60) (c := 60) (ax := (0, 0, 0, 0, 0)) (mi_k73.2 _ _ (by rfl)) (by rfl) (by rfl) (hG.I.2.2.2 115) rfl (oz3 p1_0) (oz266 c3 fi_7299.2) ?_
            first | refine fo_goS mi_k73 fz73_37_3_42 [.int l2_1, .ref 75, .long ((q 115).getD l2_1.toNatClampNeg 0)] (by rfl) ?_ | refine ft_go mi_k73 3 42 [(2, .int l2_1), (0, .ref 49), (1, .ref 114)] [.int l2_1, .ref 75, .long ((q 115).getD l2_1.toNatClampNeg 0)] i a q r (by rfl) ?_
            refine ko_iald3 mi_k73.1 (n := 20) (c := 20) (ax := (0, 0, 0, 0, 0)) (mi_k73.2 _ _ (by rfl)) (by rfl) (ksG75 _ _ _ _) (hG.I.2.1 75) rfl (oz3 p1_0) (oz1056 c5 fi_3138.2) ?_
            have b10 : ((-2147483648 : Int) ≤ ((a 75).getD l2_1.toNatClampNeg 0).toInt) ∧ (((a 75).getD l2_1.toNatClampNeg 0).toInt ≤ 2147483647) := kd_bd ((a 75).getD l2_1.toNatClampNeg 0)
            have s11 : (((a 75).getD l2_1.toNatClampNeg 0).toInt64).toInt = ((a 75).getD l2_1.toNatClampNeg 0).toInt := kl_i2l
            have s12 : (((lg_cmp ((q 115).getD l2_1.toNatClampNeg 0) (((a 75).getD l2_1.toNatClampNeg 0).toInt64)).toInt < 0 ↔ ((q 115).getD l2_1.toNatClampNeg 0).toInt < (((a 75).getD l2_1.toNatClampNeg 0).toInt64).toInt)) ∧ ((0 < (lg_cmp ((q 115).getD l2_1.toNatClampNeg 0) (((a 75).getD l2_1.toNatClampNeg 0).toInt64)).toInt ↔ (((a 75).getD l2_1.toNatClampNeg 0).toInt64).toInt < ((q 115).getD l2_1.toNatClampNeg 0).toInt)) := kl_cmp
            first | refine fo_goS mi_k73 fz73_43_2_45 [.int (lg_cmp ((q 115).getD l2_1.toNatClampNeg 0) (((a 75).getD l2_1.toNatClampNeg 0).toInt64))] (by rfl) ?_ | refine ft_go mi_k73 2 45 [(2, .int l2_1), (0, .ref 49), (1, .ref 114)] [.int (lg_cmp ((q 115).getD l2_1.toNatClampNeg 0) (((a 75).getD l2_1.toNatClampNeg 0).toInt64))] i a q r (by rfl) ?_
            refine ft_ifS mi_k73 ((lg_cmp ((q 115).getD l2_1.toNatClampNeg 0) (((a 75).getD l2_1.toNatClampNeg 0).toInt64)) == 0) 50 48 [] (by rfl) (fun c => ?_) (fun c => ?_)
            ·
              have c13 : (lg_cmp ((q 115).getD l2_1.toNatClampNeg 0) (((a 75).getD l2_1.toNatClampNeg 0).toInt64)).toInt = (0 : Int32).toInt := kd_eq c; clear c
              have s14 : (l2_1 + 1).toInt = l2_1.toInt + (1 : Int32).toInt := kd_add (oz12 p1_0 kn1) (oz307 c3 fi_7299.2 kn1)
              first | refine fo_goL mi_k73 fz73_0_2_2 [(2, .int (l2_1 + 1)), (0, .ref 49), (1, .ref 114)] [] (by rfl) ?_ | refine fo_goL mi_k73 fz73_50_2_2 [(2, .int (l2_1 + 1)), (0, .ref 49), (1, .ref 114)] [] (by rfl) ?_ | refine ft_go mi_k73 2 2 [(2, .int (l2_1 + 1)), (0, .ref 49), (1, .ref 114)] [] i a q r (by rfl) ?_
              exact ih1 _ (oz14 p1_0 s14 kn1) (kj_meas (oz44 s14 kn1) (oz45 c3) hm1)
            ·
              have c15 : (lg_cmp ((q 115).getD l2_1.toNatClampNeg 0) (((a 75).getD l2_1.toNatClampNeg 0).toInt64)).toInt ≠ (0 : Int32).toInt := kd_eqF c; clear c
              first | refine fo_goS mi_k73 fz73_48_1_49 [.int l2_1] (by rfl) ?_ | refine ft_go mi_k73 1 49 [(2, .int l2_1), (0, .ref 49), (1, .ref 114)] [.int l2_1] i a q r (by rfl) ?_
              exact ft_ret mi_k73 (by rfl) (hP l2_1 trivial)
  exact lp1 _ _ (oz46 kn0) (Nat.lt_succ_self _)
def w97_0 : kW := ([645, 3138, 3200, 3206, 3207, 3208, 3209, 3214, 3215, 3216, 3586, 3781, 6405], [13, 51, 52, 53, 54, 55, 57, 58, 62, 63, 65, 66, 67, 68, 69, 70, 71, 72, 73, 74, 75, 76, 77, 103], [], [1])
set_option maxRecDepth 100000 in
theorem kc97_0 {i : Nat → Int32} {a : Nat → List Int32} {q : Nat → List Int64} {r : Nat → Nat} (hI : kI i a q) (hr : kr r) (x1 : Int32) : km 13 97 [.ref 0, .int x1] (ks i a q r) (kVI w97_0 i a q r (fun v i1 a1 q1 r1 => True)) := by
  have hG := kG_self w97_0 hI hr
  refine km_ofI (q := (mi_h97, mi_c97)) rfl (by decide) (Nat.le_of_ble_eq_true rfl) ?_
  intro P hP
  first | refine ft_goL mi_k97 1 1 [(0, .ref 0), (1, .int x1)] [.int x1] (by rfl) ?_ | refine ft_go mi_k97 1 1 [(0, .ref 0), (1, .int x1)] [.int x1] i a q r (by rfl) ?_ | refine ko_steps mi_in97 1 _ (1, [(0, .ref 0), (1, .int x1)], [.int x1], (0, 0), ks i a q r) (by rfl) ?_
  refine ko_callPI mi_k97.1 (pc := 1) (ls := [(0, .ref 0), (1, .int x1)]) (st := [.int x1]) (h := ks i a q r) (i := (.invokestatic 214, 3, 122, 0, 9, 0, 260)) (mi_k97.2 _ _ (by rfl)) (ft_invS mi_pq122 (by rfl)) (cy := mi_c122) mi_pq122 rfl (kc122 hG.I hG.R x1) (by decide) ?_
  intro vg1 hg1
  rcases hg1 with ⟨eg1, hg1⟩ | ⟨eg1, hg1⟩
  ·
    subst eg1
    have z2 : ((0 : Int) ≤ x1.toInt) ∧ (((0 : Int) ≤ (x1.toInt / 10)) ∧ ((x1.toInt / 10) ≤ 5)) ∧ ((x1.toInt % 10) ≤ 5) := hg1
    have s3 : (x1 / 10).toInt = (x1.toInt / 10) := kd_div 10 kn10 (by decide) (oz3 z2.1)
    first | refine fo_goS mi_k97 fz97_4_5_14 [.int (x1 / 10), .ref 0] (by rfl) ?_ | refine ft_go mi_k97 5 14 [(0, .ref 0), (1, .int x1)] [.int (x1 / 10), .ref 0] i a q r (by rfl) ?_ | refine ko_steps mi_in97 5 _ (14, [(0, .ref 0), (1, .int x1)], [.int (x1 / 10), .ref 0], (0, 0), ks i a q r) (by rfl) ?_
    refine ko_callI mi_k97.1 (pc := 14) (ls := [(0, .ref 0), (1, .int x1)]) (st := [.int (x1 / 10), .ref 0]) (h := ks i a q r) (i := (.invokevirtual 144, 3, 129, 0, 9, 0, 208)) (mi_k97.2 _ _ (by rfl)) (ft_invS mi_pq129 (by rfl)) (cy := mi_c129) mi_pq129 rfl (kc129_0 hG.I hG.R (x1 / 10)) (by decide) ?_
    intro vg4 ig4 ag4 qg4 rg4 kg4 hg4
    have hGg4 := kG_call hG kg4 (by decide +kernel)
    have z5 : (vg4.toInt < 0) ∨ (vg4.toInt = 0) := hg4
    first | refine ft_goL mi_k97 2 19 [(2, .int vg4), (0, .ref 0), (1, .int x1)] [.int vg4] (by rfl) ?_ | refine ft_go mi_k97 2 19 [(2, .int vg4), (0, .ref 0), (1, .int x1)] [.int vg4] ig4 ag4 qg4 rg4 (by rfl) ?_ | refine ko_steps mi_in97 2 _ (19, [(2, .int vg4), (0, .ref 0), (1, .int x1)], [.int vg4], (0, 0), ks ig4 ag4 qg4 rg4) (by rfl) ?_
    refine ft_ifS mi_k97 (vg4 != 0) 31 22 [] (by rfl) (fun c => ?_) (fun c => ?_)
    ·
      have c6 : vg4.toInt ≠ (0 : Int32).toInt := kd_ne c; clear c
      first | refine ft_goS mi_k97 1 32 [.int vg4] (by rfl) ?_ | refine ft_go mi_k97 1 32 [(2, .int vg4), (0, .ref 0), (1, .int x1)] [.int vg4] ig4 ag4 qg4 rg4 (by rfl) ?_ | refine ko_steps mi_in97 1 _ (32, [(2, .int vg4), (0, .ref 0), (1, .int x1)], [.int vg4], (0, 0), ks ig4 ag4 qg4 rg4) (by rfl) ?_
      refine ft_ifS mi_k97 (decide (0 ≤ vg4)) 37 35 [] (by rfl) (fun c => ?_) (fun c => ?_)
      ·
        have c7 : (0 : Int32).toInt ≤ vg4.toInt := kd_le c; clear c
        exact (oz1170 c6 c7 z5 kn0).elim
      ·
        have c8 : vg4.toInt < (0 : Int32).toInt := kd_leF c; clear c
        first | refine ft_goS mi_k97 1 36 [.int vg4] (by rfl) ?_ | refine ft_go mi_k97 1 36 [(2, .int vg4), (0, .ref 0), (1, .int x1)] [.int vg4] ig4 ag4 qg4 rg4 (by rfl) ?_ | refine ko_steps mi_in97 1 _ (36, [(2, .int vg4), (0, .ref 0), (1, .int x1)], [.int vg4], (0, 0), ks ig4 ag4 qg4 rg4) (by rfl) ?_
        exact ft_ret mi_k97 (by rfl) (hP vg4 _ _ _ _ hGg4 trivial)
    ·
      have c9 : vg4.toInt = (0 : Int32).toInt := kd_neF c; clear c
      have s10 : (x1 - x1 / 10 * 10).toInt = (x1.toInt % 10) := kd_rem 10 kn10 (by decide) (oz3 z2.1)
      first | refine ft_goS mi_k97 4 27 [.int (x1 - x1 / 10 * 10), .ref 0] (by rfl) ?_ | refine ft_go mi_k97 4 27 [(2, .int vg4), (0, .ref 0), (1, .int x1)] [.int (x1 - x1 / 10 * 10), .ref 0] ig4 ag4 qg4 rg4 (by rfl) ?_ | refine ko_steps mi_in97 4 _ (27, [(2, .int vg4), (0, .ref 0), (1, .int x1)], [.int (x1 - x1 / 10 * 10), .ref 0], (0, 0), ks ig4 ag4 qg4 rg4) (by rfl) ?_
      refine ko_callPI mi_k97.1 (pc := 27) (ls := [(2, .int vg4), (0, .ref 0), (1, .int x1)]) (st := [.int (x1 - x1 / 10 * 10), .ref 0]) (h := ks ig4 ag4 qg4 rg4) (i := (.invokevirtual 217, 3, 127, 0, 9, 0, 209)) (mi_k97.2 _ _ (by rfl)) (ft_invS mi_pq127 (by rfl)) (cy := mi_c127) mi_pq127 rfl (kc127_0 hGg4.I hGg4.R (x1 - x1 / 10 * 10)) (by decide) ?_
      intro vg11 hg11
      first | refine ft_goS mi_k97 2 32 [.int vg11] (by rfl) ?_ | refine ft_goL mi_k97 2 32 [(2, .int vg11), (0, .ref 0), (1, .int x1)] [.int vg11] (by rfl) ?_ | refine ft_go mi_k97 2 32 [(2, .int vg11), (0, .ref 0), (1, .int x1)] [.int vg11] ig4 ag4 qg4 rg4 (by rfl) ?_ | refine ko_steps mi_in97 2 _ (32, [(2, .int vg11), (0, .ref 0), (1, .int x1)], [.int vg11], (0, 0), ks ig4 ag4 qg4 rg4) (by rfl) ?_
      refine ft_ifS mi_k97 (decide (0 ≤ vg11)) 37 35 [] (by rfl) (fun c => ?_) (fun c => ?_)
      ·
        have c13 : (0 : Int32).toInt ≤ vg11.toInt := kd_le c; clear c
        first | refine ft_goS mi_k97 4 45 [.ref 1, .ref 49] (by rfl) ?_ | refine ft_go mi_k97 4 45 [(2, .int vg11), (0, .ref 0), (1, .int x1)] [.ref 1, .ref 49] ig4 ag4 qg4 rg4 (by rfl) ?_ | refine ko_steps mi_in97 4 _ (45, [(2, .int vg11), (0, .ref 0), (1, .int x1)], [.ref 1, .ref 49], (0, 0), ks ig4 ag4 qg4 rg4) (by rfl) ?_
        refine ko_callN mi_k97.1 (pc := 45) (ls := [(2, .int vg11), (0, .ref 0), (1, .int x1)]) (st := [.ref 1, .ref 49]) (h := ks ig4 ag4 qg4 rg4) (i := (.invokevirtual 147, 3, 59, 0, 9, 0, 211)) (mi_k97.2 _ _ (by rfl)) (ft_invS mi_pq59 (by rfl)) (cy := mi_c59) mi_pq59 rfl (kc59_49_1 hGg4.I hGg4.R ) (by decide) ?_
        intro ig14 ag14 qg14 rg14 kg14 hg14
        have hGg14 := kG_call hGg4 kg14 (by decide +kernel)
        first | refine fo_goS mi_k97 fz97_48_7_60 [.int (x1 - x1 / 10 * 10), .ref 97, .ref 49] (by rfl) ?_ | refine ft_go mi_k97 7 60 [(2, .int vg11), (0, .ref 0), (1, .int x1)] [.int (x1 - x1 / 10 * 10), .ref 97, .ref 49] ig14 ag14 qg14 rg14 (by rfl) ?_ | refine ko_steps mi_in97 7 _ (60, [(2, .int vg11), (0, .ref 0), (1, .int x1)], [.int (x1 - x1 / 10 * 10), .ref 97, .ref 49], (0, 0), ks ig14 ag14 qg14 rg14) (by rfl) ?_
        by_cases w15 : (x1 - x1 / 10 * 10).toInt = 0
        ·
          refine ft_alx mi_k97 (pc := 60) (v := 0) (p := 97) (z := 104) (kj_eq w15 (by decide) : (x1 - x1 / 10 * 10) = 0) (by decide +kernel) (by decide +kernel) ?_
          refine ko_callPI mi_k97.1 (pc := 61) (ls := [(2, .int vg11), (0, .ref 0), (1, .int x1)]) (st := [.ref 104, .ref 49]) (h := ks ig14 ag14 qg14 rg14) (i := (.invokevirtual 220, 3, 73, 0, 9, 0, 261)) (mi_k97.2 _ _ (by rfl)) (ft_invS mi_pq73 (by rfl)) (cy := mi_c73) mi_pq73 rfl (kc73_49_104 hGg14.I hGg14.R ) (by decide) ?_
          intro vg16 hg16
          exact ft_ret mi_k97 (by rfl) (hP vg16 _ _ _ _ hGg14 trivial)
        by_cases w17 : (x1 - x1 / 10 * 10).toInt = 1
        ·
          refine ft_alx mi_k97 (pc := 60) (v := 1) (p := 97) (z := 106) (kj_eq w17 (by decide) : (x1 - x1 / 10 * 10) = 1) (by decide +kernel) (by decide +kernel) ?_
          refine ko_callPI mi_k97.1 (pc := 61) (ls := [(2, .int vg11), (0, .ref 0), (1, .int x1)]) (st := [.ref 106, .ref 49]) (h := ks ig14 ag14 qg14 rg14) (i := (.invokevirtual 220, 3, 73, 0, 9, 0, 261)) (mi_k97.2 _ _ (by rfl)) (ft_invS mi_pq73 (by rfl)) (cy := mi_c73) mi_pq73 rfl (kc73_49_106 hGg14.I hGg14.R ) (by decide) ?_
          intro vg18 hg18
          exact ft_ret mi_k97 (by rfl) (hP vg18 _ _ _ _ hGg14 trivial)
        by_cases w19 : (x1 - x1 / 10 * 10).toInt = 2
        ·
          refine ft_alx mi_k97 (pc := 60) (v := 2) (p := 97) (z := 108) (kj_eq w19 (by decide) : (x1 - x1 / 10 * 10) = 2) (by decide +kernel) (by decide +kernel) ?_
          refine ko_callPI mi_k97.1 (pc := 61) (ls := [(2, .int vg11), (0, .ref 0), (1, .int x1)]) (st := [.ref 108, .ref 49]) (h := ks ig14 ag14 qg14 rg14) (i := (.invokevirtual 220, 3, 73, 0, 9, 0, 261)) (mi_k97.2 _ _ (by rfl)) (ft_invS mi_pq73 (by rfl)) (cy := mi_c73) mi_pq73 rfl (kc73_49_108 hGg14.I hGg14.R ) (by decide) ?_
          intro vg20 hg20
          exact ft_ret mi_k97 (by rfl) (hP vg20 _ _ _ _ hGg14 trivial)
        by_cases w21 : (x1 - x1 / 10 * 10).toInt = 3
        ·
          refine ft_alx mi_k97 (pc := 60) (v := 3) (p := 97) (z := 110) (kj_eq w21 (by decide) : (x1 - x1 / 10 * 10) = 3) (by decide +kernel) (by decide +kernel) ?_
          refine ko_callPI mi_k97.1 (pc := 61) (ls := [(2, .int vg11), (0, .ref 0), (1, .int x1)]) (st := [.ref 110, .ref 49]) (h := ks ig14 ag14 qg14 rg14) (i := (.invokevirtual 220, 3, 73, 0, 9, 0, 261)) (mi_k97.2 _ _ (by rfl)) (ft_invS mi_pq73 (by rfl)) (cy := mi_c73) mi_pq73 rfl (kc73_49_110 hGg14.I hGg14.R ) (by decide) ?_
          intro vg22 hg22
          exact ft_ret mi_k97 (by rfl) (hP vg22 _ _ _ _ hGg14 trivial)
        by_cases w23 : (x1 - x1 / 10 * 10).toInt = 4
        ·
          refine ft_alx mi_k97 (pc := 60) (v := 4) (p := 97) (z := 112) (kj_eq w23 (by decide) : (x1 - x1 / 10 * 10) = 4) (by decide +kernel) (by decide +kernel) ?_
          refine ko_callPI mi_k97.1 (pc := 61) (ls := [(2, .int vg11), (0, .ref 0), (1, .int x1)]) (st := [.ref 112, .ref 49]) (h := ks ig14 ag14 qg14 rg14) (i := (.invokevirtual 220, 3, 73, 0, 9, 0, 261)) (mi_k97.2 _ _ (by rfl)) (ft_invS mi_pq73 (by rfl)) (cy := mi_c73) mi_pq73 rfl (kc73_49_112 hGg14.I hGg14.R ) (by decide) ?_
          intro vg24 hg24
          exact ft_ret mi_k97 (by rfl) (hP vg24 _ _ _ _ hGg14 trivial)
        by_cases w25 : (x1 - x1 / 10 * 10).toInt = 5
        ·
          refine ft_alx mi_k97 (pc := 60) (v := 5) (p := 97) (z := 114) (kj_eq w25 (by decide) : (x1 - x1 / 10 * 10) = 5) (by decide +kernel) (by decide +kernel) ?_
          refine ko_callPI mi_k97.1 (pc := 61) (ls := [(2, .int vg11), (0, .ref 0), (1, .int x1)]) (st := [.ref 114, .ref 49]) (h := ks ig14 ag14 qg14 rg14) (i := (.invokevirtual 220, 3, 73, 0, 9, 0, 261)) (mi_k97.2 _ _ (by rfl)) (ft_invS mi_pq73 (by rfl)) (cy := mi_c73) mi_pq73 rfl (kc73_49_114 hGg14.I hGg14.R ) (by decide) ?_
          intro vg26 hg26
          exact ft_ret mi_k97 (by rfl) (hP vg26 _ _ _ _ hGg14 trivial)
        exact (oz1172 s10 w15 w17 w19 w21 w23 w25 z2.2.2).elim
      ·
        have c27 : vg11.toInt < (0 : Int32).toInt := kd_leF c; clear c
        first | refine ft_goS mi_k97 1 36 [.int vg11] (by rfl) ?_ | refine ft_go mi_k97 1 36 [(2, .int vg11), (0, .ref 0), (1, .int x1)] [.int vg11] ig4 ag4 qg4 rg4 (by rfl) ?_ | refine ko_steps mi_in97 1 _ (36, [(2, .int vg11), (0, .ref 0), (1, .int x1)], [.int vg11], (0, 0), ks ig4 ag4 qg4 rg4) (by rfl) ?_
        exact ft_ret mi_k97 (by rfl) (hP vg11 _ _ _ _ hGg4 trivial)
  ·
    subst eg1
    first | refine ft_goS mi_k97 2 8 [.int (-1)] (by rfl) ?_ | refine ft_go mi_k97 2 8 [(0, .ref 0), (1, .int x1)] [.int (-1)] i a q r (by rfl) ?_ | refine ko_steps mi_in97 2 _ (8, [(0, .ref 0), (1, .int x1)], [.int (-1)], (0, 0), ks i a q r) (by rfl) ?_
    exact ft_ret mi_k97 (by rfl) (hP (-1) _ _ _ _ hG trivial)
def w75_49_1_104 : kW := ([645, 3200, 3206, 3207, 3208, 3209, 3214, 3215, 3216, 3586, 3781, 6405], [13, 51, 52, 53, 54, 55, 57, 58, 62, 63, 65, 66, 67, 68, 69, 70, 71, 72, 73, 74, 75, 76, 77, 103], [], [1])
def w75_49_1_104_L6 : kW := ([645, 3200, 3206, 3207, 3208, 3209, 3214, 3215, 3216, 3586, 3781, 6405], [13, 51, 52, 53, 54, 55, 57, 58, 62, 63, 65, 66, 67, 68, 69, 70, 71, 72, 73, 74, 75, 76, 77, 103], [], [1])
set_option maxRecDepth 100000 in
theorem kc75_49_1_104 {i : Nat → Int32} {a : Nat → List Int32} {q : Nat → List Int64} {r : Nat → Nat} (hI : kI i a q) (hr : kr r) (x3 : Int32) (hp0 : ((0 : Int) ≤ x3.toInt) ∧ (x3.toInt ≤ 19)) : km 11 75 [.ref 49, .ref 1, .ref 104, .int x3] (ks i a q r) (kVI w75_49_1_104 i a q r (fun v i1 a1 q1 r1 => True)) := by
  have hG := kG_self w75_49_1_104 hI hr
  refine km_ofI (q := (mi_h75, mi_c75)) rfl (by decide) (Nat.le_of_ble_eq_true rfl) ?_
  intro P hP
  first | refine fo_goL mi_k75 fz75_0_4_6 [(5, .int 0), (4, .int 0), (0, .ref 49), (1, .ref 1), (2, .ref 104), (3, .int x3)] [] (by rfl) ?_ | refine ft_goL mi_k75 4 6 [(5, .int 0), (4, .int 0), (0, .ref 49), (1, .ref 1), (2, .ref 104), (3, .int x3)] [] (by rfl) ?_ | refine ft_go mi_k75 4 6 [(5, .int 0), (4, .int 0), (0, .ref 49), (1, .ref 1), (2, .ref 104), (3, .int x3)] [] i a q r (by rfl) ?_
  have lp1 : ∀ (nz : Nat) (i1 : Nat → Int32) (a1 : Nat → List Int32) (q1 : Nat → List Int64) (r1 : Nat → Nat) (l5_1 : Int32) (l4_1 : Int32), kG w75_49_1_104_L6 i a q r i1 a1 q1 r1 → (0 : Int) ≤ l5_1.toInt → (((i1 64).toInt - l5_1.toInt)).toNat < nz → ko 11 (mi_h75, mi_c75) P (6, [(5, .int l5_1), (4, .int l4_1), (0, .ref 49), (1, .ref 1), (2, .ref 104), (3, .int x3)], [], (0, 0), ks i1 a1 q1 r1) := by
    intro nz
    induction nz with
    | zero =>
      intro _ _ _ _ _ _ _ _ hm
      exact absurd hm (Nat.not_lt_zero _)
    | succ nz ih1 =>
      intro i1 a1 q1 r1 l5_1 l4_1 hL1 p1_0 hm1
      have fi1_64 : ((0 : Int) ≤ (i1 64).toInt) ∧ ((i1 64).toInt ≤ 8) := hL1.I.1 64
      first | refine fo_goL mi_k75 fz75_6_3_12 [(5, .int l5_1), (4, .int l4_1), (0, .ref 49), (1, .ref 1), (2, .ref 104), (3, .int x3)] [.int (i1 64), .int l5_1] (by rfl) ?_ | refine ft_go mi_k75 3 12 [(5, .int l5_1), (4, .int l4_1), (0, .ref 49), (1, .ref 1), (2, .ref 104), (3, .int x3)] [.int (i1 64), .int l5_1] i1 a1 q1 r1 (by rfl) ?_
      refine ft_ifS mi_k75 (decide ((i1 64) ≤ l5_1)) 60 15 [] (by rfl) (fun c => ?_) (fun c => ?_)
      ·
        have c2 : (i1 64).toInt ≤ l5_1.toInt := kd_le c; clear c
        have hG3 := kG_call hG hL1 (by decide +kernel)
        first | refine fo_goS mi_k75 fz75_60_1_62 [.int l4_1] (by rfl) ?_ | refine ft_go mi_k75 1 62 [(5, .int l5_1), (4, .int l4_1), (0, .ref 49), (1, .ref 1), (2, .ref 104), (3, .int x3)] [.int l4_1] i1 a1 q1 r1 (by rfl) ?_
        exact ft_ret mi_k75 (by rfl) (hP l4_1 _ _ _ _ hG3 trivial)
      ·
        have c4 : l5_1.toInt < (i1 64).toInt := kd_leF c; clear c
        first | refine fo_goS mi_k75 fz75_15_4_22 [.int l5_1, .int x3, .ref 74] (by rfl) ?_ | refine ft_go mi_k75 4 22 [(5, .int l5_1), (4, .int l4_1), (0, .ref 49), (1, .ref 1), (2, .ref 104), (3, .int x3)] [.int l5_1, .int x3, .ref 74] i1 a1 q1 r1 (by rfl) ?_
        refine ko_iast3 mi_k75.1 (n := 20) (c := 20) (ax := (0, 0, 0, 0, 0)) (mi_k75.2 _ _ (by rfl)) (by rfl) (ksG74 _ _ _ _) (ksA74 _ _ _ _) (hL1.I.2.1 74) rfl (oz3 hp0.1) (oz1065 hp0.2) ?_
        intro a5 ea5 fa5
        have hJ5 := kG_a3 hL1 74 rfl ea5 fa5 (kd_bd _)
        first | refine fo_goS mi_k75 fz75_23_3_28 [.ref 1, .ref 50] (by rfl) ?_ | refine ft_go mi_k75 3 28 [(5, .int l5_1), (4, .int l4_1), (0, .ref 49), (1, .ref 1), (2, .ref 104), (3, .int x3)] [.ref 1, .ref 50] i1 a5 q1 r1 (by rfl) ?_
        refine ko_callN mi_k75.1 (pc := 28) (ls := [(5, .int l5_1), (4, .int l4_1), (0, .ref 49), (1, .ref 1), (2, .ref 104), (3, .int x3)]) (st := [.ref 1, .ref 50]) (h := ks i1 a5 q1 r1) (i := (.invokevirtual 56, 3, 34, 0, 9, 0, 212)) (mi_k75.2 _ _ (by rfl)) (ft_invS mi_pq34 (by rfl)) (cy := mi_c34) mi_pq34 rfl (kc34_50_1 hJ5.I hJ5.R ) (by decide) ?_
        intro ig6 ag6 qg6 rg6 kg6 hg6
        have hGg6 := kG_call hJ5 kg6 (by decide +kernel)
        first | refine fo_goS mi_k75 fz75_31_1_32 [.ref 49] (by rfl) ?_ | refine ft_go mi_k75 1 32 [(5, .int l5_1), (4, .int l4_1), (0, .ref 49), (1, .ref 1), (2, .ref 104), (3, .int x3)] [.ref 49] ig6 ag6 qg6 rg6 (by rfl) ?_
        refine ko_callN mi_k75.1 (pc := 32) (ls := [(5, .int l5_1), (4, .int l4_1), (0, .ref 49), (1, .ref 1), (2, .ref 104), (3, .int x3)]) (st := [.ref 49]) (h := ks ig6 ag6 qg6 rg6) (i := (.invokevirtual 60, 3, 60, 0, 9, 0, 219)) (mi_k75.2 _ _ (by rfl)) (ft_invS mi_pq60 (by rfl)) (cy := mi_c60) mi_pq60 rfl (kc60_49 hGg6.I hGg6.R ) (by decide) ?_
        intro ig7 ag7 qg7 rg7 kg7 hg7
        have hGg7 := kG_call hGg6 kg7 (by decide +kernel)
        first | refine fo_goS mi_k75 fz75_35_2_37 [.ref 104, .ref 49] (by rfl) ?_ | refine ft_go mi_k75 2 37 [(5, .int l5_1), (4, .int l4_1), (0, .ref 49), (1, .ref 1), (2, .ref 104), (3, .int x3)] [.ref 104, .ref 49] ig7 ag7 qg7 rg7 (by rfl) ?_
        refine ko_callPI mi_k75.1 (pc := 37) (ls := [(5, .int l5_1), (4, .int l4_1), (0, .ref 49), (1, .ref 1), (2, .ref 104), (3, .int x3)]) (st := [.ref 104, .ref 49]) (h := ks ig7 ag7 qg7 rg7) (i := (.invokevirtual 126, 3, 73, 0, 9, 0, 265)) (mi_k75.2 _ _ (by rfl)) (ft_invS mi_pq73 (by rfl)) (cy := mi_c73) mi_pq73 rfl (kc73_49_104 hGg7.I hGg7.R ) (by decide) ?_
        intro vg8 hg8
        first | refine fo_goS mi_k75 fz75_40_1_42 [.int (-2), .int vg8] (by rfl) ?_ | refine ft_go mi_k75 1 42 [(5, .int l5_1), (4, .int l4_1), (0, .ref 49), (1, .ref 1), (2, .ref 104), (3, .int x3)] [.int (-2), .int vg8] ig7 ag7 qg7 rg7 (by rfl) ?_
        refine ft_ifS mi_k75 (vg8 != (-2)) 54 45 [] (by rfl) (fun c => ?_) (fun c => ?_)
        ·
          have c9 : vg8.toInt ≠ ((-2) : Int32).toInt := kd_ne c; clear c
          have s10 : (l5_1 + 1).toInt = l5_1.toInt + (1 : Int32).toInt := kd_add (oz12 p1_0 kn1) (oz442 c4 fi1_64.2 kn1)
          first | refine fo_goL mi_k75 fz75_3_2_6 [(5, .int (l5_1 + 1)), (4, .int l4_1), (0, .ref 49), (1, .ref 1), (2, .ref 104), (3, .int x3)] [] (by rfl) ?_ | refine fo_goL mi_k75 fz75_54_2_6 [(5, .int (l5_1 + 1)), (4, .int l4_1), (0, .ref 49), (1, .ref 1), (2, .ref 104), (3, .int x3)] [] (by rfl) ?_ | refine ft_go mi_k75 2 6 [(5, .int (l5_1 + 1)), (4, .int l4_1), (0, .ref 49), (1, .ref 1), (2, .ref 104), (3, .int x3)] [] ig7 ag7 qg7 rg7 (by rfl) ?_
          have efig6_64 : (ig6 64).toInt = (i1 64).toInt := kg6.ti 64 rfl
          have efig7_64 : (ig7 64).toInt = (ig6 64).toInt := kg7.ti 64 rfl
          exact ih1 _ _ _ _ _ _ hGg7 (oz14 p1_0 s10 kn1) (kj_meas (oz1175 efig6_64 efig7_64 s10 kn1) (oz45 c4) hm1)
        ·
          have c11 : vg8.toInt = ((-2) : Int32).toInt := kd_neF c; clear c
          have s12 : ((1 : Int) ≤ (1 <<< (l5_1 &&& 31)).toInt) ∧ ((1 <<< (l5_1 &&& 31)).toInt ≤ 256) := kd_shl1 (oz3 p1_0) (oz513 c4 fi1_64.2)
          have s13 : (l5_1 + 1).toInt = l5_1.toInt + (1 : Int32).toInt := kd_add (oz12 p1_0 kn1) (oz442 c4 fi1_64.2 kn1)
          first | refine ft_goL mi_k75 8 6 [(5, .int (l5_1 + 1)), (4, .int (l4_1 ||| (1 <<< (l5_1 &&& 31)))), (0, .ref 49), (1, .ref 1), (2, .ref 104), (3, .int x3)] [] (by rfl) ?_ | refine ft_go mi_k75 8 6 [(5, .int (l5_1 + 1)), (4, .int (l4_1 ||| (1 <<< (l5_1 &&& 31)))), (0, .ref 49), (1, .ref 1), (2, .ref 104), (3, .int x3)] [] ig7 ag7 qg7 rg7 (by rfl) ?_
          have efig6_64 : (ig6 64).toInt = (i1 64).toInt := kg6.ti 64 rfl
          have efig7_64 : (ig7 64).toInt = (ig6 64).toInt := kg7.ti 64 rfl
          exact ih1 _ _ _ _ _ _ hGg7 (oz14 p1_0 s13 kn1) (kj_meas (oz1175 efig6_64 efig7_64 s13 kn1) (oz45 c4) hm1)
  exact lp1 _ _ _ _ _ _ _ (kG_self _ hG.I hG.R) (oz46 kn0) (Nat.lt_succ_self _)
def w75_49_1_106 : kW := ([645, 3200, 3206, 3207, 3208, 3209, 3214, 3215, 3216, 3586, 3781, 6405], [13, 51, 52, 53, 54, 55, 57, 58, 62, 63, 65, 66, 67, 68, 69, 70, 71, 72, 73, 74, 75, 76, 77, 103], [], [1])
def w75_49_1_106_L6 : kW := ([645, 3200, 3206, 3207, 3208, 3209, 3214, 3215, 3216, 3586, 3781, 6405], [13, 51, 52, 53, 54, 55, 57, 58, 62, 63, 65, 66, 67, 68, 69, 70, 71, 72, 73, 74, 75, 76, 77, 103], [], [1])
set_option maxRecDepth 100000 in
theorem kc75_49_1_106 {i : Nat → Int32} {a : Nat → List Int32} {q : Nat → List Int64} {r : Nat → Nat} (hI : kI i a q) (hr : kr r) (x3 : Int32) (hp0 : ((0 : Int) ≤ x3.toInt) ∧ (x3.toInt ≤ 19)) : km 11 75 [.ref 49, .ref 1, .ref 106, .int x3] (ks i a q r) (kVI w75_49_1_106 i a q r (fun v i1 a1 q1 r1 => True)) := by
  have hG := kG_self w75_49_1_106 hI hr
  refine km_ofI (q := (mi_h75, mi_c75)) rfl (by decide) (Nat.le_of_ble_eq_true rfl) ?_
  intro P hP
  first | refine fo_goL mi_k75 fz75_0_4_6 [(5, .int 0), (4, .int 0), (0, .ref 49), (1, .ref 1), (2, .ref 106), (3, .int x3)] [] (by rfl) ?_ | refine ft_goL mi_k75 4 6 [(5, .int 0), (4, .int 0), (0, .ref 49), (1, .ref 1), (2, .ref 106), (3, .int x3)] [] (by rfl) ?_ | refine ft_go mi_k75 4 6 [(5, .int 0), (4, .int 0), (0, .ref 49), (1, .ref 1), (2, .ref 106), (3, .int x3)] [] i a q r (by rfl) ?_
  have lp1 : ∀ (nz : Nat) (i1 : Nat → Int32) (a1 : Nat → List Int32) (q1 : Nat → List Int64) (r1 : Nat → Nat) (l5_1 : Int32) (l4_1 : Int32), kG w75_49_1_106_L6 i a q r i1 a1 q1 r1 → (0 : Int) ≤ l5_1.toInt → (((i1 64).toInt - l5_1.toInt)).toNat < nz → ko 11 (mi_h75, mi_c75) P (6, [(5, .int l5_1), (4, .int l4_1), (0, .ref 49), (1, .ref 1), (2, .ref 106), (3, .int x3)], [], (0, 0), ks i1 a1 q1 r1) := by
    intro nz
    induction nz with
    | zero =>
      intro _ _ _ _ _ _ _ _ hm
      exact absurd hm (Nat.not_lt_zero _)
    | succ nz ih1 =>
      intro i1 a1 q1 r1 l5_1 l4_1 hL1 p1_0 hm1
      have fi1_64 : ((0 : Int) ≤ (i1 64).toInt) ∧ ((i1 64).toInt ≤ 8) := hL1.I.1 64
      first | refine fo_goL mi_k75 fz75_6_3_12 [(5, .int l5_1), (4, .int l4_1), (0, .ref 49), (1, .ref 1), (2, .ref 106), (3, .int x3)] [.int (i1 64), .int l5_1] (by rfl) ?_ | refine ft_go mi_k75 3 12 [(5, .int l5_1), (4, .int l4_1), (0, .ref 49), (1, .ref 1), (2, .ref 106), (3, .int x3)] [.int (i1 64), .int l5_1] i1 a1 q1 r1 (by rfl) ?_
      refine ft_ifS mi_k75 (decide ((i1 64) ≤ l5_1)) 60 15 [] (by rfl) (fun c => ?_) (fun c => ?_)
      ·
        have c2 : (i1 64).toInt ≤ l5_1.toInt := kd_le c; clear c
        have hG3 := kG_call hG hL1 (by decide +kernel)
        first | refine fo_goS mi_k75 fz75_60_1_62 [.int l4_1] (by rfl) ?_ | refine ft_go mi_k75 1 62 [(5, .int l5_1), (4, .int l4_1), (0, .ref 49), (1, .ref 1), (2, .ref 106), (3, .int x3)] [.int l4_1] i1 a1 q1 r1 (by rfl) ?_
        exact ft_ret mi_k75 (by rfl) (hP l4_1 _ _ _ _ hG3 trivial)
      ·
        have c4 : l5_1.toInt < (i1 64).toInt := kd_leF c; clear c
        first | refine fo_goS mi_k75 fz75_15_4_22 [.int l5_1, .int x3, .ref 74] (by rfl) ?_ | refine ft_go mi_k75 4 22 [(5, .int l5_1), (4, .int l4_1), (0, .ref 49), (1, .ref 1), (2, .ref 106), (3, .int x3)] [.int l5_1, .int x3, .ref 74] i1 a1 q1 r1 (by rfl) ?_
        refine ko_iast3 mi_k75.1 (n := 20) (c := 20) (ax := (0, 0, 0, 0, 0)) (mi_k75.2 _ _ (by rfl)) (by rfl) (ksG74 _ _ _ _) (ksA74 _ _ _ _) (hL1.I.2.1 74) rfl (oz3 hp0.1) (oz1065 hp0.2) ?_
        intro a5 ea5 fa5
        have hJ5 := kG_a3 hL1 74 rfl ea5 fa5 (kd_bd _)
        first | refine fo_goS mi_k75 fz75_23_3_28 [.ref 1, .ref 50] (by rfl) ?_ | refine ft_go mi_k75 3 28 [(5, .int l5_1), (4, .int l4_1), (0, .ref 49), (1, .ref 1), (2, .ref 106), (3, .int x3)] [.ref 1, .ref 50] i1 a5 q1 r1 (by rfl) ?_
        refine ko_callN mi_k75.1 (pc := 28) (ls := [(5, .int l5_1), (4, .int l4_1), (0, .ref 49), (1, .ref 1), (2, .ref 106), (3, .int x3)]) (st := [.ref 1, .ref 50]) (h := ks i1 a5 q1 r1) (i := (.invokevirtual 56, 3, 34, 0, 9, 0, 212)) (mi_k75.2 _ _ (by rfl)) (ft_invS mi_pq34 (by rfl)) (cy := mi_c34) mi_pq34 rfl (kc34_50_1 hJ5.I hJ5.R ) (by decide) ?_
        intro ig6 ag6 qg6 rg6 kg6 hg6
        have hGg6 := kG_call hJ5 kg6 (by decide +kernel)
        first | refine fo_goS mi_k75 fz75_31_1_32 [.ref 49] (by rfl) ?_ | refine ft_go mi_k75 1 32 [(5, .int l5_1), (4, .int l4_1), (0, .ref 49), (1, .ref 1), (2, .ref 106), (3, .int x3)] [.ref 49] ig6 ag6 qg6 rg6 (by rfl) ?_
        refine ko_callN mi_k75.1 (pc := 32) (ls := [(5, .int l5_1), (4, .int l4_1), (0, .ref 49), (1, .ref 1), (2, .ref 106), (3, .int x3)]) (st := [.ref 49]) (h := ks ig6 ag6 qg6 rg6) (i := (.invokevirtual 60, 3, 60, 0, 9, 0, 219)) (mi_k75.2 _ _ (by rfl)) (ft_invS mi_pq60 (by rfl)) (cy := mi_c60) mi_pq60 rfl (kc60_49 hGg6.I hGg6.R ) (by decide) ?_
        intro ig7 ag7 qg7 rg7 kg7 hg7
        have hGg7 := kG_call hGg6 kg7 (by decide +kernel)
        first | refine fo_goS mi_k75 fz75_35_2_37 [.ref 106, .ref 49] (by rfl) ?_ | refine ft_go mi_k75 2 37 [(5, .int l5_1), (4, .int l4_1), (0, .ref 49), (1, .ref 1), (2, .ref 106), (3, .int x3)] [.ref 106, .ref 49] ig7 ag7 qg7 rg7 (by rfl) ?_
        refine ko_callPI mi_k75.1 (pc := 37) (ls := [(5, .int l5_1), (4, .int l4_1), (0, .ref 49), (1, .ref 1), (2, .ref 106), (3, .int x3)]) (st := [.ref 106, .ref 49]) (h := ks ig7 ag7 qg7 rg7) (i := (.invokevirtual 126, 3, 73, 0, 9, 0, 265)) (mi_k75.2 _ _ (by rfl)) (ft_invS mi_pq73 (by rfl)) (cy := mi_c73) mi_pq73 rfl (kc73_49_106 hGg7.I hGg7.R ) (by decide) ?_
        intro vg8 hg8
        first | refine fo_goS mi_k75 fz75_40_1_42 [.int (-2), .int vg8] (by rfl) ?_ | refine ft_go mi_k75 1 42 [(5, .int l5_1), (4, .int l4_1), (0, .ref 49), (1, .ref 1), (2, .ref 106), (3, .int x3)] [.int (-2), .int vg8] ig7 ag7 qg7 rg7 (by rfl) ?_
        refine ft_ifS mi_k75 (vg8 != (-2)) 54 45 [] (by rfl) (fun c => ?_) (fun c => ?_)
        ·
          have c9 : vg8.toInt ≠ ((-2) : Int32).toInt := kd_ne c; clear c
          have s10 : (l5_1 + 1).toInt = l5_1.toInt + (1 : Int32).toInt := kd_add (oz12 p1_0 kn1) (oz442 c4 fi1_64.2 kn1)
          first | refine fo_goL mi_k75 fz75_3_2_6 [(5, .int (l5_1 + 1)), (4, .int l4_1), (0, .ref 49), (1, .ref 1), (2, .ref 106), (3, .int x3)] [] (by rfl) ?_ | refine fo_goL mi_k75 fz75_54_2_6 [(5, .int (l5_1 + 1)), (4, .int l4_1), (0, .ref 49), (1, .ref 1), (2, .ref 106), (3, .int x3)] [] (by rfl) ?_ | refine ft_go mi_k75 2 6 [(5, .int (l5_1 + 1)), (4, .int l4_1), (0, .ref 49), (1, .ref 1), (2, .ref 106), (3, .int x3)] [] ig7 ag7 qg7 rg7 (by rfl) ?_
          have efig6_64 : (ig6 64).toInt = (i1 64).toInt := kg6.ti 64 rfl
          have efig7_64 : (ig7 64).toInt = (ig6 64).toInt := kg7.ti 64 rfl
          exact ih1 _ _ _ _ _ _ hGg7 (oz14 p1_0 s10 kn1) (kj_meas (oz1175 efig6_64 efig7_64 s10 kn1) (oz45 c4) hm1)
        ·
          have c11 : vg8.toInt = ((-2) : Int32).toInt := kd_neF c; clear c
          have s12 : ((1 : Int) ≤ (1 <<< (l5_1 &&& 31)).toInt) ∧ ((1 <<< (l5_1 &&& 31)).toInt ≤ 256) := kd_shl1 (oz3 p1_0) (oz513 c4 fi1_64.2)
          have s13 : (l5_1 + 1).toInt = l5_1.toInt + (1 : Int32).toInt := kd_add (oz12 p1_0 kn1) (oz442 c4 fi1_64.2 kn1)
          first | refine ft_goL mi_k75 8 6 [(5, .int (l5_1 + 1)), (4, .int (l4_1 ||| (1 <<< (l5_1 &&& 31)))), (0, .ref 49), (1, .ref 1), (2, .ref 106), (3, .int x3)] [] (by rfl) ?_ | refine ft_go mi_k75 8 6 [(5, .int (l5_1 + 1)), (4, .int (l4_1 ||| (1 <<< (l5_1 &&& 31)))), (0, .ref 49), (1, .ref 1), (2, .ref 106), (3, .int x3)] [] ig7 ag7 qg7 rg7 (by rfl) ?_
          have efig6_64 : (ig6 64).toInt = (i1 64).toInt := kg6.ti 64 rfl
          have efig7_64 : (ig7 64).toInt = (ig6 64).toInt := kg7.ti 64 rfl
          exact ih1 _ _ _ _ _ _ hGg7 (oz14 p1_0 s13 kn1) (kj_meas (oz1175 efig6_64 efig7_64 s13 kn1) (oz45 c4) hm1)
  exact lp1 _ _ _ _ _ _ _ (kG_self _ hG.I hG.R) (oz46 kn0) (Nat.lt_succ_self _)
def w75_49_1_108 : kW := ([645, 3200, 3206, 3207, 3208, 3209, 3214, 3215, 3216, 3586, 3781, 6405], [13, 51, 52, 53, 54, 55, 57, 58, 62, 63, 65, 66, 67, 68, 69, 70, 71, 72, 73, 74, 75, 76, 77, 103], [], [1])
def w75_49_1_108_L6 : kW := ([645, 3200, 3206, 3207, 3208, 3209, 3214, 3215, 3216, 3586, 3781, 6405], [13, 51, 52, 53, 54, 55, 57, 58, 62, 63, 65, 66, 67, 68, 69, 70, 71, 72, 73, 74, 75, 76, 77, 103], [], [1])
set_option maxRecDepth 100000 in
theorem kc75_49_1_108 {i : Nat → Int32} {a : Nat → List Int32} {q : Nat → List Int64} {r : Nat → Nat} (hI : kI i a q) (hr : kr r) (x3 : Int32) (hp0 : ((0 : Int) ≤ x3.toInt) ∧ (x3.toInt ≤ 19)) : km 11 75 [.ref 49, .ref 1, .ref 108, .int x3] (ks i a q r) (kVI w75_49_1_108 i a q r (fun v i1 a1 q1 r1 => True)) := by
  have hG := kG_self w75_49_1_108 hI hr
  refine km_ofI (q := (mi_h75, mi_c75)) rfl (by decide) (Nat.le_of_ble_eq_true rfl) ?_
  intro P hP
  first | refine fo_goL mi_k75 fz75_0_4_6 [(5, .int 0), (4, .int 0), (0, .ref 49), (1, .ref 1), (2, .ref 108), (3, .int x3)] [] (by rfl) ?_ | refine ft_goL mi_k75 4 6 [(5, .int 0), (4, .int 0), (0, .ref 49), (1, .ref 1), (2, .ref 108), (3, .int x3)] [] (by rfl) ?_ | refine ft_go mi_k75 4 6 [(5, .int 0), (4, .int 0), (0, .ref 49), (1, .ref 1), (2, .ref 108), (3, .int x3)] [] i a q r (by rfl) ?_
  have lp1 : ∀ (nz : Nat) (i1 : Nat → Int32) (a1 : Nat → List Int32) (q1 : Nat → List Int64) (r1 : Nat → Nat) (l5_1 : Int32) (l4_1 : Int32), kG w75_49_1_108_L6 i a q r i1 a1 q1 r1 → (0 : Int) ≤ l5_1.toInt → (((i1 64).toInt - l5_1.toInt)).toNat < nz → ko 11 (mi_h75, mi_c75) P (6, [(5, .int l5_1), (4, .int l4_1), (0, .ref 49), (1, .ref 1), (2, .ref 108), (3, .int x3)], [], (0, 0), ks i1 a1 q1 r1) := by
    intro nz
    induction nz with
    | zero =>
      intro _ _ _ _ _ _ _ _ hm
      exact absurd hm (Nat.not_lt_zero _)
    | succ nz ih1 =>
      intro i1 a1 q1 r1 l5_1 l4_1 hL1 p1_0 hm1
      have fi1_64 : ((0 : Int) ≤ (i1 64).toInt) ∧ ((i1 64).toInt ≤ 8) := hL1.I.1 64
      first | refine fo_goL mi_k75 fz75_6_3_12 [(5, .int l5_1), (4, .int l4_1), (0, .ref 49), (1, .ref 1), (2, .ref 108), (3, .int x3)] [.int (i1 64), .int l5_1] (by rfl) ?_ | refine ft_go mi_k75 3 12 [(5, .int l5_1), (4, .int l4_1), (0, .ref 49), (1, .ref 1), (2, .ref 108), (3, .int x3)] [.int (i1 64), .int l5_1] i1 a1 q1 r1 (by rfl) ?_
      refine ft_ifS mi_k75 (decide ((i1 64) ≤ l5_1)) 60 15 [] (by rfl) (fun c => ?_) (fun c => ?_)
      ·
        have c2 : (i1 64).toInt ≤ l5_1.toInt := kd_le c; clear c
        have hG3 := kG_call hG hL1 (by decide +kernel)
        first | refine fo_goS mi_k75 fz75_60_1_62 [.int l4_1] (by rfl) ?_ | refine ft_go mi_k75 1 62 [(5, .int l5_1), (4, .int l4_1), (0, .ref 49), (1, .ref 1), (2, .ref 108), (3, .int x3)] [.int l4_1] i1 a1 q1 r1 (by rfl) ?_
        exact ft_ret mi_k75 (by rfl) (hP l4_1 _ _ _ _ hG3 trivial)
      ·
        have c4 : l5_1.toInt < (i1 64).toInt := kd_leF c; clear c
        first | refine fo_goS mi_k75 fz75_15_4_22 [.int l5_1, .int x3, .ref 74] (by rfl) ?_ | refine ft_go mi_k75 4 22 [(5, .int l5_1), (4, .int l4_1), (0, .ref 49), (1, .ref 1), (2, .ref 108), (3, .int x3)] [.int l5_1, .int x3, .ref 74] i1 a1 q1 r1 (by rfl) ?_
        refine ko_iast3 mi_k75.1 (n := 20) (c := 20) (ax := (0, 0, 0, 0, 0)) (mi_k75.2 _ _ (by rfl)) (by rfl) (ksG74 _ _ _ _) (ksA74 _ _ _ _) (hL1.I.2.1 74) rfl (oz3 hp0.1) (oz1065 hp0.2) ?_
        intro a5 ea5 fa5
        have hJ5 := kG_a3 hL1 74 rfl ea5 fa5 (kd_bd _)
        first | refine fo_goS mi_k75 fz75_23_3_28 [.ref 1, .ref 50] (by rfl) ?_ | refine ft_go mi_k75 3 28 [(5, .int l5_1), (4, .int l4_1), (0, .ref 49), (1, .ref 1), (2, .ref 108), (3, .int x3)] [.ref 1, .ref 50] i1 a5 q1 r1 (by rfl) ?_
        refine ko_callN mi_k75.1 (pc := 28) (ls := [(5, .int l5_1), (4, .int l4_1), (0, .ref 49), (1, .ref 1), (2, .ref 108), (3, .int x3)]) (st := [.ref 1, .ref 50]) (h := ks i1 a5 q1 r1) (i := (.invokevirtual 56, 3, 34, 0, 9, 0, 212)) (mi_k75.2 _ _ (by rfl)) (ft_invS mi_pq34 (by rfl)) (cy := mi_c34) mi_pq34 rfl (kc34_50_1 hJ5.I hJ5.R ) (by decide) ?_
        intro ig6 ag6 qg6 rg6 kg6 hg6
        have hGg6 := kG_call hJ5 kg6 (by decide +kernel)
        first | refine fo_goS mi_k75 fz75_31_1_32 [.ref 49] (by rfl) ?_ | refine ft_go mi_k75 1 32 [(5, .int l5_1), (4, .int l4_1), (0, .ref 49), (1, .ref 1), (2, .ref 108), (3, .int x3)] [.ref 49] ig6 ag6 qg6 rg6 (by rfl) ?_
        refine ko_callN mi_k75.1 (pc := 32) (ls := [(5, .int l5_1), (4, .int l4_1), (0, .ref 49), (1, .ref 1), (2, .ref 108), (3, .int x3)]) (st := [.ref 49]) (h := ks ig6 ag6 qg6 rg6) (i := (.invokevirtual 60, 3, 60, 0, 9, 0, 219)) (mi_k75.2 _ _ (by rfl)) (ft_invS mi_pq60 (by rfl)) (cy := mi_c60) mi_pq60 rfl (kc60_49 hGg6.I hGg6.R ) (by decide) ?_
        intro ig7 ag7 qg7 rg7 kg7 hg7
        have hGg7 := kG_call hGg6 kg7 (by decide +kernel)
        first | refine fo_goS mi_k75 fz75_35_2_37 [.ref 108, .ref 49] (by rfl) ?_ | refine ft_go mi_k75 2 37 [(5, .int l5_1), (4, .int l4_1), (0, .ref 49), (1, .ref 1), (2, .ref 108), (3, .int x3)] [.ref 108, .ref 49] ig7 ag7 qg7 rg7 (by rfl) ?_
        refine ko_callPI mi_k75.1 (pc := 37) (ls := [(5, .int l5_1), (4, .int l4_1), (0, .ref 49), (1, .ref 1), (2, .ref 108), (3, .int x3)]) (st := [.ref 108, .ref 49]) (h := ks ig7 ag7 qg7 rg7) (i := (.invokevirtual 126, 3, 73, 0, 9, 0, 265)) (mi_k75.2 _ _ (by rfl)) (ft_invS mi_pq73 (by rfl)) (cy := mi_c73) mi_pq73 rfl (kc73_49_108 hGg7.I hGg7.R ) (by decide) ?_
        intro vg8 hg8
        first | refine fo_goS mi_k75 fz75_40_1_42 [.int (-2), .int vg8] (by rfl) ?_ | refine ft_go mi_k75 1 42 [(5, .int l5_1), (4, .int l4_1), (0, .ref 49), (1, .ref 1), (2, .ref 108), (3, .int x3)] [.int (-2), .int vg8] ig7 ag7 qg7 rg7 (by rfl) ?_
        refine ft_ifS mi_k75 (vg8 != (-2)) 54 45 [] (by rfl) (fun c => ?_) (fun c => ?_)
        ·
          have c9 : vg8.toInt ≠ ((-2) : Int32).toInt := kd_ne c; clear c
          have s10 : (l5_1 + 1).toInt = l5_1.toInt + (1 : Int32).toInt := kd_add (oz12 p1_0 kn1) (oz442 c4 fi1_64.2 kn1)
          first | refine fo_goL mi_k75 fz75_3_2_6 [(5, .int (l5_1 + 1)), (4, .int l4_1), (0, .ref 49), (1, .ref 1), (2, .ref 108), (3, .int x3)] [] (by rfl) ?_ | refine fo_goL mi_k75 fz75_54_2_6 [(5, .int (l5_1 + 1)), (4, .int l4_1), (0, .ref 49), (1, .ref 1), (2, .ref 108), (3, .int x3)] [] (by rfl) ?_ | refine ft_go mi_k75 2 6 [(5, .int (l5_1 + 1)), (4, .int l4_1), (0, .ref 49), (1, .ref 1), (2, .ref 108), (3, .int x3)] [] ig7 ag7 qg7 rg7 (by rfl) ?_
          have efig6_64 : (ig6 64).toInt = (i1 64).toInt := kg6.ti 64 rfl
          have efig7_64 : (ig7 64).toInt = (ig6 64).toInt := kg7.ti 64 rfl
          exact ih1 _ _ _ _ _ _ hGg7 (oz14 p1_0 s10 kn1) (kj_meas (oz1175 efig6_64 efig7_64 s10 kn1) (oz45 c4) hm1)
        ·
          have c11 : vg8.toInt = ((-2) : Int32).toInt := kd_neF c; clear c
          have s12 : ((1 : Int) ≤ (1 <<< (l5_1 &&& 31)).toInt) ∧ ((1 <<< (l5_1 &&& 31)).toInt ≤ 256) := kd_shl1 (oz3 p1_0) (oz513 c4 fi1_64.2)
          have s13 : (l5_1 + 1).toInt = l5_1.toInt + (1 : Int32).toInt := kd_add (oz12 p1_0 kn1) (oz442 c4 fi1_64.2 kn1)
          first | refine ft_goL mi_k75 8 6 [(5, .int (l5_1 + 1)), (4, .int (l4_1 ||| (1 <<< (l5_1 &&& 31)))), (0, .ref 49), (1, .ref 1), (2, .ref 108), (3, .int x3)] [] (by rfl) ?_ | refine ft_go mi_k75 8 6 [(5, .int (l5_1 + 1)), (4, .int (l4_1 ||| (1 <<< (l5_1 &&& 31)))), (0, .ref 49), (1, .ref 1), (2, .ref 108), (3, .int x3)] [] ig7 ag7 qg7 rg7 (by rfl) ?_
          have efig6_64 : (ig6 64).toInt = (i1 64).toInt := kg6.ti 64 rfl
          have efig7_64 : (ig7 64).toInt = (ig6 64).toInt := kg7.ti 64 rfl
          exact ih1 _ _ _ _ _ _ hGg7 (oz14 p1_0 s13 kn1) (kj_meas (oz1175 efig6_64 efig7_64 s13 kn1) (oz45 c4) hm1)
  exact lp1 _ _ _ _ _ _ _ (kG_self _ hG.I hG.R) (oz46 kn0) (Nat.lt_succ_self _)
def w75_49_1_110 : kW := ([645, 3200, 3206, 3207, 3208, 3209, 3214, 3215, 3216, 3586, 3781, 6405], [13, 51, 52, 53, 54, 55, 57, 58, 62, 63, 65, 66, 67, 68, 69, 70, 71, 72, 73, 74, 75, 76, 77, 103], [], [1])
def w75_49_1_110_L6 : kW := ([645, 3200, 3206, 3207, 3208, 3209, 3214, 3215, 3216, 3586, 3781, 6405], [13, 51, 52, 53, 54, 55, 57, 58, 62, 63, 65, 66, 67, 68, 69, 70, 71, 72, 73, 74, 75, 76, 77, 103], [], [1])
set_option maxRecDepth 100000 in
theorem kc75_49_1_110 {i : Nat → Int32} {a : Nat → List Int32} {q : Nat → List Int64} {r : Nat → Nat} (hI : kI i a q) (hr : kr r) (x3 : Int32) (hp0 : ((0 : Int) ≤ x3.toInt) ∧ (x3.toInt ≤ 19)) : km 11 75 [.ref 49, .ref 1, .ref 110, .int x3] (ks i a q r) (kVI w75_49_1_110 i a q r (fun v i1 a1 q1 r1 => True)) := by
  have hG := kG_self w75_49_1_110 hI hr
  refine km_ofI (q := (mi_h75, mi_c75)) rfl (by decide) (Nat.le_of_ble_eq_true rfl) ?_
  intro P hP
  first | refine fo_goL mi_k75 fz75_0_4_6 [(5, .int 0), (4, .int 0), (0, .ref 49), (1, .ref 1), (2, .ref 110), (3, .int x3)] [] (by rfl) ?_ | refine ft_goL mi_k75 4 6 [(5, .int 0), (4, .int 0), (0, .ref 49), (1, .ref 1), (2, .ref 110), (3, .int x3)] [] (by rfl) ?_ | refine ft_go mi_k75 4 6 [(5, .int 0), (4, .int 0), (0, .ref 49), (1, .ref 1), (2, .ref 110), (3, .int x3)] [] i a q r (by rfl) ?_
  have lp1 : ∀ (nz : Nat) (i1 : Nat → Int32) (a1 : Nat → List Int32) (q1 : Nat → List Int64) (r1 : Nat → Nat) (l5_1 : Int32) (l4_1 : Int32), kG w75_49_1_110_L6 i a q r i1 a1 q1 r1 → (0 : Int) ≤ l5_1.toInt → (((i1 64).toInt - l5_1.toInt)).toNat < nz → ko 11 (mi_h75, mi_c75) P (6, [(5, .int l5_1), (4, .int l4_1), (0, .ref 49), (1, .ref 1), (2, .ref 110), (3, .int x3)], [], (0, 0), ks i1 a1 q1 r1) := by
    intro nz
    induction nz with
    | zero =>
      intro _ _ _ _ _ _ _ _ hm
      exact absurd hm (Nat.not_lt_zero _)
    | succ nz ih1 =>
      intro i1 a1 q1 r1 l5_1 l4_1 hL1 p1_0 hm1
      have fi1_64 : ((0 : Int) ≤ (i1 64).toInt) ∧ ((i1 64).toInt ≤ 8) := hL1.I.1 64
      first | refine fo_goL mi_k75 fz75_6_3_12 [(5, .int l5_1), (4, .int l4_1), (0, .ref 49), (1, .ref 1), (2, .ref 110), (3, .int x3)] [.int (i1 64), .int l5_1] (by rfl) ?_ | refine ft_go mi_k75 3 12 [(5, .int l5_1), (4, .int l4_1), (0, .ref 49), (1, .ref 1), (2, .ref 110), (3, .int x3)] [.int (i1 64), .int l5_1] i1 a1 q1 r1 (by rfl) ?_
      refine ft_ifS mi_k75 (decide ((i1 64) ≤ l5_1)) 60 15 [] (by rfl) (fun c => ?_) (fun c => ?_)
      ·
        have c2 : (i1 64).toInt ≤ l5_1.toInt := kd_le c; clear c
        have hG3 := kG_call hG hL1 (by decide +kernel)
        first | refine fo_goS mi_k75 fz75_60_1_62 [.int l4_1] (by rfl) ?_ | refine ft_go mi_k75 1 62 [(5, .int l5_1), (4, .int l4_1), (0, .ref 49), (1, .ref 1), (2, .ref 110), (3, .int x3)] [.int l4_1] i1 a1 q1 r1 (by rfl) ?_
        exact ft_ret mi_k75 (by rfl) (hP l4_1 _ _ _ _ hG3 trivial)
      ·
        have c4 : l5_1.toInt < (i1 64).toInt := kd_leF c; clear c
        first | refine fo_goS mi_k75 fz75_15_4_22 [.int l5_1, .int x3, .ref 74] (by rfl) ?_ | refine ft_go mi_k75 4 22 [(5, .int l5_1), (4, .int l4_1), (0, .ref 49), (1, .ref 1), (2, .ref 110), (3, .int x3)] [.int l5_1, .int x3, .ref 74] i1 a1 q1 r1 (by rfl) ?_
        refine ko_iast3 mi_k75.1 (n := 20) (c := 20) (ax := (0, 0, 0, 0, 0)) (mi_k75.2 _ _ (by rfl)) (by rfl) (ksG74 _ _ _ _) (ksA74 _ _ _ _) (hL1.I.2.1 74) rfl (oz3 hp0.1) (oz1065 hp0.2) ?_
        intro a5 ea5 fa5
        have hJ5 := kG_a3 hL1 74 rfl ea5 fa5 (kd_bd _)
        first | refine fo_goS mi_k75 fz75_23_3_28 [.ref 1, .ref 50] (by rfl) ?_ | refine ft_go mi_k75 3 28 [(5, .int l5_1), (4, .int l4_1), (0, .ref 49), (1, .ref 1), (2, .ref 110), (3, .int x3)] [.ref 1, .ref 50] i1 a5 q1 r1 (by rfl) ?_
        refine ko_callN mi_k75.1 (pc := 28) (ls := [(5, .int l5_1), (4, .int l4_1), (0, .ref 49), (1, .ref 1), (2, .ref 110), (3, .int x3)]) (st := [.ref 1, .ref 50]) (h := ks i1 a5 q1 r1) (i := (.invokevirtual 56, 3, 34, 0, 9, 0, 212)) (mi_k75.2 _ _ (by rfl)) (ft_invS mi_pq34 (by rfl)) (cy := mi_c34) mi_pq34 rfl (kc34_50_1 hJ5.I hJ5.R ) (by decide) ?_
        intro ig6 ag6 qg6 rg6 kg6 hg6
        have hGg6 := kG_call hJ5 kg6 (by decide +kernel)
        first | refine fo_goS mi_k75 fz75_31_1_32 [.ref 49] (by rfl) ?_ | refine ft_go mi_k75 1 32 [(5, .int l5_1), (4, .int l4_1), (0, .ref 49), (1, .ref 1), (2, .ref 110), (3, .int x3)] [.ref 49] ig6 ag6 qg6 rg6 (by rfl) ?_
        refine ko_callN mi_k75.1 (pc := 32) (ls := [(5, .int l5_1), (4, .int l4_1), (0, .ref 49), (1, .ref 1), (2, .ref 110), (3, .int x3)]) (st := [.ref 49]) (h := ks ig6 ag6 qg6 rg6) (i := (.invokevirtual 60, 3, 60, 0, 9, 0, 219)) (mi_k75.2 _ _ (by rfl)) (ft_invS mi_pq60 (by rfl)) (cy := mi_c60) mi_pq60 rfl (kc60_49 hGg6.I hGg6.R ) (by decide) ?_
        intro ig7 ag7 qg7 rg7 kg7 hg7
        have hGg7 := kG_call hGg6 kg7 (by decide +kernel)
        first | refine fo_goS mi_k75 fz75_35_2_37 [.ref 110, .ref 49] (by rfl) ?_ | refine ft_go mi_k75 2 37 [(5, .int l5_1), (4, .int l4_1), (0, .ref 49), (1, .ref 1), (2, .ref 110), (3, .int x3)] [.ref 110, .ref 49] ig7 ag7 qg7 rg7 (by rfl) ?_
        refine ko_callPI mi_k75.1 (pc := 37) (ls := [(5, .int l5_1), (4, .int l4_1), (0, .ref 49), (1, .ref 1), (2, .ref 110), (3, .int x3)]) (st := [.ref 110, .ref 49]) (h := ks ig7 ag7 qg7 rg7) (i := (.invokevirtual 126, 3, 73, 0, 9, 0, 265)) (mi_k75.2 _ _ (by rfl)) (ft_invS mi_pq73 (by rfl)) (cy := mi_c73) mi_pq73 rfl (kc73_49_110 hGg7.I hGg7.R ) (by decide) ?_
        intro vg8 hg8
        first | refine fo_goS mi_k75 fz75_40_1_42 [.int (-2), .int vg8] (by rfl) ?_ | refine ft_go mi_k75 1 42 [(5, .int l5_1), (4, .int l4_1), (0, .ref 49), (1, .ref 1), (2, .ref 110), (3, .int x3)] [.int (-2), .int vg8] ig7 ag7 qg7 rg7 (by rfl) ?_
        refine ft_ifS mi_k75 (vg8 != (-2)) 54 45 [] (by rfl) (fun c => ?_) (fun c => ?_)
        ·
          have c9 : vg8.toInt ≠ ((-2) : Int32).toInt := kd_ne c; clear c
          have s10 : (l5_1 + 1).toInt = l5_1.toInt + (1 : Int32).toInt := kd_add (oz12 p1_0 kn1) (oz442 c4 fi1_64.2 kn1)
          first | refine fo_goL mi_k75 fz75_3_2_6 [(5, .int (l5_1 + 1)), (4, .int l4_1), (0, .ref 49), (1, .ref 1), (2, .ref 110), (3, .int x3)] [] (by rfl) ?_ | refine fo_goL mi_k75 fz75_54_2_6 [(5, .int (l5_1 + 1)), (4, .int l4_1), (0, .ref 49), (1, .ref 1), (2, .ref 110), (3, .int x3)] [] (by rfl) ?_ | refine ft_go mi_k75 2 6 [(5, .int (l5_1 + 1)), (4, .int l4_1), (0, .ref 49), (1, .ref 1), (2, .ref 110), (3, .int x3)] [] ig7 ag7 qg7 rg7 (by rfl) ?_
          have efig6_64 : (ig6 64).toInt = (i1 64).toInt := kg6.ti 64 rfl
          have efig7_64 : (ig7 64).toInt = (ig6 64).toInt := kg7.ti 64 rfl
          exact ih1 _ _ _ _ _ _ hGg7 (oz14 p1_0 s10 kn1) (kj_meas (oz1175 efig6_64 efig7_64 s10 kn1) (oz45 c4) hm1)
        ·
          have c11 : vg8.toInt = ((-2) : Int32).toInt := kd_neF c; clear c
          have s12 : ((1 : Int) ≤ (1 <<< (l5_1 &&& 31)).toInt) ∧ ((1 <<< (l5_1 &&& 31)).toInt ≤ 256) := kd_shl1 (oz3 p1_0) (oz513 c4 fi1_64.2)
          have s13 : (l5_1 + 1).toInt = l5_1.toInt + (1 : Int32).toInt := kd_add (oz12 p1_0 kn1) (oz442 c4 fi1_64.2 kn1)
          first | refine ft_goL mi_k75 8 6 [(5, .int (l5_1 + 1)), (4, .int (l4_1 ||| (1 <<< (l5_1 &&& 31)))), (0, .ref 49), (1, .ref 1), (2, .ref 110), (3, .int x3)] [] (by rfl) ?_ | refine ft_go mi_k75 8 6 [(5, .int (l5_1 + 1)), (4, .int (l4_1 ||| (1 <<< (l5_1 &&& 31)))), (0, .ref 49), (1, .ref 1), (2, .ref 110), (3, .int x3)] [] ig7 ag7 qg7 rg7 (by rfl) ?_
          have efig6_64 : (ig6 64).toInt = (i1 64).toInt := kg6.ti 64 rfl
          have efig7_64 : (ig7 64).toInt = (ig6 64).toInt := kg7.ti 64 rfl
          exact ih1 _ _ _ _ _ _ hGg7 (oz14 p1_0 s13 kn1) (kj_meas (oz1175 efig6_64 efig7_64 s13 kn1) (oz45 c4) hm1)
  exact lp1 _ _ _ _ _ _ _ (kG_self _ hG.I hG.R) (oz46 kn0) (Nat.lt_succ_self _)
def w75_49_1_112 : kW := ([645, 3200, 3206, 3207, 3208, 3209, 3214, 3215, 3216, 3586, 3781, 6405], [13, 51, 52, 53, 54, 55, 57, 58, 62, 63, 65, 66, 67, 68, 69, 70, 71, 72, 73, 74, 75, 76, 77, 103], [], [1])
def w75_49_1_112_L6 : kW := ([645, 3200, 3206, 3207, 3208, 3209, 3214, 3215, 3216, 3586, 3781, 6405], [13, 51, 52, 53, 54, 55, 57, 58, 62, 63, 65, 66, 67, 68, 69, 70, 71, 72, 73, 74, 75, 76, 77, 103], [], [1])
set_option maxRecDepth 100000 in
theorem kc75_49_1_112 {i : Nat → Int32} {a : Nat → List Int32} {q : Nat → List Int64} {r : Nat → Nat} (hI : kI i a q) (hr : kr r) (x3 : Int32) (hp0 : ((0 : Int) ≤ x3.toInt) ∧ (x3.toInt ≤ 19)) : km 11 75 [.ref 49, .ref 1, .ref 112, .int x3] (ks i a q r) (kVI w75_49_1_112 i a q r (fun v i1 a1 q1 r1 => True)) := by
  have hG := kG_self w75_49_1_112 hI hr
  refine km_ofI (q := (mi_h75, mi_c75)) rfl (by decide) (Nat.le_of_ble_eq_true rfl) ?_
  intro P hP
  first | refine fo_goL mi_k75 fz75_0_4_6 [(5, .int 0), (4, .int 0), (0, .ref 49), (1, .ref 1), (2, .ref 112), (3, .int x3)] [] (by rfl) ?_ | refine ft_goL mi_k75 4 6 [(5, .int 0), (4, .int 0), (0, .ref 49), (1, .ref 1), (2, .ref 112), (3, .int x3)] [] (by rfl) ?_ | refine ft_go mi_k75 4 6 [(5, .int 0), (4, .int 0), (0, .ref 49), (1, .ref 1), (2, .ref 112), (3, .int x3)] [] i a q r (by rfl) ?_
  have lp1 : ∀ (nz : Nat) (i1 : Nat → Int32) (a1 : Nat → List Int32) (q1 : Nat → List Int64) (r1 : Nat → Nat) (l5_1 : Int32) (l4_1 : Int32), kG w75_49_1_112_L6 i a q r i1 a1 q1 r1 → (0 : Int) ≤ l5_1.toInt → (((i1 64).toInt - l5_1.toInt)).toNat < nz → ko 11 (mi_h75, mi_c75) P (6, [(5, .int l5_1), (4, .int l4_1), (0, .ref 49), (1, .ref 1), (2, .ref 112), (3, .int x3)], [], (0, 0), ks i1 a1 q1 r1) := by
    intro nz
    induction nz with
    | zero =>
      intro _ _ _ _ _ _ _ _ hm
      exact absurd hm (Nat.not_lt_zero _)
    | succ nz ih1 =>
      intro i1 a1 q1 r1 l5_1 l4_1 hL1 p1_0 hm1
      have fi1_64 : ((0 : Int) ≤ (i1 64).toInt) ∧ ((i1 64).toInt ≤ 8) := hL1.I.1 64
      first | refine fo_goL mi_k75 fz75_6_3_12 [(5, .int l5_1), (4, .int l4_1), (0, .ref 49), (1, .ref 1), (2, .ref 112), (3, .int x3)] [.int (i1 64), .int l5_1] (by rfl) ?_ | refine ft_go mi_k75 3 12 [(5, .int l5_1), (4, .int l4_1), (0, .ref 49), (1, .ref 1), (2, .ref 112), (3, .int x3)] [.int (i1 64), .int l5_1] i1 a1 q1 r1 (by rfl) ?_
      refine ft_ifS mi_k75 (decide ((i1 64) ≤ l5_1)) 60 15 [] (by rfl) (fun c => ?_) (fun c => ?_)
      ·
        have c2 : (i1 64).toInt ≤ l5_1.toInt := kd_le c; clear c
        have hG3 := kG_call hG hL1 (by decide +kernel)
        first | refine fo_goS mi_k75 fz75_60_1_62 [.int l4_1] (by rfl) ?_ | refine ft_go mi_k75 1 62 [(5, .int l5_1), (4, .int l4_1), (0, .ref 49), (1, .ref 1), (2, .ref 112), (3, .int x3)] [.int l4_1] i1 a1 q1 r1 (by rfl) ?_
        exact ft_ret mi_k75 (by rfl) (hP l4_1 _ _ _ _ hG3 trivial)
      ·
        have c4 : l5_1.toInt < (i1 64).toInt := kd_leF c; clear c
        first | refine fo_goS mi_k75 fz75_15_4_22 [.int l5_1, .int x3, .ref 74] (by rfl) ?_ | refine ft_go mi_k75 4 22 [(5, .int l5_1), (4, .int l4_1), (0, .ref 49), (1, .ref 1), (2, .ref 112), (3, .int x3)] [.int l5_1, .int x3, .ref 74] i1 a1 q1 r1 (by rfl) ?_
        refine ko_iast3 mi_k75.1 (n := 20) (c := 20) (ax := (0, 0, 0, 0, 0)) (mi_k75.2 _ _ (by rfl)) (by rfl) (ksG74 _ _ _ _) (ksA74 _ _ _ _) (hL1.I.2.1 74) rfl (oz3 hp0.1) (oz1065 hp0.2) ?_
        intro a5 ea5 fa5
        have hJ5 := kG_a3 hL1 74 rfl ea5 fa5 (kd_bd _)
        first | refine fo_goS mi_k75 fz75_23_3_28 [.ref 1, .ref 50] (by rfl) ?_ | refine ft_go mi_k75 3 28 [(5, .int l5_1), (4, .int l4_1), (0, .ref 49), (1, .ref 1), (2, .ref 112), (3, .int x3)] [.ref 1, .ref 50] i1 a5 q1 r1 (by rfl) ?_
        refine ko_callN mi_k75.1 (pc := 28) (ls := [(5, .int l5_1), (4, .int l4_1), (0, .ref 49), (1, .ref 1), (2, .ref 112), (3, .int x3)]) (st := [.ref 1, .ref 50]) (h := ks i1 a5 q1 r1) (i := (.invokevirtual 56, 3, 34, 0, 9, 0, 212)) (mi_k75.2 _ _ (by rfl)) (ft_invS mi_pq34 (by rfl)) (cy := mi_c34) mi_pq34 rfl (kc34_50_1 hJ5.I hJ5.R ) (by decide) ?_
        intro ig6 ag6 qg6 rg6 kg6 hg6
        have hGg6 := kG_call hJ5 kg6 (by decide +kernel)
        first | refine fo_goS mi_k75 fz75_31_1_32 [.ref 49] (by rfl) ?_ | refine ft_go mi_k75 1 32 [(5, .int l5_1), (4, .int l4_1), (0, .ref 49), (1, .ref 1), (2, .ref 112), (3, .int x3)] [.ref 49] ig6 ag6 qg6 rg6 (by rfl) ?_
        refine ko_callN mi_k75.1 (pc := 32) (ls := [(5, .int l5_1), (4, .int l4_1), (0, .ref 49), (1, .ref 1), (2, .ref 112), (3, .int x3)]) (st := [.ref 49]) (h := ks ig6 ag6 qg6 rg6) (i := (.invokevirtual 60, 3, 60, 0, 9, 0, 219)) (mi_k75.2 _ _ (by rfl)) (ft_invS mi_pq60 (by rfl)) (cy := mi_c60) mi_pq60 rfl (kc60_49 hGg6.I hGg6.R ) (by decide) ?_
        intro ig7 ag7 qg7 rg7 kg7 hg7
        have hGg7 := kG_call hGg6 kg7 (by decide +kernel)
        first | refine fo_goS mi_k75 fz75_35_2_37 [.ref 112, .ref 49] (by rfl) ?_ | refine ft_go mi_k75 2 37 [(5, .int l5_1), (4, .int l4_1), (0, .ref 49), (1, .ref 1), (2, .ref 112), (3, .int x3)] [.ref 112, .ref 49] ig7 ag7 qg7 rg7 (by rfl) ?_
        refine ko_callPI mi_k75.1 (pc := 37) (ls := [(5, .int l5_1), (4, .int l4_1), (0, .ref 49), (1, .ref 1), (2, .ref 112), (3, .int x3)]) (st := [.ref 112, .ref 49]) (h := ks ig7 ag7 qg7 rg7) (i := (.invokevirtual 126, 3, 73, 0, 9, 0, 265)) (mi_k75.2 _ _ (by rfl)) (ft_invS mi_pq73 (by rfl)) (cy := mi_c73) mi_pq73 rfl (kc73_49_112 hGg7.I hGg7.R ) (by decide) ?_
        intro vg8 hg8
        first | refine fo_goS mi_k75 fz75_40_1_42 [.int (-2), .int vg8] (by rfl) ?_ | refine ft_go mi_k75 1 42 [(5, .int l5_1), (4, .int l4_1), (0, .ref 49), (1, .ref 1), (2, .ref 112), (3, .int x3)] [.int (-2), .int vg8] ig7 ag7 qg7 rg7 (by rfl) ?_
        refine ft_ifS mi_k75 (vg8 != (-2)) 54 45 [] (by rfl) (fun c => ?_) (fun c => ?_)
        ·
          have c9 : vg8.toInt ≠ ((-2) : Int32).toInt := kd_ne c; clear c
          have s10 : (l5_1 + 1).toInt = l5_1.toInt + (1 : Int32).toInt := kd_add (oz12 p1_0 kn1) (oz442 c4 fi1_64.2 kn1)
          first | refine fo_goL mi_k75 fz75_3_2_6 [(5, .int (l5_1 + 1)), (4, .int l4_1), (0, .ref 49), (1, .ref 1), (2, .ref 112), (3, .int x3)] [] (by rfl) ?_ | refine fo_goL mi_k75 fz75_54_2_6 [(5, .int (l5_1 + 1)), (4, .int l4_1), (0, .ref 49), (1, .ref 1), (2, .ref 112), (3, .int x3)] [] (by rfl) ?_ | refine ft_go mi_k75 2 6 [(5, .int (l5_1 + 1)), (4, .int l4_1), (0, .ref 49), (1, .ref 1), (2, .ref 112), (3, .int x3)] [] ig7 ag7 qg7 rg7 (by rfl) ?_
          have efig6_64 : (ig6 64).toInt = (i1 64).toInt := kg6.ti 64 rfl
          have efig7_64 : (ig7 64).toInt = (ig6 64).toInt := kg7.ti 64 rfl
          exact ih1 _ _ _ _ _ _ hGg7 (oz14 p1_0 s10 kn1) (kj_meas (oz1175 efig6_64 efig7_64 s10 kn1) (oz45 c4) hm1)
        ·
          have c11 : vg8.toInt = ((-2) : Int32).toInt := kd_neF c; clear c
          have s12 : ((1 : Int) ≤ (1 <<< (l5_1 &&& 31)).toInt) ∧ ((1 <<< (l5_1 &&& 31)).toInt ≤ 256) := kd_shl1 (oz3 p1_0) (oz513 c4 fi1_64.2)
          have s13 : (l5_1 + 1).toInt = l5_1.toInt + (1 : Int32).toInt := kd_add (oz12 p1_0 kn1) (oz442 c4 fi1_64.2 kn1)
          first | refine ft_goL mi_k75 8 6 [(5, .int (l5_1 + 1)), (4, .int (l4_1 ||| (1 <<< (l5_1 &&& 31)))), (0, .ref 49), (1, .ref 1), (2, .ref 112), (3, .int x3)] [] (by rfl) ?_ | refine ft_go mi_k75 8 6 [(5, .int (l5_1 + 1)), (4, .int (l4_1 ||| (1 <<< (l5_1 &&& 31)))), (0, .ref 49), (1, .ref 1), (2, .ref 112), (3, .int x3)] [] ig7 ag7 qg7 rg7 (by rfl) ?_
          have efig6_64 : (ig6 64).toInt = (i1 64).toInt := kg6.ti 64 rfl
          have efig7_64 : (ig7 64).toInt = (ig6 64).toInt := kg7.ti 64 rfl
          exact ih1 _ _ _ _ _ _ hGg7 (oz14 p1_0 s13 kn1) (kj_meas (oz1175 efig6_64 efig7_64 s13 kn1) (oz45 c4) hm1)
  exact lp1 _ _ _ _ _ _ _ (kG_self _ hG.I hG.R) (oz46 kn0) (Nat.lt_succ_self _)
def w75_49_1_114 : kW := ([645, 3200, 3206, 3207, 3208, 3209, 3214, 3215, 3216, 3586, 3781, 6405], [13, 51, 52, 53, 54, 55, 57, 58, 62, 63, 65, 66, 67, 68, 69, 70, 71, 72, 73, 74, 75, 76, 77, 103], [], [1])
def w75_49_1_114_L6 : kW := ([645, 3200, 3206, 3207, 3208, 3209, 3214, 3215, 3216, 3586, 3781, 6405], [13, 51, 52, 53, 54, 55, 57, 58, 62, 63, 65, 66, 67, 68, 69, 70, 71, 72, 73, 74, 75, 76, 77, 103], [], [1])
set_option maxRecDepth 100000 in
theorem kc75_49_1_114 {i : Nat → Int32} {a : Nat → List Int32} {q : Nat → List Int64} {r : Nat → Nat} (hI : kI i a q) (hr : kr r) (x3 : Int32) (hp0 : ((0 : Int) ≤ x3.toInt) ∧ (x3.toInt ≤ 19)) : km 11 75 [.ref 49, .ref 1, .ref 114, .int x3] (ks i a q r) (kVI w75_49_1_114 i a q r (fun v i1 a1 q1 r1 => True)) := by
  have hG := kG_self w75_49_1_114 hI hr
  refine km_ofI (q := (mi_h75, mi_c75)) rfl (by decide) (Nat.le_of_ble_eq_true rfl) ?_
  intro P hP
  first | refine fo_goL mi_k75 fz75_0_4_6 [(5, .int 0), (4, .int 0), (0, .ref 49), (1, .ref 1), (2, .ref 114), (3, .int x3)] [] (by rfl) ?_ | refine ft_goL mi_k75 4 6 [(5, .int 0), (4, .int 0), (0, .ref 49), (1, .ref 1), (2, .ref 114), (3, .int x3)] [] (by rfl) ?_ | refine ft_go mi_k75 4 6 [(5, .int 0), (4, .int 0), (0, .ref 49), (1, .ref 1), (2, .ref 114), (3, .int x3)] [] i a q r (by rfl) ?_
  have lp1 : ∀ (nz : Nat) (i1 : Nat → Int32) (a1 : Nat → List Int32) (q1 : Nat → List Int64) (r1 : Nat → Nat) (l5_1 : Int32) (l4_1 : Int32), kG w75_49_1_114_L6 i a q r i1 a1 q1 r1 → (0 : Int) ≤ l5_1.toInt → (((i1 64).toInt - l5_1.toInt)).toNat < nz → ko 11 (mi_h75, mi_c75) P (6, [(5, .int l5_1), (4, .int l4_1), (0, .ref 49), (1, .ref 1), (2, .ref 114), (3, .int x3)], [], (0, 0), ks i1 a1 q1 r1) := by
    intro nz
    induction nz with
    | zero =>
      intro _ _ _ _ _ _ _ _ hm
      exact absurd hm (Nat.not_lt_zero _)
    | succ nz ih1 =>
      intro i1 a1 q1 r1 l5_1 l4_1 hL1 p1_0 hm1
      have fi1_64 : ((0 : Int) ≤ (i1 64).toInt) ∧ ((i1 64).toInt ≤ 8) := hL1.I.1 64
      first | refine fo_goL mi_k75 fz75_6_3_12 [(5, .int l5_1), (4, .int l4_1), (0, .ref 49), (1, .ref 1), (2, .ref 114), (3, .int x3)] [.int (i1 64), .int l5_1] (by rfl) ?_ | refine ft_go mi_k75 3 12 [(5, .int l5_1), (4, .int l4_1), (0, .ref 49), (1, .ref 1), (2, .ref 114), (3, .int x3)] [.int (i1 64), .int l5_1] i1 a1 q1 r1 (by rfl) ?_
      refine ft_ifS mi_k75 (decide ((i1 64) ≤ l5_1)) 60 15 [] (by rfl) (fun c => ?_) (fun c => ?_)
      ·
        have c2 : (i1 64).toInt ≤ l5_1.toInt := kd_le c; clear c
        have hG3 := kG_call hG hL1 (by decide +kernel)
        first | refine fo_goS mi_k75 fz75_60_1_62 [.int l4_1] (by rfl) ?_ | refine ft_go mi_k75 1 62 [(5, .int l5_1), (4, .int l4_1), (0, .ref 49), (1, .ref 1), (2, .ref 114), (3, .int x3)] [.int l4_1] i1 a1 q1 r1 (by rfl) ?_
        exact ft_ret mi_k75 (by rfl) (hP l4_1 _ _ _ _ hG3 trivial)
      ·
        have c4 : l5_1.toInt < (i1 64).toInt := kd_leF c; clear c
        first | refine fo_goS mi_k75 fz75_15_4_22 [.int l5_1, .int x3, .ref 74] (by rfl) ?_ | refine ft_go mi_k75 4 22 [(5, .int l5_1), (4, .int l4_1), (0, .ref 49), (1, .ref 1), (2, .ref 114), (3, .int x3)] [.int l5_1, .int x3, .ref 74] i1 a1 q1 r1 (by rfl) ?_
        refine ko_iast3 mi_k75.1 (n := 20) (c := 20) (ax := (0, 0, 0, 0, 0)) (mi_k75.2 _ _ (by rfl)) (by rfl) (ksG74 _ _ _ _) (ksA74 _ _ _ _) (hL1.I.2.1 74) rfl (oz3 hp0.1) (oz1065 hp0.2) ?_
        intro a5 ea5 fa5
        have hJ5 := kG_a3 hL1 74 rfl ea5 fa5 (kd_bd _)
        first | refine fo_goS mi_k75 fz75_23_3_28 [.ref 1, .ref 50] (by rfl) ?_ | refine ft_go mi_k75 3 28 [(5, .int l5_1), (4, .int l4_1), (0, .ref 49), (1, .ref 1), (2, .ref 114), (3, .int x3)] [.ref 1, .ref 50] i1 a5 q1 r1 (by rfl) ?_
        refine ko_callN mi_k75.1 (pc := 28) (ls := [(5, .int l5_1), (4, .int l4_1), (0, .ref 49), (1, .ref 1), (2, .ref 114), (3, .int x3)]) (st := [.ref 1, .ref 50]) (h := ks i1 a5 q1 r1) (i := (.invokevirtual 56, 3, 34, 0, 9, 0, 212)) (mi_k75.2 _ _ (by rfl)) (ft_invS mi_pq34 (by rfl)) (cy := mi_c34) mi_pq34 rfl (kc34_50_1 hJ5.I hJ5.R ) (by decide) ?_
        intro ig6 ag6 qg6 rg6 kg6 hg6
        have hGg6 := kG_call hJ5 kg6 (by decide +kernel)
        first | refine fo_goS mi_k75 fz75_31_1_32 [.ref 49] (by rfl) ?_ | refine ft_go mi_k75 1 32 [(5, .int l5_1), (4, .int l4_1), (0, .ref 49), (1, .ref 1), (2, .ref 114), (3, .int x3)] [.ref 49] ig6 ag6 qg6 rg6 (by rfl) ?_
        refine ko_callN mi_k75.1 (pc := 32) (ls := [(5, .int l5_1), (4, .int l4_1), (0, .ref 49), (1, .ref 1), (2, .ref 114), (3, .int x3)]) (st := [.ref 49]) (h := ks ig6 ag6 qg6 rg6) (i := (.invokevirtual 60, 3, 60, 0, 9, 0, 219)) (mi_k75.2 _ _ (by rfl)) (ft_invS mi_pq60 (by rfl)) (cy := mi_c60) mi_pq60 rfl (kc60_49 hGg6.I hGg6.R ) (by decide) ?_
        intro ig7 ag7 qg7 rg7 kg7 hg7
        have hGg7 := kG_call hGg6 kg7 (by decide +kernel)
        first | refine fo_goS mi_k75 fz75_35_2_37 [.ref 114, .ref 49] (by rfl) ?_ | refine ft_go mi_k75 2 37 [(5, .int l5_1), (4, .int l4_1), (0, .ref 49), (1, .ref 1), (2, .ref 114), (3, .int x3)] [.ref 114, .ref 49] ig7 ag7 qg7 rg7 (by rfl) ?_
        refine ko_callPI mi_k75.1 (pc := 37) (ls := [(5, .int l5_1), (4, .int l4_1), (0, .ref 49), (1, .ref 1), (2, .ref 114), (3, .int x3)]) (st := [.ref 114, .ref 49]) (h := ks ig7 ag7 qg7 rg7) (i := (.invokevirtual 126, 3, 73, 0, 9, 0, 265)) (mi_k75.2 _ _ (by rfl)) (ft_invS mi_pq73 (by rfl)) (cy := mi_c73) mi_pq73 rfl (kc73_49_114 hGg7.I hGg7.R ) (by decide) ?_
        intro vg8 hg8
        first | refine fo_goS mi_k75 fz75_40_1_42 [.int (-2), .int vg8] (by rfl) ?_ | refine ft_go mi_k75 1 42 [(5, .int l5_1), (4, .int l4_1), (0, .ref 49), (1, .ref 1), (2, .ref 114), (3, .int x3)] [.int (-2), .int vg8] ig7 ag7 qg7 rg7 (by rfl) ?_
        refine ft_ifS mi_k75 (vg8 != (-2)) 54 45 [] (by rfl) (fun c => ?_) (fun c => ?_)
        ·
          have c9 : vg8.toInt ≠ ((-2) : Int32).toInt := kd_ne c; clear c
          have s10 : (l5_1 + 1).toInt = l5_1.toInt + (1 : Int32).toInt := kd_add (oz12 p1_0 kn1) (oz442 c4 fi1_64.2 kn1)
          first | refine fo_goL mi_k75 fz75_3_2_6 [(5, .int (l5_1 + 1)), (4, .int l4_1), (0, .ref 49), (1, .ref 1), (2, .ref 114), (3, .int x3)] [] (by rfl) ?_ | refine fo_goL mi_k75 fz75_54_2_6 [(5, .int (l5_1 + 1)), (4, .int l4_1), (0, .ref 49), (1, .ref 1), (2, .ref 114), (3, .int x3)] [] (by rfl) ?_ | refine ft_go mi_k75 2 6 [(5, .int (l5_1 + 1)), (4, .int l4_1), (0, .ref 49), (1, .ref 1), (2, .ref 114), (3, .int x3)] [] ig7 ag7 qg7 rg7 (by rfl) ?_
          have efig6_64 : (ig6 64).toInt = (i1 64).toInt := kg6.ti 64 rfl
          have efig7_64 : (ig7 64).toInt = (ig6 64).toInt := kg7.ti 64 rfl
          exact ih1 _ _ _ _ _ _ hGg7 (oz14 p1_0 s10 kn1) (kj_meas (oz1175 efig6_64 efig7_64 s10 kn1) (oz45 c4) hm1)
        ·
          have c11 : vg8.toInt = ((-2) : Int32).toInt := kd_neF c; clear c
          have s12 : ((1 : Int) ≤ (1 <<< (l5_1 &&& 31)).toInt) ∧ ((1 <<< (l5_1 &&& 31)).toInt ≤ 256) := kd_shl1 (oz3 p1_0) (oz513 c4 fi1_64.2)
          have s13 : (l5_1 + 1).toInt = l5_1.toInt + (1 : Int32).toInt := kd_add (oz12 p1_0 kn1) (oz442 c4 fi1_64.2 kn1)
          first | refine ft_goL mi_k75 8 6 [(5, .int (l5_1 + 1)), (4, .int (l4_1 ||| (1 <<< (l5_1 &&& 31)))), (0, .ref 49), (1, .ref 1), (2, .ref 114), (3, .int x3)] [] (by rfl) ?_ | refine ft_go mi_k75 8 6 [(5, .int (l5_1 + 1)), (4, .int (l4_1 ||| (1 <<< (l5_1 &&& 31)))), (0, .ref 49), (1, .ref 1), (2, .ref 114), (3, .int x3)] [] ig7 ag7 qg7 rg7 (by rfl) ?_
          have efig6_64 : (ig6 64).toInt = (i1 64).toInt := kg6.ti 64 rfl
          have efig7_64 : (ig7 64).toInt = (ig6 64).toInt := kg7.ti 64 rfl
          exact ih1 _ _ _ _ _ _ hGg7 (oz14 p1_0 s13 kn1) (kj_meas (oz1175 efig6_64 efig7_64 s13 kn1) (oz45 c4) hm1)
  exact lp1 _ _ _ _ _ _ _ (kG_self _ hG.I hG.R) (oz46 kn0) (Nat.lt_succ_self _)
def w28_50 : kW := ([3206, 3207, 3208], [51, 52, 53, 54], [], [])
set_option maxRecDepth 100000 in
theorem kc28_50 {i : Nat → Int32} {a : Nat → List Int32} {q : Nat → List Int64} {r : Nat → Nat} (hI : kI i a q) (hr : kr r) (x1 : Int32) (x2 : Int32) (x3 : Int32) : km 3 28 [.ref 50, .int x1, .int x2, .int x3] (ks i a q r) (kVN w28_50 i a q r (fun i1 a1 q1 r1 => True)) := by
  have hG := kG_self w28_50 hI hr
  refine km_ofN (q := (mi_h28, mi_c28)) rfl (by decide) (Nat.le_of_ble_eq_true rfl) ?_
  intro P hP
  first | refine ft_goL mi_k28 2 2 [(0, .ref 50), (1, .int x1), (2, .int x2), (3, .int x3)] [.int 4, .int x2] (by rfl) ?_ | refine ft_go mi_k28 2 2 [(0, .ref 50), (1, .int x1), (2, .int x2), (3, .int x3)] [.int 4, .int x2] i a q r (by rfl) ?_
  refine ft_ifS mi_k28 (x2 != 4) 13 5 [] (by rfl) (fun c => ?_) (fun c => ?_)
  ·
    have c1 : x2.toInt ≠ (4 : Int32).toInt := kd_ne c; clear c
    first | refine ft_goS mi_k28 2 15 [.int 5, .int x2] (by rfl) ?_ | refine ft_go mi_k28 2 15 [(0, .ref 50), (1, .int x1), (2, .int x2), (3, .int x3)] [.int 5, .int x2] i a q r (by rfl) ?_
    refine ft_ifS mi_k28 (x2 != 5) 26 18 [] (by rfl) (fun c => ?_) (fun c => ?_)
    ·
      have c2 : x2.toInt ≠ (5 : Int32).toInt := kd_ne c; clear c
      first | refine ft_goS mi_k28 2 29 [.int 6, .int x2] (by rfl) ?_ | refine ft_go mi_k28 2 29 [(0, .ref 50), (1, .int x1), (2, .int x2), (3, .int x3)] [.int 6, .int x2] i a q r (by rfl) ?_
      refine ft_ifS mi_k28 (x2 != 6) 40 32 [] (by rfl) (fun c => ?_) (fun c => ?_)
      ·
        have c3 : x2.toInt ≠ (6 : Int32).toInt := kd_ne c; clear c
        first | refine ft_goS mi_k28 2 42 [.int x1, .ref 50] (by rfl) ?_ | refine ft_go mi_k28 2 42 [(0, .ref 50), (1, .int x1), (2, .int x2), (3, .int x3)] [.int x1, .ref 50] i a q r (by rfl) ?_
        refine ko_callPI mi_k28.1 (pc := 42) (ls := [(0, .ref 50), (1, .int x1), (2, .int x2), (3, .int x3)]) (st := [.int x1, .ref 50]) (h := ks i a q r) (i := (.invokevirtual 85, 3, 24, 0, 9, 0, 165)) (mi_k28.2 _ _ (by rfl)) (ft_invS mi_pq24 (by rfl)) (cy := mi_c24) mi_pq24 rfl (kc24_50 hG.I hG.R x1) (by decide) ?_
        intro vg4 hg4
        rcases hg4 with ⟨eg4, hg4⟩ | ⟨eg4, hg4⟩
        ·
          subst eg4
          have fi_3200 : ((0 : Int) ≤ (i 3200).toInt) ∧ ((i 3200).toInt ≤ 8) := hG.I.1 3200
          have z5 : ((0 : Int) ≤ x1.toInt) ∧ (x1.toInt < (i 3200).toInt) := hg4
          first | refine fo_goS mi_k28 fz28_45_3_50 [.int x2, .ref 50] (by rfl) ?_ | refine ft_go mi_k28 3 50 [(0, .ref 50), (1, .int x1), (2, .int x2), (3, .int x3)] [.int x2, .ref 50] i a q r (by rfl) ?_
          refine ko_callPR mi_k28.1 (pc := 50) (ls := [(0, .ref 50), (1, .int x1), (2, .int x2), (3, .int x3)]) (st := [.int x2, .ref 50]) (h := ks i a q r) (i := (.invokevirtual 89, 3, 26, 0, 9, 0, 166)) (mi_k28.2 _ _ (by rfl)) (ft_invS mi_pq26 (by rfl)) (cy := mi_c26) mi_pq26 rfl (kc26_50 hG.I hG.R x2) (by decide) ?_
          intro vg6 hg6
          rcases hg6 with ⟨eg6, hg6⟩ | ⟨eg6, hg6⟩ | ⟨eg6, hg6⟩ | ⟨eg6, hg6⟩
          ·
            subst eg6
            first | refine fo_goS mi_k28 fz28_53_2_55 [.int x3, .int x1, .ref 51] (by rfl) ?_ | refine ft_go mi_k28 2 55 [(0, .ref 50), (1, .int x1), (2, .int x2), (3, .int x3)] [.int x3, .int x1, .ref 51] i a q r (by rfl) ?_
            refine ko_iast3 mi_k28.1 (n := 8) (c := 8) (ax := (0, 0, 0, 0, 0)) (mi_k28.2 _ _ (by rfl)) (by rfl) (ksG51 _ _ _ _) (ksA51 _ _ _ _) (hG.I.2.1 51) rfl (oz3 z5.1) (oz974 fi_3200.2 z5.2) ?_
            intro a7 ea7 fa7
            have hJ7 := kG_a3 hG 51 rfl ea7 fa7 (kd_bd _)
            exact ft_ret mi_k28 (by rfl) (hP  _ _ _ _ hJ7 trivial)
          ·
            subst eg6
            first | refine fo_goS mi_k28 fz28_53_2_55 [.int x3, .int x1, .ref 52] (by rfl) ?_ | refine ft_go mi_k28 2 55 [(0, .ref 50), (1, .int x1), (2, .int x2), (3, .int x3)] [.int x3, .int x1, .ref 52] i a q r (by rfl) ?_
            refine ko_iast3 mi_k28.1 (n := 8) (c := 8) (ax := (0, 0, 0, 0, 0)) (mi_k28.2 _ _ (by rfl)) (by rfl) (ksG52 _ _ _ _) (ksA52 _ _ _ _) (hG.I.2.1 52) rfl (oz3 z5.1) (oz974 fi_3200.2 z5.2) ?_
            intro a8 ea8 fa8
            have hJ8 := kG_a3 hG 52 rfl ea8 fa8 (kd_bd _)
            exact ft_ret mi_k28 (by rfl) (hP  _ _ _ _ hJ8 trivial)
          ·
            subst eg6
            first | refine fo_goS mi_k28 fz28_53_2_55 [.int x3, .int x1, .ref 53] (by rfl) ?_ | refine ft_go mi_k28 2 55 [(0, .ref 50), (1, .int x1), (2, .int x2), (3, .int x3)] [.int x3, .int x1, .ref 53] i a q r (by rfl) ?_
            refine ko_iast3 mi_k28.1 (n := 8) (c := 8) (ax := (0, 0, 0, 0, 0)) (mi_k28.2 _ _ (by rfl)) (by rfl) (ksG53 _ _ _ _) (ksA53 _ _ _ _) (hG.I.2.1 53) rfl (oz3 z5.1) (oz974 fi_3200.2 z5.2) ?_
            intro a9 ea9 fa9
            have hJ9 := kG_a3 hG 53 rfl ea9 fa9 (kd_bd _)
            exact ft_ret mi_k28 (by rfl) (hP  _ _ _ _ hJ9 trivial)
          ·
            subst eg6
            first | refine fo_goS mi_k28 fz28_53_2_55 [.int x3, .int x1, .ref 54] (by rfl) ?_ | refine ft_go mi_k28 2 55 [(0, .ref 50), (1, .int x1), (2, .int x2), (3, .int x3)] [.int x3, .int x1, .ref 54] i a q r (by rfl) ?_
            refine ko_iast3 mi_k28.1 (n := 8) (c := 8) (ax := (0, 0, 0, 0, 0)) (mi_k28.2 _ _ (by rfl)) (by rfl) (ksG54 _ _ _ _) (ksA54 _ _ _ _) (hG.I.2.1 54) rfl (oz3 z5.1) (oz974 fi_3200.2 z5.2) ?_
            intro a10 ea10 fa10
            have hJ10 := kG_a3 hG 54 rfl ea10 fa10 (kd_bd _)
            exact ft_ret mi_k28 (by rfl) (hP  _ _ _ _ hJ10 trivial)
        ·
          subst eg4
          first | refine ft_goS mi_k28 1 56 [] (by rfl) ?_ | refine ft_go mi_k28 1 56 [(0, .ref 50), (1, .int x1), (2, .int x2), (3, .int x3)] [] i a q r (by rfl) ?_
          exact ft_ret mi_k28 (by rfl) (hP  _ _ _ _ hG trivial)
      ·
        have c12 : x2.toInt = (6 : Int32).toInt := kd_neF c; clear c
        have hJ13 := kG_i hG 3208 rfl (v := x3) (kd_bd _)
        first | refine fo_goI mi_k28 fz28_5_4_56 [] (ku i 3208 x3) (by rfl) ?_ | refine fo_goI mi_k28 fz28_18_4_56 [] (ku i 3208 x3) (by rfl) ?_ | refine fo_goI mi_k28 fz28_32_4_56 [] (ku i 3208 x3) (by rfl) ?_ | refine ft_goS mi_k28 4 56 [] (by rfl) ?_ | refine ft_go mi_k28 4 56 [(0, .ref 50), (1, .int x1), (2, .int x2), (3, .int x3)] [] (ku i 3208 x3) a q r (by rfl) ?_
        exact ft_ret mi_k28 (by rfl) (hP  _ _ _ _ hJ13 trivial)
    ·
      have c14 : x2.toInt = (5 : Int32).toInt := kd_neF c; clear c
      have hJ15 := kG_i hG 3207 rfl (v := x3) (kd_bd _)
      first | refine fo_goI mi_k28 fz28_5_4_56 [] (ku i 3207 x3) (by rfl) ?_ | refine fo_goI mi_k28 fz28_18_4_56 [] (ku i 3207 x3) (by rfl) ?_ | refine fo_goI mi_k28 fz28_32_4_56 [] (ku i 3207 x3) (by rfl) ?_ | refine ft_goS mi_k28 4 56 [] (by rfl) ?_ | refine ft_go mi_k28 4 56 [(0, .ref 50), (1, .int x1), (2, .int x2), (3, .int x3)] [] (ku i 3207 x3) a q r (by rfl) ?_
      exact ft_ret mi_k28 (by rfl) (hP  _ _ _ _ hJ15 trivial)
  ·
    have c16 : x2.toInt = (4 : Int32).toInt := kd_neF c; clear c
    have hJ17 := kG_i hG 3206 rfl (v := x3) (kd_bd _)
    first | refine fo_goI mi_k28 fz28_5_4_56 [] (ku i 3206 x3) (by rfl) ?_ | refine fo_goI mi_k28 fz28_18_4_56 [] (ku i 3206 x3) (by rfl) ?_ | refine fo_goI mi_k28 fz28_32_4_56 [] (ku i 3206 x3) (by rfl) ?_ | refine ft_goS mi_k28 4 56 [] (by rfl) ?_ | refine ft_go mi_k28 4 56 [(0, .ref 50), (1, .int x1), (2, .int x2), (3, .int x3)] [] (ku i 3206 x3) a q r (by rfl) ?_
    exact ft_ret mi_k28 (by rfl) (hP  _ _ _ _ hJ17 trivial)
def w76_49_1_104 : kW := ([645, 3200, 3206, 3207, 3208, 3209, 3214, 3215, 3216, 3586, 3781, 6405], [13, 51, 52, 53, 54, 55, 57, 58, 62, 63, 65, 66, 67, 68, 69, 70, 71, 72, 73, 75, 76, 77, 103], [], [1])
def w76_49_1_104_L10 : kW := ([645, 3200, 3206, 3207, 3208, 3209, 3214, 3215, 3216, 3586, 3781, 6405], [13, 51, 52, 53, 54, 55, 57, 58, 62, 63, 65, 66, 67, 68, 69, 70, 71, 72, 73, 75, 76, 77, 103], [], [1])
set_option maxRecDepth 100000 in
theorem kc76_49_1_104 {i : Nat → Int32} {a : Nat → List Int32} {q : Nat → List Int64} {r : Nat → Nat} (hI : kI i a q) (hr : kr r) (x3 : Int32) : km 11 76 [.ref 49, .ref 1, .ref 104, .int x3] (ks i a q r) (kVI w76_49_1_104 i a q r (fun v i1 a1 q1 r1 => True)) := by
  have hG := kG_self w76_49_1_104 hI hr
  refine km_ofI (q := (mi_h76, mi_c76)) rfl (by decide) (Nat.le_of_ble_eq_true rfl) ?_
  intro P hP
  first | refine ft_goL mi_k76 4 7 [(4, .int 0), (0, .ref 49), (1, .ref 1), (2, .ref 104), (3, .int x3)] [.int 1, .ref (mi_RO + 1)] (by rfl) ?_ | refine ft_go mi_k76 4 7 [(4, .int 0), (0, .ref 49), (1, .ref 1), (2, .ref 104), (3, .int x3)] [.int 1, .ref (mi_RO + 1)] i a q r (by rfl) ?_
  refine ko_iaro2 mi_k76.1 (l := [0, 0, 0, 0, 1, 0, 0]) (n := 7) (c := 7) (ax := (0, 0, 0, 0, 0)) (mi_k76.2 _ _ (by rfl)) (by rfl) (by rfl) rfl rfl (oz246 kn1) (oz1181 kn1) ?_
  have r1 : ((0 : Int) ≤ (([0, 0, 0, 0, 1, 0, 0] : List Int32).getD (1 : Int32).toNatClampNeg 0).toInt) ∧ ((([0, 0, 0, 0, 1, 0, 0] : List Int32).getD (1 : Int32).toNatClampNeg 0).toInt ≤ 1) := kro_rng (lo := 0) (hi := 1) (by decide) ((1 : Int32).toNatClampNeg)
  first | refine fo_goL mi_k76 fz76_8_1_10 [(5, .int (([0, 0, 0, 0, 1, 0, 0] : List Int32).getD (1 : Int32).toNatClampNeg 0)), (4, .int 0), (0, .ref 49), (1, .ref 1), (2, .ref 104), (3, .int x3)] [] (by rfl) ?_ | refine fo_goS mi_k76 fz76_65_1_10 [] (by rfl) ?_ | refine ft_go mi_k76 1 10 [(5, .int (([0, 0, 0, 0, 1, 0, 0] : List Int32).getD (1 : Int32).toNatClampNeg 0)), (4, .int 0), (0, .ref 49), (1, .ref 1), (2, .ref 104), (3, .int x3)] [] i a q r (by rfl) ?_
  have lp2 : ∀ (nz : Nat) (i2 : Nat → Int32) (a2 : Nat → List Int32) (q2 : Nat → List Int64) (r2 : Nat → Nat) (l5_2 : Int32) (l4_2 : Int32), kG w76_49_1_104_L10 i a q r i2 a2 q2 r2 → (0 : Int) ≤ l5_2.toInt → ((1001 - l5_2.toInt)).toNat < nz → ko 11 (mi_h76, mi_c76) P (10, [(5, .int l5_2), (4, .int l4_2), (0, .ref 49), (1, .ref 1), (2, .ref 104), (3, .int x3)], [], (0, 0), ks i2 a2 q2 r2) := by
    intro nz
    induction nz with
    | zero =>
      intro _ _ _ _ _ _ _ _ hm
      exact absurd hm (Nat.not_lt_zero _)
    | succ nz ih2 =>
      intro i2 a2 q2 r2 l5_2 l4_2 hL2 p2_0 hm2
      first | refine ft_goL mi_k76 3 16 [(5, .int l5_2), (4, .int l4_2), (0, .ref 49), (1, .ref 1), (2, .ref 104), (3, .int x3)] [.int 1, .ref (mi_RO + 2), .int l5_2] (by rfl) ?_ | refine ft_go mi_k76 3 16 [(5, .int l5_2), (4, .int l4_2), (0, .ref 49), (1, .ref 1), (2, .ref 104), (3, .int x3)] [.int 1, .ref (mi_RO + 2), .int l5_2] i2 a2 q2 r2 (by rfl) ?_
      refine ko_iaro2 mi_k76.1 (l := [999, 9, 9, 1, 5, 1, 99]) (n := 7) (c := 7) (ax := (0, 0, 0, 0, 0)) (mi_k76.2 _ _ (by rfl)) (by rfl) (by rfl) rfl rfl (oz246 kn1) (oz1181 kn1) ?_
      have r3 : ((0 : Int) ≤ (([999, 9, 9, 1, 5, 1, 99] : List Int32).getD (1 : Int32).toNatClampNeg 0).toInt) ∧ ((([999, 9, 9, 1, 5, 1, 99] : List Int32).getD (1 : Int32).toNatClampNeg 0).toInt ≤ 999) := kro_rng (lo := 0) (hi := 999) (by decide) ((1 : Int32).toNatClampNeg)
      refine ft_ifS mi_k76 (decide ((([999, 9, 9, 1, 5, 1, 99] : List Int32).getD (1 : Int32).toNatClampNeg 0) < l5_2)) 68 20 [] (by rfl) (fun c => ?_) (fun c => ?_)
      ·
        have c4 : (([999, 9, 9, 1, 5, 1, 99] : List Int32).getD (1 : Int32).toNatClampNeg 0).toInt < l5_2.toInt := kd_lt c; clear c
        have hG5 := kG_call hG hL2 (by decide +kernel)
        first | refine fo_goS mi_k76 fz76_68_1_70 [.int l4_2] (by rfl) ?_ | refine ft_go mi_k76 1 70 [(5, .int l5_2), (4, .int l4_2), (0, .ref 49), (1, .ref 1), (2, .ref 104), (3, .int x3)] [.int l4_2] i2 a2 q2 r2 (by rfl) ?_
        exact ft_ret mi_k76 (by rfl) (hP l4_2 _ _ _ _ hG5 trivial)
      ·
        have c6 : l5_2.toInt ≤ (([999, 9, 9, 1, 5, 1, 99] : List Int32).getD (1 : Int32).toNatClampNeg 0).toInt := kd_ltF c; clear c
        first | refine fo_goS mi_k76 fz76_20_3_25 [.ref 1, .ref 50] (by rfl) ?_ | refine ft_go mi_k76 3 25 [(5, .int l5_2), (4, .int l4_2), (0, .ref 49), (1, .ref 1), (2, .ref 104), (3, .int x3)] [.ref 1, .ref 50] i2 a2 q2 r2 (by rfl) ?_
        refine ko_callN mi_k76.1 (pc := 25) (ls := [(5, .int l5_2), (4, .int l4_2), (0, .ref 49), (1, .ref 1), (2, .ref 104), (3, .int x3)]) (st := [.ref 1, .ref 50]) (h := ks i2 a2 q2 r2) (i := (.invokevirtual 56, 3, 34, 0, 9, 0, 212)) (mi_k76.2 _ _ (by rfl)) (ft_invS mi_pq34 (by rfl)) (cy := mi_c34) mi_pq34 rfl (kc34_50_1 hL2.I hL2.R ) (by decide) ?_
        intro ig7 ag7 qg7 rg7 kg7 hg7
        have hGg7 := kG_call hL2 kg7 (by decide +kernel)
        first | refine fo_goS mi_k76 fz76_28_5_36 [.int l5_2, .int 1, .int x3, .ref 50] (by rfl) ?_ | refine ft_go mi_k76 5 36 [(5, .int l5_2), (4, .int l4_2), (0, .ref 49), (1, .ref 1), (2, .ref 104), (3, .int x3)] [.int l5_2, .int 1, .int x3, .ref 50] ig7 ag7 qg7 rg7 (by rfl) ?_
        refine ko_callN mi_k76.1 (pc := 36) (ls := [(5, .int l5_2), (4, .int l4_2), (0, .ref 49), (1, .ref 1), (2, .ref 104), (3, .int x3)]) (st := [.int l5_2, .int 1, .int x3, .ref 50]) (h := ks ig7 ag7 qg7 rg7) (i := (.invokevirtual 136, 3, 28, 0, 9, 0, 270)) (mi_k76.2 _ _ (by rfl)) (ft_invS mi_pq28 (by rfl)) (cy := mi_c28) mi_pq28 rfl (kc28_50 hGg7.I hGg7.R x3 1 l5_2) (by decide) ?_
        intro ig8 ag8 qg8 rg8 kg8 hg8
        have hGg8 := kG_call hGg7 kg8 (by decide +kernel)
        first | refine fo_goS mi_k76 fz76_39_1_40 [.ref 49] (by rfl) ?_ | refine ft_go mi_k76 1 40 [(5, .int l5_2), (4, .int l4_2), (0, .ref 49), (1, .ref 1), (2, .ref 104), (3, .int x3)] [.ref 49] ig8 ag8 qg8 rg8 (by rfl) ?_
        refine ko_callN mi_k76.1 (pc := 40) (ls := [(5, .int l5_2), (4, .int l4_2), (0, .ref 49), (1, .ref 1), (2, .ref 104), (3, .int x3)]) (st := [.ref 49]) (h := ks ig8 ag8 qg8 rg8) (i := (.invokevirtual 60, 3, 60, 0, 9, 0, 219)) (mi_k76.2 _ _ (by rfl)) (ft_invS mi_pq60 (by rfl)) (cy := mi_c60) mi_pq60 rfl (kc60_49 hGg8.I hGg8.R ) (by decide) ?_
        intro ig9 ag9 qg9 rg9 kg9 hg9
        have hGg9 := kG_call hGg8 kg9 (by decide +kernel)
        first | refine fo_goS mi_k76 fz76_43_2_45 [.ref 104, .ref 49] (by rfl) ?_ | refine ft_go mi_k76 2 45 [(5, .int l5_2), (4, .int l4_2), (0, .ref 49), (1, .ref 1), (2, .ref 104), (3, .int x3)] [.ref 104, .ref 49] ig9 ag9 qg9 rg9 (by rfl) ?_
        refine ko_callPI mi_k76.1 (pc := 45) (ls := [(5, .int l5_2), (4, .int l4_2), (0, .ref 49), (1, .ref 1), (2, .ref 104), (3, .int x3)]) (st := [.ref 104, .ref 49]) (h := ks ig9 ag9 qg9 rg9) (i := (.invokevirtual 126, 3, 73, 0, 9, 0, 265)) (mi_k76.2 _ _ (by rfl)) (ft_invS mi_pq73 (by rfl)) (cy := mi_c73) mi_pq73 rfl (kc73_49_104 hGg9.I hGg9.R ) (by decide) ?_
        intro vg10 hg10
        first | refine fo_goS mi_k76 fz76_48_1_50 [.int (-2), .int vg10] (by rfl) ?_ | refine ft_go mi_k76 1 50 [(5, .int l5_2), (4, .int l4_2), (0, .ref 49), (1, .ref 1), (2, .ref 104), (3, .int x3)] [.int (-2), .int vg10] ig9 ag9 qg9 rg9 (by rfl) ?_
        refine ft_ifS mi_k76 (vg10 != (-2)) 62 53 [] (by rfl) (fun c => ?_) (fun c => ?_)
        ·
          have c11 : vg10.toInt ≠ ((-2) : Int32).toInt := kd_ne c; clear c
          have s12 : (l5_2 + 1).toInt = l5_2.toInt + (1 : Int32).toInt := kd_add (oz12 p2_0 kn1) (oz1182 c6 r3.2 kn1)
          first | refine fo_goL mi_k76 fz76_62_2_10 [(5, .int (l5_2 + 1)), (4, .int l4_2), (0, .ref 49), (1, .ref 1), (2, .ref 104), (3, .int x3)] [] (by rfl) ?_ | refine ft_goL mi_k76 2 10 [(5, .int (l5_2 + 1)), (4, .int l4_2), (0, .ref 49), (1, .ref 1), (2, .ref 104), (3, .int x3)] [] (by rfl) ?_ | refine ft_go mi_k76 2 10 [(5, .int (l5_2 + 1)), (4, .int l4_2), (0, .ref 49), (1, .ref 1), (2, .ref 104), (3, .int x3)] [] ig9 ag9 qg9 rg9 (by rfl) ?_
          exact ih2 _ _ _ _ _ _ hGg9 (oz14 p2_0 s12 kn1) (kj_meas (oz1183 s12 kn1) (oz1184 c6 r3.2) hm2)
        ·
          have c13 : vg10.toInt = ((-2) : Int32).toInt := kd_neF c; clear c
          have s14 : (l5_2 + 1).toInt = l5_2.toInt + (1 : Int32).toInt := kd_add (oz12 p2_0 kn1) (oz1182 c6 r3.2 kn1)
          first | refine ft_goL mi_k76 8 10 [(5, .int (l5_2 + 1)), (4, .int (l4_2 ||| (1 <<< (l5_2 &&& 31)))), (0, .ref 49), (1, .ref 1), (2, .ref 104), (3, .int x3)] [] (by rfl) ?_ | refine ft_go mi_k76 8 10 [(5, .int (l5_2 + 1)), (4, .int (l4_2 ||| (1 <<< (l5_2 &&& 31)))), (0, .ref 49), (1, .ref 1), (2, .ref 104), (3, .int x3)] [] ig9 ag9 qg9 rg9 (by rfl) ?_
          exact ih2 _ _ _ _ _ _ hGg9 (oz14 p2_0 s14 kn1) (kj_meas (oz1183 s14 kn1) (oz1184 c6 r3.2) hm2)
  exact lp2 _ _ _ _ _ _ _ (kG_self _ hG.I hG.R) (oz3 r1.1) (Nat.lt_succ_self _)
set_option maxRecDepth 100000 in
theorem kc99 {i : Nat → Int32} {a : Nat → List Int32} {q : Nat → List Int64} {r : Nat → Nat} (hI : kI i a q) (hr : kr r) (x1 : Int32) : km 1 99 [.int x1] (ks i a q r) (kPI (ks i a q r) (fun v => True)) := by
  have hG := kG_self kW0 hI hr
  refine km_ofPI (q := (mi_h99, mi_c99)) rfl (by decide) (Nat.le_of_ble_eq_true rfl) ?_
  intro P hP
  first | refine ft_goL mi_k99 2 2 [(1, .int 0), (0, .int x1)] [] (by rfl) ?_ | refine ft_go mi_k99 2 2 [(1, .int 0), (0, .int x1)] [] i a q r (by rfl) ?_
  have lp1 : ∀ (nz : Nat) (l1_1 : Int32), (0 : Int) ≤ l1_1.toInt → ((32 - l1_1.toInt)).toNat < nz → ko 1 (mi_h99, mi_c99) P (2, [(1, .int l1_1), (0, .int x1)], [], (0, 0), ks i a q r) := by
    intro nz
    induction nz with
    | zero =>
      intro _ _ hm
      exact absurd hm (Nat.not_lt_zero _)
    | succ nz ih1 =>
      intro l1_1 p1_0 hm1
      first | refine ft_goL mi_k99 2 5 [(1, .int l1_1), (0, .int x1)] [.int 32, .int l1_1] (by rfl) ?_ | refine ft_go mi_k99 2 5 [(1, .int l1_1), (0, .int x1)] [.int 32, .int l1_1] i a q r (by rfl) ?_
      refine ft_ifS mi_k99 (decide (32 ≤ l1_1)) 25 8 [] (by rfl) (fun c => ?_) (fun c => ?_)
      ·
        have c2 : (32 : Int32).toInt ≤ l1_1.toInt := kd_le c; clear c
        first | refine ft_goS mi_k99 1 27 [.int (-2)] (by rfl) ?_ | refine ft_go mi_k99 1 27 [(1, .int l1_1), (0, .int x1)] [.int (-2)] i a q r (by rfl) ?_
        exact ft_ret mi_k99 (by rfl) (hP (-2) trivial)
      ·
        have c3 : l1_1.toInt < (32 : Int32).toInt := kd_leF c; clear c
        first | refine ft_goS mi_k99 6 14 [.int 1, .int ((x1 >>> (l1_1 &&& 31)) &&& 1)] (by rfl) ?_ | refine ft_go mi_k99 6 14 [(1, .int l1_1), (0, .int x1)] [.int 1, .int ((x1 >>> (l1_1 &&& 31)) &&& 1)] i a q r (by rfl) ?_
        refine ft_ifS mi_k99 (((x1 >>> (l1_1 &&& 31)) &&& 1) != 1) 19 17 [] (by rfl) (fun c => ?_) (fun c => ?_)
        ·
          have c4 : ((x1 >>> (l1_1 &&& 31)) &&& 1).toInt ≠ (1 : Int32).toInt := kd_ne c; clear c
          have s5 : (l1_1 + 1).toInt = l1_1.toInt + (1 : Int32).toInt := kd_add (oz12 p1_0 kn1) (oz1185 c3 kn32 kn1)
          first | refine ft_goL mi_k99 2 2 [(1, .int (l1_1 + 1)), (0, .int x1)] [] (by rfl) ?_ | refine ft_go mi_k99 2 2 [(1, .int (l1_1 + 1)), (0, .int x1)] [] i a q r (by rfl) ?_
          exact ih1 _ (oz14 p1_0 s5 kn1) (kj_meas (oz1186 s5 kn1) (oz1187 c3 kn32) hm1)
        ·
          have c6 : ((x1 >>> (l1_1 &&& 31)) &&& 1).toInt = (1 : Int32).toInt := kd_neF c; clear c
          first | refine ft_goS mi_k99 1 18 [.int l1_1] (by rfl) ?_ | refine ft_go mi_k99 1 18 [(1, .int l1_1), (0, .int x1)] [.int l1_1] i a q r (by rfl) ?_
          exact ft_ret mi_k99 (by rfl) (hP l1_1 trivial)
  exact lp1 _ _ (oz46 kn0) (Nat.lt_succ_self _)
def w76_49_1_106 : kW := ([645, 3200, 3206, 3207, 3208, 3209, 3214, 3215, 3216, 3586, 3781, 6405], [13, 51, 52, 53, 54, 55, 57, 58, 62, 63, 65, 66, 67, 68, 69, 70, 71, 72, 73, 75, 76, 77, 103], [], [1])
def w76_49_1_106_L10 : kW := ([645, 3200, 3206, 3207, 3208, 3209, 3214, 3215, 3216, 3586, 3781, 6405], [13, 51, 52, 53, 54, 55, 57, 58, 62, 63, 65, 66, 67, 68, 69, 70, 71, 72, 73, 75, 76, 77, 103], [], [1])
set_option maxRecDepth 100000 in
theorem kc76_49_1_106 {i : Nat → Int32} {a : Nat → List Int32} {q : Nat → List Int64} {r : Nat → Nat} (hI : kI i a q) (hr : kr r) (x3 : Int32) : km 11 76 [.ref 49, .ref 1, .ref 106, .int x3] (ks i a q r) (kVI w76_49_1_106 i a q r (fun v i1 a1 q1 r1 => True)) := by
  have hG := kG_self w76_49_1_106 hI hr
  refine km_ofI (q := (mi_h76, mi_c76)) rfl (by decide) (Nat.le_of_ble_eq_true rfl) ?_
  intro P hP
  first | refine ft_goL mi_k76 4 7 [(4, .int 0), (0, .ref 49), (1, .ref 1), (2, .ref 106), (3, .int x3)] [.int 1, .ref (mi_RO + 1)] (by rfl) ?_ | refine ft_go mi_k76 4 7 [(4, .int 0), (0, .ref 49), (1, .ref 1), (2, .ref 106), (3, .int x3)] [.int 1, .ref (mi_RO + 1)] i a q r (by rfl) ?_
  refine ko_iaro2 mi_k76.1 (l := [0, 0, 0, 0, 1, 0, 0]) (n := 7) (c := 7) (ax := (0, 0, 0, 0, 0)) (mi_k76.2 _ _ (by rfl)) (by rfl) (by rfl) rfl rfl (oz246 kn1) (oz1181 kn1) ?_
  have r1 : ((0 : Int) ≤ (([0, 0, 0, 0, 1, 0, 0] : List Int32).getD (1 : Int32).toNatClampNeg 0).toInt) ∧ ((([0, 0, 0, 0, 1, 0, 0] : List Int32).getD (1 : Int32).toNatClampNeg 0).toInt ≤ 1) := kro_rng (lo := 0) (hi := 1) (by decide) ((1 : Int32).toNatClampNeg)
  first | refine fo_goL mi_k76 fz76_8_1_10 [(5, .int (([0, 0, 0, 0, 1, 0, 0] : List Int32).getD (1 : Int32).toNatClampNeg 0)), (4, .int 0), (0, .ref 49), (1, .ref 1), (2, .ref 106), (3, .int x3)] [] (by rfl) ?_ | refine fo_goS mi_k76 fz76_65_1_10 [] (by rfl) ?_ | refine ft_go mi_k76 1 10 [(5, .int (([0, 0, 0, 0, 1, 0, 0] : List Int32).getD (1 : Int32).toNatClampNeg 0)), (4, .int 0), (0, .ref 49), (1, .ref 1), (2, .ref 106), (3, .int x3)] [] i a q r (by rfl) ?_
  have lp2 : ∀ (nz : Nat) (i2 : Nat → Int32) (a2 : Nat → List Int32) (q2 : Nat → List Int64) (r2 : Nat → Nat) (l5_2 : Int32) (l4_2 : Int32), kG w76_49_1_106_L10 i a q r i2 a2 q2 r2 → (0 : Int) ≤ l5_2.toInt → ((1001 - l5_2.toInt)).toNat < nz → ko 11 (mi_h76, mi_c76) P (10, [(5, .int l5_2), (4, .int l4_2), (0, .ref 49), (1, .ref 1), (2, .ref 106), (3, .int x3)], [], (0, 0), ks i2 a2 q2 r2) := by
    intro nz
    induction nz with
    | zero =>
      intro _ _ _ _ _ _ _ _ hm
      exact absurd hm (Nat.not_lt_zero _)
    | succ nz ih2 =>
      intro i2 a2 q2 r2 l5_2 l4_2 hL2 p2_0 hm2
      first | refine ft_goL mi_k76 3 16 [(5, .int l5_2), (4, .int l4_2), (0, .ref 49), (1, .ref 1), (2, .ref 106), (3, .int x3)] [.int 1, .ref (mi_RO + 2), .int l5_2] (by rfl) ?_ | refine ft_go mi_k76 3 16 [(5, .int l5_2), (4, .int l4_2), (0, .ref 49), (1, .ref 1), (2, .ref 106), (3, .int x3)] [.int 1, .ref (mi_RO + 2), .int l5_2] i2 a2 q2 r2 (by rfl) ?_
      refine ko_iaro2 mi_k76.1 (l := [999, 9, 9, 1, 5, 1, 99]) (n := 7) (c := 7) (ax := (0, 0, 0, 0, 0)) (mi_k76.2 _ _ (by rfl)) (by rfl) (by rfl) rfl rfl (oz246 kn1) (oz1181 kn1) ?_
      have r3 : ((0 : Int) ≤ (([999, 9, 9, 1, 5, 1, 99] : List Int32).getD (1 : Int32).toNatClampNeg 0).toInt) ∧ ((([999, 9, 9, 1, 5, 1, 99] : List Int32).getD (1 : Int32).toNatClampNeg 0).toInt ≤ 999) := kro_rng (lo := 0) (hi := 999) (by decide) ((1 : Int32).toNatClampNeg)
      refine ft_ifS mi_k76 (decide ((([999, 9, 9, 1, 5, 1, 99] : List Int32).getD (1 : Int32).toNatClampNeg 0) < l5_2)) 68 20 [] (by rfl) (fun c => ?_) (fun c => ?_)
      ·
        have c4 : (([999, 9, 9, 1, 5, 1, 99] : List Int32).getD (1 : Int32).toNatClampNeg 0).toInt < l5_2.toInt := kd_lt c; clear c
        have hG5 := kG_call hG hL2 (by decide +kernel)
        first | refine fo_goS mi_k76 fz76_68_1_70 [.int l4_2] (by rfl) ?_ | refine ft_go mi_k76 1 70 [(5, .int l5_2), (4, .int l4_2), (0, .ref 49), (1, .ref 1), (2, .ref 106), (3, .int x3)] [.int l4_2] i2 a2 q2 r2 (by rfl) ?_
        exact ft_ret mi_k76 (by rfl) (hP l4_2 _ _ _ _ hG5 trivial)
      ·
        have c6 : l5_2.toInt ≤ (([999, 9, 9, 1, 5, 1, 99] : List Int32).getD (1 : Int32).toNatClampNeg 0).toInt := kd_ltF c; clear c
        first | refine fo_goS mi_k76 fz76_20_3_25 [.ref 1, .ref 50] (by rfl) ?_ | refine ft_go mi_k76 3 25 [(5, .int l5_2), (4, .int l4_2), (0, .ref 49), (1, .ref 1), (2, .ref 106), (3, .int x3)] [.ref 1, .ref 50] i2 a2 q2 r2 (by rfl) ?_
        refine ko_callN mi_k76.1 (pc := 25) (ls := [(5, .int l5_2), (4, .int l4_2), (0, .ref 49), (1, .ref 1), (2, .ref 106), (3, .int x3)]) (st := [.ref 1, .ref 50]) (h := ks i2 a2 q2 r2) (i := (.invokevirtual 56, 3, 34, 0, 9, 0, 212)) (mi_k76.2 _ _ (by rfl)) (ft_invS mi_pq34 (by rfl)) (cy := mi_c34) mi_pq34 rfl (kc34_50_1 hL2.I hL2.R ) (by decide) ?_
        intro ig7 ag7 qg7 rg7 kg7 hg7
        have hGg7 := kG_call hL2 kg7 (by decide +kernel)
        first | refine fo_goS mi_k76 fz76_28_5_36 [.int l5_2, .int 1, .int x3, .ref 50] (by rfl) ?_ | refine ft_go mi_k76 5 36 [(5, .int l5_2), (4, .int l4_2), (0, .ref 49), (1, .ref 1), (2, .ref 106), (3, .int x3)] [.int l5_2, .int 1, .int x3, .ref 50] ig7 ag7 qg7 rg7 (by rfl) ?_
        refine ko_callN mi_k76.1 (pc := 36) (ls := [(5, .int l5_2), (4, .int l4_2), (0, .ref 49), (1, .ref 1), (2, .ref 106), (3, .int x3)]) (st := [.int l5_2, .int 1, .int x3, .ref 50]) (h := ks ig7 ag7 qg7 rg7) (i := (.invokevirtual 136, 3, 28, 0, 9, 0, 270)) (mi_k76.2 _ _ (by rfl)) (ft_invS mi_pq28 (by rfl)) (cy := mi_c28) mi_pq28 rfl (kc28_50 hGg7.I hGg7.R x3 1 l5_2) (by decide) ?_
        intro ig8 ag8 qg8 rg8 kg8 hg8
        have hGg8 := kG_call hGg7 kg8 (by decide +kernel)
        first | refine fo_goS mi_k76 fz76_39_1_40 [.ref 49] (by rfl) ?_ | refine ft_go mi_k76 1 40 [(5, .int l5_2), (4, .int l4_2), (0, .ref 49), (1, .ref 1), (2, .ref 106), (3, .int x3)] [.ref 49] ig8 ag8 qg8 rg8 (by rfl) ?_
        refine ko_callN mi_k76.1 (pc := 40) (ls := [(5, .int l5_2), (4, .int l4_2), (0, .ref 49), (1, .ref 1), (2, .ref 106), (3, .int x3)]) (st := [.ref 49]) (h := ks ig8 ag8 qg8 rg8) (i := (.invokevirtual 60, 3, 60, 0, 9, 0, 219)) (mi_k76.2 _ _ (by rfl)) (ft_invS mi_pq60 (by rfl)) (cy := mi_c60) mi_pq60 rfl (kc60_49 hGg8.I hGg8.R ) (by decide) ?_
        intro ig9 ag9 qg9 rg9 kg9 hg9
        have hGg9 := kG_call hGg8 kg9 (by decide +kernel)
        first | refine fo_goS mi_k76 fz76_43_2_45 [.ref 106, .ref 49] (by rfl) ?_ | refine ft_go mi_k76 2 45 [(5, .int l5_2), (4, .int l4_2), (0, .ref 49), (1, .ref 1), (2, .ref 106), (3, .int x3)] [.ref 106, .ref 49] ig9 ag9 qg9 rg9 (by rfl) ?_
        refine ko_callPI mi_k76.1 (pc := 45) (ls := [(5, .int l5_2), (4, .int l4_2), (0, .ref 49), (1, .ref 1), (2, .ref 106), (3, .int x3)]) (st := [.ref 106, .ref 49]) (h := ks ig9 ag9 qg9 rg9) (i := (.invokevirtual 126, 3, 73, 0, 9, 0, 265)) (mi_k76.2 _ _ (by rfl)) (ft_invS mi_pq73 (by rfl)) (cy := mi_c73) mi_pq73 rfl (kc73_49_106 hGg9.I hGg9.R ) (by decide) ?_
        intro vg10 hg10
        first | refine fo_goS mi_k76 fz76_48_1_50 [.int (-2), .int vg10] (by rfl) ?_ | refine ft_go mi_k76 1 50 [(5, .int l5_2), (4, .int l4_2), (0, .ref 49), (1, .ref 1), (2, .ref 106), (3, .int x3)] [.int (-2), .int vg10] ig9 ag9 qg9 rg9 (by rfl) ?_
        refine ft_ifS mi_k76 (vg10 != (-2)) 62 53 [] (by rfl) (fun c => ?_) (fun c => ?_)
        ·
          have c11 : vg10.toInt ≠ ((-2) : Int32).toInt := kd_ne c; clear c
          have s12 : (l5_2 + 1).toInt = l5_2.toInt + (1 : Int32).toInt := kd_add (oz12 p2_0 kn1) (oz1182 c6 r3.2 kn1)
          first | refine fo_goL mi_k76 fz76_62_2_10 [(5, .int (l5_2 + 1)), (4, .int l4_2), (0, .ref 49), (1, .ref 1), (2, .ref 106), (3, .int x3)] [] (by rfl) ?_ | refine ft_goL mi_k76 2 10 [(5, .int (l5_2 + 1)), (4, .int l4_2), (0, .ref 49), (1, .ref 1), (2, .ref 106), (3, .int x3)] [] (by rfl) ?_ | refine ft_go mi_k76 2 10 [(5, .int (l5_2 + 1)), (4, .int l4_2), (0, .ref 49), (1, .ref 1), (2, .ref 106), (3, .int x3)] [] ig9 ag9 qg9 rg9 (by rfl) ?_
          exact ih2 _ _ _ _ _ _ hGg9 (oz14 p2_0 s12 kn1) (kj_meas (oz1183 s12 kn1) (oz1184 c6 r3.2) hm2)
        ·
          have c13 : vg10.toInt = ((-2) : Int32).toInt := kd_neF c; clear c
          have s14 : (l5_2 + 1).toInt = l5_2.toInt + (1 : Int32).toInt := kd_add (oz12 p2_0 kn1) (oz1182 c6 r3.2 kn1)
          first | refine ft_goL mi_k76 8 10 [(5, .int (l5_2 + 1)), (4, .int (l4_2 ||| (1 <<< (l5_2 &&& 31)))), (0, .ref 49), (1, .ref 1), (2, .ref 106), (3, .int x3)] [] (by rfl) ?_ | refine ft_go mi_k76 8 10 [(5, .int (l5_2 + 1)), (4, .int (l4_2 ||| (1 <<< (l5_2 &&& 31)))), (0, .ref 49), (1, .ref 1), (2, .ref 106), (3, .int x3)] [] ig9 ag9 qg9 rg9 (by rfl) ?_
          exact ih2 _ _ _ _ _ _ hGg9 (oz14 p2_0 s14 kn1) (kj_meas (oz1183 s14 kn1) (oz1184 c6 r3.2) hm2)
  exact lp2 _ _ _ _ _ _ _ (kG_self _ hG.I hG.R) (oz3 r1.1) (Nat.lt_succ_self _)
def w76_49_1_108 : kW := ([645, 3200, 3206, 3207, 3208, 3209, 3214, 3215, 3216, 3586, 3781, 6405], [13, 51, 52, 53, 54, 55, 57, 58, 62, 63, 65, 66, 67, 68, 69, 70, 71, 72, 73, 75, 76, 77, 103], [], [1])
def w76_49_1_108_L10 : kW := ([645, 3200, 3206, 3207, 3208, 3209, 3214, 3215, 3216, 3586, 3781, 6405], [13, 51, 52, 53, 54, 55, 57, 58, 62, 63, 65, 66, 67, 68, 69, 70, 71, 72, 73, 75, 76, 77, 103], [], [1])
set_option maxRecDepth 100000 in
theorem kc76_49_1_108 {i : Nat → Int32} {a : Nat → List Int32} {q : Nat → List Int64} {r : Nat → Nat} (hI : kI i a q) (hr : kr r) (x3 : Int32) : km 11 76 [.ref 49, .ref 1, .ref 108, .int x3] (ks i a q r) (kVI w76_49_1_108 i a q r (fun v i1 a1 q1 r1 => True)) := by
  have hG := kG_self w76_49_1_108 hI hr
  refine km_ofI (q := (mi_h76, mi_c76)) rfl (by decide) (Nat.le_of_ble_eq_true rfl) ?_
  intro P hP
  first | refine ft_goL mi_k76 4 7 [(4, .int 0), (0, .ref 49), (1, .ref 1), (2, .ref 108), (3, .int x3)] [.int 1, .ref (mi_RO + 1)] (by rfl) ?_ | refine ft_go mi_k76 4 7 [(4, .int 0), (0, .ref 49), (1, .ref 1), (2, .ref 108), (3, .int x3)] [.int 1, .ref (mi_RO + 1)] i a q r (by rfl) ?_
  refine ko_iaro2 mi_k76.1 (l := [0, 0, 0, 0, 1, 0, 0]) (n := 7) (c := 7) (ax := (0, 0, 0, 0, 0)) (mi_k76.2 _ _ (by rfl)) (by rfl) (by rfl) rfl rfl (oz246 kn1) (oz1181 kn1) ?_
  have r1 : ((0 : Int) ≤ (([0, 0, 0, 0, 1, 0, 0] : List Int32).getD (1 : Int32).toNatClampNeg 0).toInt) ∧ ((([0, 0, 0, 0, 1, 0, 0] : List Int32).getD (1 : Int32).toNatClampNeg 0).toInt ≤ 1) := kro_rng (lo := 0) (hi := 1) (by decide) ((1 : Int32).toNatClampNeg)
  first | refine fo_goL mi_k76 fz76_8_1_10 [(5, .int (([0, 0, 0, 0, 1, 0, 0] : List Int32).getD (1 : Int32).toNatClampNeg 0)), (4, .int 0), (0, .ref 49), (1, .ref 1), (2, .ref 108), (3, .int x3)] [] (by rfl) ?_ | refine fo_goS mi_k76 fz76_65_1_10 [] (by rfl) ?_ | refine ft_go mi_k76 1 10 [(5, .int (([0, 0, 0, 0, 1, 0, 0] : List Int32).getD (1 : Int32).toNatClampNeg 0)), (4, .int 0), (0, .ref 49), (1, .ref 1), (2, .ref 108), (3, .int x3)] [] i a q r (by rfl) ?_
  have lp2 : ∀ (nz : Nat) (i2 : Nat → Int32) (a2 : Nat → List Int32) (q2 : Nat → List Int64) (r2 : Nat → Nat) (l5_2 : Int32) (l4_2 : Int32), kG w76_49_1_108_L10 i a q r i2 a2 q2 r2 → (0 : Int) ≤ l5_2.toInt → ((1001 - l5_2.toInt)).toNat < nz → ko 11 (mi_h76, mi_c76) P (10, [(5, .int l5_2), (4, .int l4_2), (0, .ref 49), (1, .ref 1), (2, .ref 108), (3, .int x3)], [], (0, 0), ks i2 a2 q2 r2) := by
    intro nz
    induction nz with
    | zero =>
      intro _ _ _ _ _ _ _ _ hm
      exact absurd hm (Nat.not_lt_zero _)
    | succ nz ih2 =>
      intro i2 a2 q2 r2 l5_2 l4_2 hL2 p2_0 hm2
      first | refine ft_goL mi_k76 3 16 [(5, .int l5_2), (4, .int l4_2), (0, .ref 49), (1, .ref 1), (2, .ref 108), (3, .int x3)] [.int 1, .ref (mi_RO + 2), .int l5_2] (by rfl) ?_ | refine ft_go mi_k76 3 16 [(5, .int l5_2), (4, .int l4_2), (0, .ref 49), (1, .ref 1), (2, .ref 108), (3, .int x3)] [.int 1, .ref (mi_RO + 2), .int l5_2] i2 a2 q2 r2 (by rfl) ?_
      refine ko_iaro2 mi_k76.1 (l := [999, 9, 9, 1, 5, 1, 99]) (n := 7) (c := 7) (ax := (0, 0, 0, 0, 0)) (mi_k76.2 _ _ (by rfl)) (by rfl) (by rfl) rfl rfl (oz246 kn1) (oz1181 kn1) ?_
      have r3 : ((0 : Int) ≤ (([999, 9, 9, 1, 5, 1, 99] : List Int32).getD (1 : Int32).toNatClampNeg 0).toInt) ∧ ((([999, 9, 9, 1, 5, 1, 99] : List Int32).getD (1 : Int32).toNatClampNeg 0).toInt ≤ 999) := kro_rng (lo := 0) (hi := 999) (by decide) ((1 : Int32).toNatClampNeg)
      refine ft_ifS mi_k76 (decide ((([999, 9, 9, 1, 5, 1, 99] : List Int32).getD (1 : Int32).toNatClampNeg 0) < l5_2)) 68 20 [] (by rfl) (fun c => ?_) (fun c => ?_)
      ·
        have c4 : (([999, 9, 9, 1, 5, 1, 99] : List Int32).getD (1 : Int32).toNatClampNeg 0).toInt < l5_2.toInt := kd_lt c; clear c
        have hG5 := kG_call hG hL2 (by decide +kernel)
        first | refine fo_goS mi_k76 fz76_68_1_70 [.int l4_2] (by rfl) ?_ | refine ft_go mi_k76 1 70 [(5, .int l5_2), (4, .int l4_2), (0, .ref 49), (1, .ref 1), (2, .ref 108), (3, .int x3)] [.int l4_2] i2 a2 q2 r2 (by rfl) ?_
        exact ft_ret mi_k76 (by rfl) (hP l4_2 _ _ _ _ hG5 trivial)
      ·
        have c6 : l5_2.toInt ≤ (([999, 9, 9, 1, 5, 1, 99] : List Int32).getD (1 : Int32).toNatClampNeg 0).toInt := kd_ltF c; clear c
        first | refine fo_goS mi_k76 fz76_20_3_25 [.ref 1, .ref 50] (by rfl) ?_ | refine ft_go mi_k76 3 25 [(5, .int l5_2), (4, .int l4_2), (0, .ref 49), (1, .ref 1), (2, .ref 108), (3, .int x3)] [.ref 1, .ref 50] i2 a2 q2 r2 (by rfl) ?_
        refine ko_callN mi_k76.1 (pc := 25) (ls := [(5, .int l5_2), (4, .int l4_2), (0, .ref 49), (1, .ref 1), (2, .ref 108), (3, .int x3)]) (st := [.ref 1, .ref 50]) (h := ks i2 a2 q2 r2) (i := (.invokevirtual 56, 3, 34, 0, 9, 0, 212)) (mi_k76.2 _ _ (by rfl)) (ft_invS mi_pq34 (by rfl)) (cy := mi_c34) mi_pq34 rfl (kc34_50_1 hL2.I hL2.R ) (by decide) ?_
        intro ig7 ag7 qg7 rg7 kg7 hg7
        have hGg7 := kG_call hL2 kg7 (by decide +kernel)
        first | refine fo_goS mi_k76 fz76_28_5_36 [.int l5_2, .int 1, .int x3, .ref 50] (by rfl) ?_ | refine ft_go mi_k76 5 36 [(5, .int l5_2), (4, .int l4_2), (0, .ref 49), (1, .ref 1), (2, .ref 108), (3, .int x3)] [.int l5_2, .int 1, .int x3, .ref 50] ig7 ag7 qg7 rg7 (by rfl) ?_
        refine ko_callN mi_k76.1 (pc := 36) (ls := [(5, .int l5_2), (4, .int l4_2), (0, .ref 49), (1, .ref 1), (2, .ref 108), (3, .int x3)]) (st := [.int l5_2, .int 1, .int x3, .ref 50]) (h := ks ig7 ag7 qg7 rg7) (i := (.invokevirtual 136, 3, 28, 0, 9, 0, 270)) (mi_k76.2 _ _ (by rfl)) (ft_invS mi_pq28 (by rfl)) (cy := mi_c28) mi_pq28 rfl (kc28_50 hGg7.I hGg7.R x3 1 l5_2) (by decide) ?_
        intro ig8 ag8 qg8 rg8 kg8 hg8
        have hGg8 := kG_call hGg7 kg8 (by decide +kernel)
        first | refine fo_goS mi_k76 fz76_39_1_40 [.ref 49] (by rfl) ?_ | refine ft_go mi_k76 1 40 [(5, .int l5_2), (4, .int l4_2), (0, .ref 49), (1, .ref 1), (2, .ref 108), (3, .int x3)] [.ref 49] ig8 ag8 qg8 rg8 (by rfl) ?_
        refine ko_callN mi_k76.1 (pc := 40) (ls := [(5, .int l5_2), (4, .int l4_2), (0, .ref 49), (1, .ref 1), (2, .ref 108), (3, .int x3)]) (st := [.ref 49]) (h := ks ig8 ag8 qg8 rg8) (i := (.invokevirtual 60, 3, 60, 0, 9, 0, 219)) (mi_k76.2 _ _ (by rfl)) (ft_invS mi_pq60 (by rfl)) (cy := mi_c60) mi_pq60 rfl (kc60_49 hGg8.I hGg8.R ) (by decide) ?_
        intro ig9 ag9 qg9 rg9 kg9 hg9
        have hGg9 := kG_call hGg8 kg9 (by decide +kernel)
        first | refine fo_goS mi_k76 fz76_43_2_45 [.ref 108, .ref 49] (by rfl) ?_ | refine ft_go mi_k76 2 45 [(5, .int l5_2), (4, .int l4_2), (0, .ref 49), (1, .ref 1), (2, .ref 108), (3, .int x3)] [.ref 108, .ref 49] ig9 ag9 qg9 rg9 (by rfl) ?_
        refine ko_callPI mi_k76.1 (pc := 45) (ls := [(5, .int l5_2), (4, .int l4_2), (0, .ref 49), (1, .ref 1), (2, .ref 108), (3, .int x3)]) (st := [.ref 108, .ref 49]) (h := ks ig9 ag9 qg9 rg9) (i := (.invokevirtual 126, 3, 73, 0, 9, 0, 265)) (mi_k76.2 _ _ (by rfl)) (ft_invS mi_pq73 (by rfl)) (cy := mi_c73) mi_pq73 rfl (kc73_49_108 hGg9.I hGg9.R ) (by decide) ?_
        intro vg10 hg10
        first | refine fo_goS mi_k76 fz76_48_1_50 [.int (-2), .int vg10] (by rfl) ?_ | refine ft_go mi_k76 1 50 [(5, .int l5_2), (4, .int l4_2), (0, .ref 49), (1, .ref 1), (2, .ref 108), (3, .int x3)] [.int (-2), .int vg10] ig9 ag9 qg9 rg9 (by rfl) ?_
        refine ft_ifS mi_k76 (vg10 != (-2)) 62 53 [] (by rfl) (fun c => ?_) (fun c => ?_)
        ·
          have c11 : vg10.toInt ≠ ((-2) : Int32).toInt := kd_ne c; clear c
          have s12 : (l5_2 + 1).toInt = l5_2.toInt + (1 : Int32).toInt := kd_add (oz12 p2_0 kn1) (oz1182 c6 r3.2 kn1)
          first | refine fo_goL mi_k76 fz76_62_2_10 [(5, .int (l5_2 + 1)), (4, .int l4_2), (0, .ref 49), (1, .ref 1), (2, .ref 108), (3, .int x3)] [] (by rfl) ?_ | refine ft_goL mi_k76 2 10 [(5, .int (l5_2 + 1)), (4, .int l4_2), (0, .ref 49), (1, .ref 1), (2, .ref 108), (3, .int x3)] [] (by rfl) ?_ | refine ft_go mi_k76 2 10 [(5, .int (l5_2 + 1)), (4, .int l4_2), (0, .ref 49), (1, .ref 1), (2, .ref 108), (3, .int x3)] [] ig9 ag9 qg9 rg9 (by rfl) ?_
          exact ih2 _ _ _ _ _ _ hGg9 (oz14 p2_0 s12 kn1) (kj_meas (oz1183 s12 kn1) (oz1184 c6 r3.2) hm2)
        ·
          have c13 : vg10.toInt = ((-2) : Int32).toInt := kd_neF c; clear c
          have s14 : (l5_2 + 1).toInt = l5_2.toInt + (1 : Int32).toInt := kd_add (oz12 p2_0 kn1) (oz1182 c6 r3.2 kn1)
          first | refine ft_goL mi_k76 8 10 [(5, .int (l5_2 + 1)), (4, .int (l4_2 ||| (1 <<< (l5_2 &&& 31)))), (0, .ref 49), (1, .ref 1), (2, .ref 108), (3, .int x3)] [] (by rfl) ?_ | refine ft_go mi_k76 8 10 [(5, .int (l5_2 + 1)), (4, .int (l4_2 ||| (1 <<< (l5_2 &&& 31)))), (0, .ref 49), (1, .ref 1), (2, .ref 108), (3, .int x3)] [] ig9 ag9 qg9 rg9 (by rfl) ?_
          exact ih2 _ _ _ _ _ _ hGg9 (oz14 p2_0 s14 kn1) (kj_meas (oz1183 s14 kn1) (oz1184 c6 r3.2) hm2)
  exact lp2 _ _ _ _ _ _ _ (kG_self _ hG.I hG.R) (oz3 r1.1) (Nat.lt_succ_self _)
def w76_49_1_110 : kW := ([645, 3200, 3206, 3207, 3208, 3209, 3214, 3215, 3216, 3586, 3781, 6405], [13, 51, 52, 53, 54, 55, 57, 58, 62, 63, 65, 66, 67, 68, 69, 70, 71, 72, 73, 75, 76, 77, 103], [], [1])
def w76_49_1_110_L10 : kW := ([645, 3200, 3206, 3207, 3208, 3209, 3214, 3215, 3216, 3586, 3781, 6405], [13, 51, 52, 53, 54, 55, 57, 58, 62, 63, 65, 66, 67, 68, 69, 70, 71, 72, 73, 75, 76, 77, 103], [], [1])
set_option maxRecDepth 100000 in
theorem kc76_49_1_110 {i : Nat → Int32} {a : Nat → List Int32} {q : Nat → List Int64} {r : Nat → Nat} (hI : kI i a q) (hr : kr r) (x3 : Int32) : km 11 76 [.ref 49, .ref 1, .ref 110, .int x3] (ks i a q r) (kVI w76_49_1_110 i a q r (fun v i1 a1 q1 r1 => True)) := by
  have hG := kG_self w76_49_1_110 hI hr
  refine km_ofI (q := (mi_h76, mi_c76)) rfl (by decide) (Nat.le_of_ble_eq_true rfl) ?_
  intro P hP
  first | refine ft_goL mi_k76 4 7 [(4, .int 0), (0, .ref 49), (1, .ref 1), (2, .ref 110), (3, .int x3)] [.int 1, .ref (mi_RO + 1)] (by rfl) ?_ | refine ft_go mi_k76 4 7 [(4, .int 0), (0, .ref 49), (1, .ref 1), (2, .ref 110), (3, .int x3)] [.int 1, .ref (mi_RO + 1)] i a q r (by rfl) ?_
  refine ko_iaro2 mi_k76.1 (l := [0, 0, 0, 0, 1, 0, 0]) (n := 7) (c := 7) (ax := (0, 0, 0, 0, 0)) (mi_k76.2 _ _ (by rfl)) (by rfl) (by rfl) rfl rfl (oz246 kn1) (oz1181 kn1) ?_
  have r1 : ((0 : Int) ≤ (([0, 0, 0, 0, 1, 0, 0] : List Int32).getD (1 : Int32).toNatClampNeg 0).toInt) ∧ ((([0, 0, 0, 0, 1, 0, 0] : List Int32).getD (1 : Int32).toNatClampNeg 0).toInt ≤ 1) := kro_rng (lo := 0) (hi := 1) (by decide) ((1 : Int32).toNatClampNeg)
  first | refine fo_goL mi_k76 fz76_8_1_10 [(5, .int (([0, 0, 0, 0, 1, 0, 0] : List Int32).getD (1 : Int32).toNatClampNeg 0)), (4, .int 0), (0, .ref 49), (1, .ref 1), (2, .ref 110), (3, .int x3)] [] (by rfl) ?_ | refine fo_goS mi_k76 fz76_65_1_10 [] (by rfl) ?_ | refine ft_go mi_k76 1 10 [(5, .int (([0, 0, 0, 0, 1, 0, 0] : List Int32).getD (1 : Int32).toNatClampNeg 0)), (4, .int 0), (0, .ref 49), (1, .ref 1), (2, .ref 110), (3, .int x3)] [] i a q r (by rfl) ?_
  have lp2 : ∀ (nz : Nat) (i2 : Nat → Int32) (a2 : Nat → List Int32) (q2 : Nat → List Int64) (r2 : Nat → Nat) (l5_2 : Int32) (l4_2 : Int32), kG w76_49_1_110_L10 i a q r i2 a2 q2 r2 → (0 : Int) ≤ l5_2.toInt → ((1001 - l5_2.toInt)).toNat < nz → ko 11 (mi_h76, mi_c76) P (10, [(5, .int l5_2), (4, .int l4_2), (0, .ref 49), (1, .ref 1), (2, .ref 110), (3, .int x3)], [], (0, 0), ks i2 a2 q2 r2) := by
    intro nz
    induction nz with
    | zero =>
      intro _ _ _ _ _ _ _ _ hm
      exact absurd hm (Nat.not_lt_zero _)
    | succ nz ih2 =>
      intro i2 a2 q2 r2 l5_2 l4_2 hL2 p2_0 hm2
      first | refine ft_goL mi_k76 3 16 [(5, .int l5_2), (4, .int l4_2), (0, .ref 49), (1, .ref 1), (2, .ref 110), (3, .int x3)] [.int 1, .ref (mi_RO + 2), .int l5_2] (by rfl) ?_ | refine ft_go mi_k76 3 16 [(5, .int l5_2), (4, .int l4_2), (0, .ref 49), (1, .ref 1), (2, .ref 110), (3, .int x3)] [.int 1, .ref (mi_RO + 2), .int l5_2] i2 a2 q2 r2 (by rfl) ?_
      refine ko_iaro2 mi_k76.1 (l := [999, 9, 9, 1, 5, 1, 99]) (n := 7) (c := 7) (ax := (0, 0, 0, 0, 0)) (mi_k76.2 _ _ (by rfl)) (by rfl) (by rfl) rfl rfl (oz246 kn1) (oz1181 kn1) ?_
      have r3 : ((0 : Int) ≤ (([999, 9, 9, 1, 5, 1, 99] : List Int32).getD (1 : Int32).toNatClampNeg 0).toInt) ∧ ((([999, 9, 9, 1, 5, 1, 99] : List Int32).getD (1 : Int32).toNatClampNeg 0).toInt ≤ 999) := kro_rng (lo := 0) (hi := 999) (by decide) ((1 : Int32).toNatClampNeg)
      refine ft_ifS mi_k76 (decide ((([999, 9, 9, 1, 5, 1, 99] : List Int32).getD (1 : Int32).toNatClampNeg 0) < l5_2)) 68 20 [] (by rfl) (fun c => ?_) (fun c => ?_)
      ·
        have c4 : (([999, 9, 9, 1, 5, 1, 99] : List Int32).getD (1 : Int32).toNatClampNeg 0).toInt < l5_2.toInt := kd_lt c; clear c
        have hG5 := kG_call hG hL2 (by decide +kernel)
        first | refine fo_goS mi_k76 fz76_68_1_70 [.int l4_2] (by rfl) ?_ | refine ft_go mi_k76 1 70 [(5, .int l5_2), (4, .int l4_2), (0, .ref 49), (1, .ref 1), (2, .ref 110), (3, .int x3)] [.int l4_2] i2 a2 q2 r2 (by rfl) ?_
        exact ft_ret mi_k76 (by rfl) (hP l4_2 _ _ _ _ hG5 trivial)
      ·
        have c6 : l5_2.toInt ≤ (([999, 9, 9, 1, 5, 1, 99] : List Int32).getD (1 : Int32).toNatClampNeg 0).toInt := kd_ltF c; clear c
        first | refine fo_goS mi_k76 fz76_20_3_25 [.ref 1, .ref 50] (by rfl) ?_ | refine ft_go mi_k76 3 25 [(5, .int l5_2), (4, .int l4_2), (0, .ref 49), (1, .ref 1), (2, .ref 110), (3, .int x3)] [.ref 1, .ref 50] i2 a2 q2 r2 (by rfl) ?_
        refine ko_callN mi_k76.1 (pc := 25) (ls := [(5, .int l5_2), (4, .int l4_2), (0, .ref 49), (1, .ref 1), (2, .ref 110), (3, .int x3)]) (st := [.ref 1, .ref 50]) (h := ks i2 a2 q2 r2) (i := (.invokevirtual 56, 3, 34, 0, 9, 0, 212)) (mi_k76.2 _ _ (by rfl)) (ft_invS mi_pq34 (by rfl)) (cy := mi_c34) mi_pq34 rfl (kc34_50_1 hL2.I hL2.R ) (by decide) ?_
        intro ig7 ag7 qg7 rg7 kg7 hg7
        have hGg7 := kG_call hL2 kg7 (by decide +kernel)
        first | refine fo_goS mi_k76 fz76_28_5_36 [.int l5_2, .int 1, .int x3, .ref 50] (by rfl) ?_ | refine ft_go mi_k76 5 36 [(5, .int l5_2), (4, .int l4_2), (0, .ref 49), (1, .ref 1), (2, .ref 110), (3, .int x3)] [.int l5_2, .int 1, .int x3, .ref 50] ig7 ag7 qg7 rg7 (by rfl) ?_
        refine ko_callN mi_k76.1 (pc := 36) (ls := [(5, .int l5_2), (4, .int l4_2), (0, .ref 49), (1, .ref 1), (2, .ref 110), (3, .int x3)]) (st := [.int l5_2, .int 1, .int x3, .ref 50]) (h := ks ig7 ag7 qg7 rg7) (i := (.invokevirtual 136, 3, 28, 0, 9, 0, 270)) (mi_k76.2 _ _ (by rfl)) (ft_invS mi_pq28 (by rfl)) (cy := mi_c28) mi_pq28 rfl (kc28_50 hGg7.I hGg7.R x3 1 l5_2) (by decide) ?_
        intro ig8 ag8 qg8 rg8 kg8 hg8
        have hGg8 := kG_call hGg7 kg8 (by decide +kernel)
        first | refine fo_goS mi_k76 fz76_39_1_40 [.ref 49] (by rfl) ?_ | refine ft_go mi_k76 1 40 [(5, .int l5_2), (4, .int l4_2), (0, .ref 49), (1, .ref 1), (2, .ref 110), (3, .int x3)] [.ref 49] ig8 ag8 qg8 rg8 (by rfl) ?_
        refine ko_callN mi_k76.1 (pc := 40) (ls := [(5, .int l5_2), (4, .int l4_2), (0, .ref 49), (1, .ref 1), (2, .ref 110), (3, .int x3)]) (st := [.ref 49]) (h := ks ig8 ag8 qg8 rg8) (i := (.invokevirtual 60, 3, 60, 0, 9, 0, 219)) (mi_k76.2 _ _ (by rfl)) (ft_invS mi_pq60 (by rfl)) (cy := mi_c60) mi_pq60 rfl (kc60_49 hGg8.I hGg8.R ) (by decide) ?_
        intro ig9 ag9 qg9 rg9 kg9 hg9
        have hGg9 := kG_call hGg8 kg9 (by decide +kernel)
        first | refine fo_goS mi_k76 fz76_43_2_45 [.ref 110, .ref 49] (by rfl) ?_ | refine ft_go mi_k76 2 45 [(5, .int l5_2), (4, .int l4_2), (0, .ref 49), (1, .ref 1), (2, .ref 110), (3, .int x3)] [.ref 110, .ref 49] ig9 ag9 qg9 rg9 (by rfl) ?_
        refine ko_callPI mi_k76.1 (pc := 45) (ls := [(5, .int l5_2), (4, .int l4_2), (0, .ref 49), (1, .ref 1), (2, .ref 110), (3, .int x3)]) (st := [.ref 110, .ref 49]) (h := ks ig9 ag9 qg9 rg9) (i := (.invokevirtual 126, 3, 73, 0, 9, 0, 265)) (mi_k76.2 _ _ (by rfl)) (ft_invS mi_pq73 (by rfl)) (cy := mi_c73) mi_pq73 rfl (kc73_49_110 hGg9.I hGg9.R ) (by decide) ?_
        intro vg10 hg10
        first | refine fo_goS mi_k76 fz76_48_1_50 [.int (-2), .int vg10] (by rfl) ?_ | refine ft_go mi_k76 1 50 [(5, .int l5_2), (4, .int l4_2), (0, .ref 49), (1, .ref 1), (2, .ref 110), (3, .int x3)] [.int (-2), .int vg10] ig9 ag9 qg9 rg9 (by rfl) ?_
        refine ft_ifS mi_k76 (vg10 != (-2)) 62 53 [] (by rfl) (fun c => ?_) (fun c => ?_)
        ·
          have c11 : vg10.toInt ≠ ((-2) : Int32).toInt := kd_ne c; clear c
          have s12 : (l5_2 + 1).toInt = l5_2.toInt + (1 : Int32).toInt := kd_add (oz12 p2_0 kn1) (oz1182 c6 r3.2 kn1)
          first | refine fo_goL mi_k76 fz76_62_2_10 [(5, .int (l5_2 + 1)), (4, .int l4_2), (0, .ref 49), (1, .ref 1), (2, .ref 110), (3, .int x3)] [] (by rfl) ?_ | refine ft_goL mi_k76 2 10 [(5, .int (l5_2 + 1)), (4, .int l4_2), (0, .ref 49), (1, .ref 1), (2, .ref 110), (3, .int x3)] [] (by rfl) ?_ | refine ft_go mi_k76 2 10 [(5, .int (l5_2 + 1)), (4, .int l4_2), (0, .ref 49), (1, .ref 1), (2, .ref 110), (3, .int x3)] [] ig9 ag9 qg9 rg9 (by rfl) ?_
          exact ih2 _ _ _ _ _ _ hGg9 (oz14 p2_0 s12 kn1) (kj_meas (oz1183 s12 kn1) (oz1184 c6 r3.2) hm2)
        ·
          have c13 : vg10.toInt = ((-2) : Int32).toInt := kd_neF c; clear c
          have s14 : (l5_2 + 1).toInt = l5_2.toInt + (1 : Int32).toInt := kd_add (oz12 p2_0 kn1) (oz1182 c6 r3.2 kn1)
          first | refine ft_goL mi_k76 8 10 [(5, .int (l5_2 + 1)), (4, .int (l4_2 ||| (1 <<< (l5_2 &&& 31)))), (0, .ref 49), (1, .ref 1), (2, .ref 110), (3, .int x3)] [] (by rfl) ?_ | refine ft_go mi_k76 8 10 [(5, .int (l5_2 + 1)), (4, .int (l4_2 ||| (1 <<< (l5_2 &&& 31)))), (0, .ref 49), (1, .ref 1), (2, .ref 110), (3, .int x3)] [] ig9 ag9 qg9 rg9 (by rfl) ?_
          exact ih2 _ _ _ _ _ _ hGg9 (oz14 p2_0 s14 kn1) (kj_meas (oz1183 s14 kn1) (oz1184 c6 r3.2) hm2)
  exact lp2 _ _ _ _ _ _ _ (kG_self _ hG.I hG.R) (oz3 r1.1) (Nat.lt_succ_self _)
def w76_49_1_112 : kW := ([645, 3200, 3206, 3207, 3208, 3209, 3214, 3215, 3216, 3586, 3781, 6405], [13, 51, 52, 53, 54, 55, 57, 58, 62, 63, 65, 66, 67, 68, 69, 70, 71, 72, 73, 75, 76, 77, 103], [], [1])
def w76_49_1_112_L10 : kW := ([645, 3200, 3206, 3207, 3208, 3209, 3214, 3215, 3216, 3586, 3781, 6405], [13, 51, 52, 53, 54, 55, 57, 58, 62, 63, 65, 66, 67, 68, 69, 70, 71, 72, 73, 75, 76, 77, 103], [], [1])
set_option maxRecDepth 100000 in
theorem kc76_49_1_112 {i : Nat → Int32} {a : Nat → List Int32} {q : Nat → List Int64} {r : Nat → Nat} (hI : kI i a q) (hr : kr r) (x3 : Int32) : km 11 76 [.ref 49, .ref 1, .ref 112, .int x3] (ks i a q r) (kVI w76_49_1_112 i a q r (fun v i1 a1 q1 r1 => True)) := by
  have hG := kG_self w76_49_1_112 hI hr
  refine km_ofI (q := (mi_h76, mi_c76)) rfl (by decide) (Nat.le_of_ble_eq_true rfl) ?_
  intro P hP
  first | refine ft_goL mi_k76 4 7 [(4, .int 0), (0, .ref 49), (1, .ref 1), (2, .ref 112), (3, .int x3)] [.int 1, .ref (mi_RO + 1)] (by rfl) ?_ | refine ft_go mi_k76 4 7 [(4, .int 0), (0, .ref 49), (1, .ref 1), (2, .ref 112), (3, .int x3)] [.int 1, .ref (mi_RO + 1)] i a q r (by rfl) ?_
  refine ko_iaro2 mi_k76.1 (l := [0, 0, 0, 0, 1, 0, 0]) (n := 7) (c := 7) (ax := (0, 0, 0, 0, 0)) (mi_k76.2 _ _ (by rfl)) (by rfl) (by rfl) rfl rfl (oz246 kn1) (oz1181 kn1) ?_
  have r1 : ((0 : Int) ≤ (([0, 0, 0, 0, 1, 0, 0] : List Int32).getD (1 : Int32).toNatClampNeg 0).toInt) ∧ ((([0, 0, 0, 0, 1, 0, 0] : List Int32).getD (1 : Int32).toNatClampNeg 0).toInt ≤ 1) := kro_rng (lo := 0) (hi := 1) (by decide) ((1 : Int32).toNatClampNeg)
  first | refine fo_goL mi_k76 fz76_8_1_10 [(5, .int (([0, 0, 0, 0, 1, 0, 0] : List Int32).getD (1 : Int32).toNatClampNeg 0)), (4, .int 0), (0, .ref 49), (1, .ref 1), (2, .ref 112), (3, .int x3)] [] (by rfl) ?_ | refine fo_goS mi_k76 fz76_65_1_10 [] (by rfl) ?_ | refine ft_go mi_k76 1 10 [(5, .int (([0, 0, 0, 0, 1, 0, 0] : List Int32).getD (1 : Int32).toNatClampNeg 0)), (4, .int 0), (0, .ref 49), (1, .ref 1), (2, .ref 112), (3, .int x3)] [] i a q r (by rfl) ?_
  have lp2 : ∀ (nz : Nat) (i2 : Nat → Int32) (a2 : Nat → List Int32) (q2 : Nat → List Int64) (r2 : Nat → Nat) (l5_2 : Int32) (l4_2 : Int32), kG w76_49_1_112_L10 i a q r i2 a2 q2 r2 → (0 : Int) ≤ l5_2.toInt → ((1001 - l5_2.toInt)).toNat < nz → ko 11 (mi_h76, mi_c76) P (10, [(5, .int l5_2), (4, .int l4_2), (0, .ref 49), (1, .ref 1), (2, .ref 112), (3, .int x3)], [], (0, 0), ks i2 a2 q2 r2) := by
    intro nz
    induction nz with
    | zero =>
      intro _ _ _ _ _ _ _ _ hm
      exact absurd hm (Nat.not_lt_zero _)
    | succ nz ih2 =>
      intro i2 a2 q2 r2 l5_2 l4_2 hL2 p2_0 hm2
      first | refine ft_goL mi_k76 3 16 [(5, .int l5_2), (4, .int l4_2), (0, .ref 49), (1, .ref 1), (2, .ref 112), (3, .int x3)] [.int 1, .ref (mi_RO + 2), .int l5_2] (by rfl) ?_ | refine ft_go mi_k76 3 16 [(5, .int l5_2), (4, .int l4_2), (0, .ref 49), (1, .ref 1), (2, .ref 112), (3, .int x3)] [.int 1, .ref (mi_RO + 2), .int l5_2] i2 a2 q2 r2 (by rfl) ?_
      refine ko_iaro2 mi_k76.1 (l := [999, 9, 9, 1, 5, 1, 99]) (n := 7) (c := 7) (ax := (0, 0, 0, 0, 0)) (mi_k76.2 _ _ (by rfl)) (by rfl) (by rfl) rfl rfl (oz246 kn1) (oz1181 kn1) ?_
      have r3 : ((0 : Int) ≤ (([999, 9, 9, 1, 5, 1, 99] : List Int32).getD (1 : Int32).toNatClampNeg 0).toInt) ∧ ((([999, 9, 9, 1, 5, 1, 99] : List Int32).getD (1 : Int32).toNatClampNeg 0).toInt ≤ 999) := kro_rng (lo := 0) (hi := 999) (by decide) ((1 : Int32).toNatClampNeg)
      refine ft_ifS mi_k76 (decide ((([999, 9, 9, 1, 5, 1, 99] : List Int32).getD (1 : Int32).toNatClampNeg 0) < l5_2)) 68 20 [] (by rfl) (fun c => ?_) (fun c => ?_)
      ·
        have c4 : (([999, 9, 9, 1, 5, 1, 99] : List Int32).getD (1 : Int32).toNatClampNeg 0).toInt < l5_2.toInt := kd_lt c; clear c
        have hG5 := kG_call hG hL2 (by decide +kernel)
        first | refine fo_goS mi_k76 fz76_68_1_70 [.int l4_2] (by rfl) ?_ | refine ft_go mi_k76 1 70 [(5, .int l5_2), (4, .int l4_2), (0, .ref 49), (1, .ref 1), (2, .ref 112), (3, .int x3)] [.int l4_2] i2 a2 q2 r2 (by rfl) ?_
        exact ft_ret mi_k76 (by rfl) (hP l4_2 _ _ _ _ hG5 trivial)
      ·
        have c6 : l5_2.toInt ≤ (([999, 9, 9, 1, 5, 1, 99] : List Int32).getD (1 : Int32).toNatClampNeg 0).toInt := kd_ltF c; clear c
        first | refine fo_goS mi_k76 fz76_20_3_25 [.ref 1, .ref 50] (by rfl) ?_ | refine ft_go mi_k76 3 25 [(5, .int l5_2), (4, .int l4_2), (0, .ref 49), (1, .ref 1), (2, .ref 112), (3, .int x3)] [.ref 1, .ref 50] i2 a2 q2 r2 (by rfl) ?_
        refine ko_callN mi_k76.1 (pc := 25) (ls := [(5, .int l5_2), (4, .int l4_2), (0, .ref 49), (1, .ref 1), (2, .ref 112), (3, .int x3)]) (st := [.ref 1, .ref 50]) (h := ks i2 a2 q2 r2) (i := (.invokevirtual 56, 3, 34, 0, 9, 0, 212)) (mi_k76.2 _ _ (by rfl)) (ft_invS mi_pq34 (by rfl)) (cy := mi_c34) mi_pq34 rfl (kc34_50_1 hL2.I hL2.R ) (by decide) ?_
        intro ig7 ag7 qg7 rg7 kg7 hg7
        have hGg7 := kG_call hL2 kg7 (by decide +kernel)
        first | refine fo_goS mi_k76 fz76_28_5_36 [.int l5_2, .int 1, .int x3, .ref 50] (by rfl) ?_ | refine ft_go mi_k76 5 36 [(5, .int l5_2), (4, .int l4_2), (0, .ref 49), (1, .ref 1), (2, .ref 112), (3, .int x3)] [.int l5_2, .int 1, .int x3, .ref 50] ig7 ag7 qg7 rg7 (by rfl) ?_
        refine ko_callN mi_k76.1 (pc := 36) (ls := [(5, .int l5_2), (4, .int l4_2), (0, .ref 49), (1, .ref 1), (2, .ref 112), (3, .int x3)]) (st := [.int l5_2, .int 1, .int x3, .ref 50]) (h := ks ig7 ag7 qg7 rg7) (i := (.invokevirtual 136, 3, 28, 0, 9, 0, 270)) (mi_k76.2 _ _ (by rfl)) (ft_invS mi_pq28 (by rfl)) (cy := mi_c28) mi_pq28 rfl (kc28_50 hGg7.I hGg7.R x3 1 l5_2) (by decide) ?_
        intro ig8 ag8 qg8 rg8 kg8 hg8
        have hGg8 := kG_call hGg7 kg8 (by decide +kernel)
        first | refine fo_goS mi_k76 fz76_39_1_40 [.ref 49] (by rfl) ?_ | refine ft_go mi_k76 1 40 [(5, .int l5_2), (4, .int l4_2), (0, .ref 49), (1, .ref 1), (2, .ref 112), (3, .int x3)] [.ref 49] ig8 ag8 qg8 rg8 (by rfl) ?_
        refine ko_callN mi_k76.1 (pc := 40) (ls := [(5, .int l5_2), (4, .int l4_2), (0, .ref 49), (1, .ref 1), (2, .ref 112), (3, .int x3)]) (st := [.ref 49]) (h := ks ig8 ag8 qg8 rg8) (i := (.invokevirtual 60, 3, 60, 0, 9, 0, 219)) (mi_k76.2 _ _ (by rfl)) (ft_invS mi_pq60 (by rfl)) (cy := mi_c60) mi_pq60 rfl (kc60_49 hGg8.I hGg8.R ) (by decide) ?_
        intro ig9 ag9 qg9 rg9 kg9 hg9
        have hGg9 := kG_call hGg8 kg9 (by decide +kernel)
        first | refine fo_goS mi_k76 fz76_43_2_45 [.ref 112, .ref 49] (by rfl) ?_ | refine ft_go mi_k76 2 45 [(5, .int l5_2), (4, .int l4_2), (0, .ref 49), (1, .ref 1), (2, .ref 112), (3, .int x3)] [.ref 112, .ref 49] ig9 ag9 qg9 rg9 (by rfl) ?_
        refine ko_callPI mi_k76.1 (pc := 45) (ls := [(5, .int l5_2), (4, .int l4_2), (0, .ref 49), (1, .ref 1), (2, .ref 112), (3, .int x3)]) (st := [.ref 112, .ref 49]) (h := ks ig9 ag9 qg9 rg9) (i := (.invokevirtual 126, 3, 73, 0, 9, 0, 265)) (mi_k76.2 _ _ (by rfl)) (ft_invS mi_pq73 (by rfl)) (cy := mi_c73) mi_pq73 rfl (kc73_49_112 hGg9.I hGg9.R ) (by decide) ?_
        intro vg10 hg10
        first | refine fo_goS mi_k76 fz76_48_1_50 [.int (-2), .int vg10] (by rfl) ?_ | refine ft_go mi_k76 1 50 [(5, .int l5_2), (4, .int l4_2), (0, .ref 49), (1, .ref 1), (2, .ref 112), (3, .int x3)] [.int (-2), .int vg10] ig9 ag9 qg9 rg9 (by rfl) ?_
        refine ft_ifS mi_k76 (vg10 != (-2)) 62 53 [] (by rfl) (fun c => ?_) (fun c => ?_)
        ·
          have c11 : vg10.toInt ≠ ((-2) : Int32).toInt := kd_ne c; clear c
          have s12 : (l5_2 + 1).toInt = l5_2.toInt + (1 : Int32).toInt := kd_add (oz12 p2_0 kn1) (oz1182 c6 r3.2 kn1)
          first | refine fo_goL mi_k76 fz76_62_2_10 [(5, .int (l5_2 + 1)), (4, .int l4_2), (0, .ref 49), (1, .ref 1), (2, .ref 112), (3, .int x3)] [] (by rfl) ?_ | refine ft_goL mi_k76 2 10 [(5, .int (l5_2 + 1)), (4, .int l4_2), (0, .ref 49), (1, .ref 1), (2, .ref 112), (3, .int x3)] [] (by rfl) ?_ | refine ft_go mi_k76 2 10 [(5, .int (l5_2 + 1)), (4, .int l4_2), (0, .ref 49), (1, .ref 1), (2, .ref 112), (3, .int x3)] [] ig9 ag9 qg9 rg9 (by rfl) ?_
          exact ih2 _ _ _ _ _ _ hGg9 (oz14 p2_0 s12 kn1) (kj_meas (oz1183 s12 kn1) (oz1184 c6 r3.2) hm2)
        ·
          have c13 : vg10.toInt = ((-2) : Int32).toInt := kd_neF c; clear c
          have s14 : (l5_2 + 1).toInt = l5_2.toInt + (1 : Int32).toInt := kd_add (oz12 p2_0 kn1) (oz1182 c6 r3.2 kn1)
          first | refine ft_goL mi_k76 8 10 [(5, .int (l5_2 + 1)), (4, .int (l4_2 ||| (1 <<< (l5_2 &&& 31)))), (0, .ref 49), (1, .ref 1), (2, .ref 112), (3, .int x3)] [] (by rfl) ?_ | refine ft_go mi_k76 8 10 [(5, .int (l5_2 + 1)), (4, .int (l4_2 ||| (1 <<< (l5_2 &&& 31)))), (0, .ref 49), (1, .ref 1), (2, .ref 112), (3, .int x3)] [] ig9 ag9 qg9 rg9 (by rfl) ?_
          exact ih2 _ _ _ _ _ _ hGg9 (oz14 p2_0 s14 kn1) (kj_meas (oz1183 s14 kn1) (oz1184 c6 r3.2) hm2)
  exact lp2 _ _ _ _ _ _ _ (kG_self _ hG.I hG.R) (oz3 r1.1) (Nat.lt_succ_self _)
def w76_49_1_114 : kW := ([645, 3200, 3206, 3207, 3208, 3209, 3214, 3215, 3216, 3586, 3781, 6405], [13, 51, 52, 53, 54, 55, 57, 58, 62, 63, 65, 66, 67, 68, 69, 70, 71, 72, 73, 75, 76, 77, 103], [], [1])
def w76_49_1_114_L10 : kW := ([645, 3200, 3206, 3207, 3208, 3209, 3214, 3215, 3216, 3586, 3781, 6405], [13, 51, 52, 53, 54, 55, 57, 58, 62, 63, 65, 66, 67, 68, 69, 70, 71, 72, 73, 75, 76, 77, 103], [], [1])
set_option maxRecDepth 100000 in
theorem kc76_49_1_114 {i : Nat → Int32} {a : Nat → List Int32} {q : Nat → List Int64} {r : Nat → Nat} (hI : kI i a q) (hr : kr r) (x3 : Int32) : km 11 76 [.ref 49, .ref 1, .ref 114, .int x3] (ks i a q r) (kVI w76_49_1_114 i a q r (fun v i1 a1 q1 r1 => True)) := by
  have hG := kG_self w76_49_1_114 hI hr
  refine km_ofI (q := (mi_h76, mi_c76)) rfl (by decide) (Nat.le_of_ble_eq_true rfl) ?_
  intro P hP
  first | refine ft_goL mi_k76 4 7 [(4, .int 0), (0, .ref 49), (1, .ref 1), (2, .ref 114), (3, .int x3)] [.int 1, .ref (mi_RO + 1)] (by rfl) ?_ | refine ft_go mi_k76 4 7 [(4, .int 0), (0, .ref 49), (1, .ref 1), (2, .ref 114), (3, .int x3)] [.int 1, .ref (mi_RO + 1)] i a q r (by rfl) ?_
  refine ko_iaro2 mi_k76.1 (l := [0, 0, 0, 0, 1, 0, 0]) (n := 7) (c := 7) (ax := (0, 0, 0, 0, 0)) (mi_k76.2 _ _ (by rfl)) (by rfl) (by rfl) rfl rfl (oz246 kn1) (oz1181 kn1) ?_
  have r1 : ((0 : Int) ≤ (([0, 0, 0, 0, 1, 0, 0] : List Int32).getD (1 : Int32).toNatClampNeg 0).toInt) ∧ ((([0, 0, 0, 0, 1, 0, 0] : List Int32).getD (1 : Int32).toNatClampNeg 0).toInt ≤ 1) := kro_rng (lo := 0) (hi := 1) (by decide) ((1 : Int32).toNatClampNeg)
  first | refine fo_goL mi_k76 fz76_8_1_10 [(5, .int (([0, 0, 0, 0, 1, 0, 0] : List Int32).getD (1 : Int32).toNatClampNeg 0)), (4, .int 0), (0, .ref 49), (1, .ref 1), (2, .ref 114), (3, .int x3)] [] (by rfl) ?_ | refine fo_goS mi_k76 fz76_65_1_10 [] (by rfl) ?_ | refine ft_go mi_k76 1 10 [(5, .int (([0, 0, 0, 0, 1, 0, 0] : List Int32).getD (1 : Int32).toNatClampNeg 0)), (4, .int 0), (0, .ref 49), (1, .ref 1), (2, .ref 114), (3, .int x3)] [] i a q r (by rfl) ?_
  have lp2 : ∀ (nz : Nat) (i2 : Nat → Int32) (a2 : Nat → List Int32) (q2 : Nat → List Int64) (r2 : Nat → Nat) (l5_2 : Int32) (l4_2 : Int32), kG w76_49_1_114_L10 i a q r i2 a2 q2 r2 → (0 : Int) ≤ l5_2.toInt → ((1001 - l5_2.toInt)).toNat < nz → ko 11 (mi_h76, mi_c76) P (10, [(5, .int l5_2), (4, .int l4_2), (0, .ref 49), (1, .ref 1), (2, .ref 114), (3, .int x3)], [], (0, 0), ks i2 a2 q2 r2) := by
    intro nz
    induction nz with
    | zero =>
      intro _ _ _ _ _ _ _ _ hm
      exact absurd hm (Nat.not_lt_zero _)
    | succ nz ih2 =>
      intro i2 a2 q2 r2 l5_2 l4_2 hL2 p2_0 hm2
      first | refine ft_goL mi_k76 3 16 [(5, .int l5_2), (4, .int l4_2), (0, .ref 49), (1, .ref 1), (2, .ref 114), (3, .int x3)] [.int 1, .ref (mi_RO + 2), .int l5_2] (by rfl) ?_ | refine ft_go mi_k76 3 16 [(5, .int l5_2), (4, .int l4_2), (0, .ref 49), (1, .ref 1), (2, .ref 114), (3, .int x3)] [.int 1, .ref (mi_RO + 2), .int l5_2] i2 a2 q2 r2 (by rfl) ?_
      refine ko_iaro2 mi_k76.1 (l := [999, 9, 9, 1, 5, 1, 99]) (n := 7) (c := 7) (ax := (0, 0, 0, 0, 0)) (mi_k76.2 _ _ (by rfl)) (by rfl) (by rfl) rfl rfl (oz246 kn1) (oz1181 kn1) ?_
      have r3 : ((0 : Int) ≤ (([999, 9, 9, 1, 5, 1, 99] : List Int32).getD (1 : Int32).toNatClampNeg 0).toInt) ∧ ((([999, 9, 9, 1, 5, 1, 99] : List Int32).getD (1 : Int32).toNatClampNeg 0).toInt ≤ 999) := kro_rng (lo := 0) (hi := 999) (by decide) ((1 : Int32).toNatClampNeg)
      refine ft_ifS mi_k76 (decide ((([999, 9, 9, 1, 5, 1, 99] : List Int32).getD (1 : Int32).toNatClampNeg 0) < l5_2)) 68 20 [] (by rfl) (fun c => ?_) (fun c => ?_)
      ·
        have c4 : (([999, 9, 9, 1, 5, 1, 99] : List Int32).getD (1 : Int32).toNatClampNeg 0).toInt < l5_2.toInt := kd_lt c; clear c
        have hG5 := kG_call hG hL2 (by decide +kernel)
        first | refine fo_goS mi_k76 fz76_68_1_70 [.int l4_2] (by rfl) ?_ | refine ft_go mi_k76 1 70 [(5, .int l5_2), (4, .int l4_2), (0, .ref 49), (1, .ref 1), (2, .ref 114), (3, .int x3)] [.int l4_2] i2 a2 q2 r2 (by rfl) ?_
        exact ft_ret mi_k76 (by rfl) (hP l4_2 _ _ _ _ hG5 trivial)
      ·
        have c6 : l5_2.toInt ≤ (([999, 9, 9, 1, 5, 1, 99] : List Int32).getD (1 : Int32).toNatClampNeg 0).toInt := kd_ltF c; clear c
        first | refine fo_goS mi_k76 fz76_20_3_25 [.ref 1, .ref 50] (by rfl) ?_ | refine ft_go mi_k76 3 25 [(5, .int l5_2), (4, .int l4_2), (0, .ref 49), (1, .ref 1), (2, .ref 114), (3, .int x3)] [.ref 1, .ref 50] i2 a2 q2 r2 (by rfl) ?_
        refine ko_callN mi_k76.1 (pc := 25) (ls := [(5, .int l5_2), (4, .int l4_2), (0, .ref 49), (1, .ref 1), (2, .ref 114), (3, .int x3)]) (st := [.ref 1, .ref 50]) (h := ks i2 a2 q2 r2) (i := (.invokevirtual 56, 3, 34, 0, 9, 0, 212)) (mi_k76.2 _ _ (by rfl)) (ft_invS mi_pq34 (by rfl)) (cy := mi_c34) mi_pq34 rfl (kc34_50_1 hL2.I hL2.R ) (by decide) ?_
        intro ig7 ag7 qg7 rg7 kg7 hg7
        have hGg7 := kG_call hL2 kg7 (by decide +kernel)
        first | refine fo_goS mi_k76 fz76_28_5_36 [.int l5_2, .int 1, .int x3, .ref 50] (by rfl) ?_ | refine ft_go mi_k76 5 36 [(5, .int l5_2), (4, .int l4_2), (0, .ref 49), (1, .ref 1), (2, .ref 114), (3, .int x3)] [.int l5_2, .int 1, .int x3, .ref 50] ig7 ag7 qg7 rg7 (by rfl) ?_
        refine ko_callN mi_k76.1 (pc := 36) (ls := [(5, .int l5_2), (4, .int l4_2), (0, .ref 49), (1, .ref 1), (2, .ref 114), (3, .int x3)]) (st := [.int l5_2, .int 1, .int x3, .ref 50]) (h := ks ig7 ag7 qg7 rg7) (i := (.invokevirtual 136, 3, 28, 0, 9, 0, 270)) (mi_k76.2 _ _ (by rfl)) (ft_invS mi_pq28 (by rfl)) (cy := mi_c28) mi_pq28 rfl (kc28_50 hGg7.I hGg7.R x3 1 l5_2) (by decide) ?_
        intro ig8 ag8 qg8 rg8 kg8 hg8
        have hGg8 := kG_call hGg7 kg8 (by decide +kernel)
        first | refine fo_goS mi_k76 fz76_39_1_40 [.ref 49] (by rfl) ?_ | refine ft_go mi_k76 1 40 [(5, .int l5_2), (4, .int l4_2), (0, .ref 49), (1, .ref 1), (2, .ref 114), (3, .int x3)] [.ref 49] ig8 ag8 qg8 rg8 (by rfl) ?_
        refine ko_callN mi_k76.1 (pc := 40) (ls := [(5, .int l5_2), (4, .int l4_2), (0, .ref 49), (1, .ref 1), (2, .ref 114), (3, .int x3)]) (st := [.ref 49]) (h := ks ig8 ag8 qg8 rg8) (i := (.invokevirtual 60, 3, 60, 0, 9, 0, 219)) (mi_k76.2 _ _ (by rfl)) (ft_invS mi_pq60 (by rfl)) (cy := mi_c60) mi_pq60 rfl (kc60_49 hGg8.I hGg8.R ) (by decide) ?_
        intro ig9 ag9 qg9 rg9 kg9 hg9
        have hGg9 := kG_call hGg8 kg9 (by decide +kernel)
        first | refine fo_goS mi_k76 fz76_43_2_45 [.ref 114, .ref 49] (by rfl) ?_ | refine ft_go mi_k76 2 45 [(5, .int l5_2), (4, .int l4_2), (0, .ref 49), (1, .ref 1), (2, .ref 114), (3, .int x3)] [.ref 114, .ref 49] ig9 ag9 qg9 rg9 (by rfl) ?_
        refine ko_callPI mi_k76.1 (pc := 45) (ls := [(5, .int l5_2), (4, .int l4_2), (0, .ref 49), (1, .ref 1), (2, .ref 114), (3, .int x3)]) (st := [.ref 114, .ref 49]) (h := ks ig9 ag9 qg9 rg9) (i := (.invokevirtual 126, 3, 73, 0, 9, 0, 265)) (mi_k76.2 _ _ (by rfl)) (ft_invS mi_pq73 (by rfl)) (cy := mi_c73) mi_pq73 rfl (kc73_49_114 hGg9.I hGg9.R ) (by decide) ?_
        intro vg10 hg10
        first | refine fo_goS mi_k76 fz76_48_1_50 [.int (-2), .int vg10] (by rfl) ?_ | refine ft_go mi_k76 1 50 [(5, .int l5_2), (4, .int l4_2), (0, .ref 49), (1, .ref 1), (2, .ref 114), (3, .int x3)] [.int (-2), .int vg10] ig9 ag9 qg9 rg9 (by rfl) ?_
        refine ft_ifS mi_k76 (vg10 != (-2)) 62 53 [] (by rfl) (fun c => ?_) (fun c => ?_)
        ·
          have c11 : vg10.toInt ≠ ((-2) : Int32).toInt := kd_ne c; clear c
          have s12 : (l5_2 + 1).toInt = l5_2.toInt + (1 : Int32).toInt := kd_add (oz12 p2_0 kn1) (oz1182 c6 r3.2 kn1)
          first | refine fo_goL mi_k76 fz76_62_2_10 [(5, .int (l5_2 + 1)), (4, .int l4_2), (0, .ref 49), (1, .ref 1), (2, .ref 114), (3, .int x3)] [] (by rfl) ?_ | refine ft_goL mi_k76 2 10 [(5, .int (l5_2 + 1)), (4, .int l4_2), (0, .ref 49), (1, .ref 1), (2, .ref 114), (3, .int x3)] [] (by rfl) ?_ | refine ft_go mi_k76 2 10 [(5, .int (l5_2 + 1)), (4, .int l4_2), (0, .ref 49), (1, .ref 1), (2, .ref 114), (3, .int x3)] [] ig9 ag9 qg9 rg9 (by rfl) ?_
          exact ih2 _ _ _ _ _ _ hGg9 (oz14 p2_0 s12 kn1) (kj_meas (oz1183 s12 kn1) (oz1184 c6 r3.2) hm2)
        ·
          have c13 : vg10.toInt = ((-2) : Int32).toInt := kd_neF c; clear c
          have s14 : (l5_2 + 1).toInt = l5_2.toInt + (1 : Int32).toInt := kd_add (oz12 p2_0 kn1) (oz1182 c6 r3.2 kn1)
          first | refine ft_goL mi_k76 8 10 [(5, .int (l5_2 + 1)), (4, .int (l4_2 ||| (1 <<< (l5_2 &&& 31)))), (0, .ref 49), (1, .ref 1), (2, .ref 114), (3, .int x3)] [] (by rfl) ?_ | refine ft_go mi_k76 8 10 [(5, .int (l5_2 + 1)), (4, .int (l4_2 ||| (1 <<< (l5_2 &&& 31)))), (0, .ref 49), (1, .ref 1), (2, .ref 114), (3, .int x3)] [] ig9 ag9 qg9 rg9 (by rfl) ?_
          exact ih2 _ _ _ _ _ _ hGg9 (oz14 p2_0 s14 kn1) (kj_meas (oz1183 s14 kn1) (oz1184 c6 r3.2) hm2)
  exact lp2 _ _ _ _ _ _ _ (kG_self _ hG.I hG.R) (oz3 r1.1) (Nat.lt_succ_self _)
def w74_49_1_104 : kW := ([645, 3200, 3206, 3207, 3208, 3209, 3214, 3215, 3216, 3586, 3781, 6405], [13, 51, 52, 53, 54, 55, 57, 58, 62, 63, 65, 66, 67, 68, 69, 70, 71, 72, 73, 75, 76, 77, 103], [], [1])
def w74_49_1_104_L5 : kW := ([645, 3200, 3206, 3207, 3208, 3209, 3214, 3215, 3216, 3586, 3781, 6405], [13, 51, 52, 53, 54, 55, 57, 58, 62, 63, 65, 66, 67, 68, 69, 70, 71, 72, 73, 75, 76, 77, 103], [], [1])
set_option maxRecDepth 100000 in
theorem kc74_49_1_104 {i : Nat → Int32} {a : Nat → List Int32} {q : Nat → List Int64} {r : Nat → Nat} (hI : kI i a q) (hr : kr r)  : km 11 74 [.ref 49, .ref 1, .ref 104] (ks i a q r) (kVI w74_49_1_104 i a q r (fun v i1 a1 q1 r1 => True)) := by
  have hG := kG_self w74_49_1_104 hI hr
  refine km_ofI (q := (mi_h74, mi_c74)) rfl (by decide) (Nat.le_of_ble_eq_true rfl) ?_
  intro P hP
  first | refine fo_goL mi_k74 fz74_0_4_5 [(4, .int 1), (3, .int 0), (0, .ref 49), (1, .ref 1), (2, .ref 104)] [] (by rfl) ?_ | refine ft_goL mi_k74 4 5 [(4, .int 1), (3, .int 0), (0, .ref 49), (1, .ref 1), (2, .ref 104)] [] (by rfl) ?_ | refine ft_go mi_k74 4 5 [(4, .int 1), (3, .int 0), (0, .ref 49), (1, .ref 1), (2, .ref 104)] [] i a q r (by rfl) ?_
  have lp1 : ∀ (nz : Nat) (i1 : Nat → Int32) (a1 : Nat → List Int32) (q1 : Nat → List Int64) (r1 : Nat → Nat) (l4_1 : Int32) (l3_1 : Int32), kG w74_49_1_104_L5 i a q r i1 a1 q1 r1 → (1 : Int) ≤ l4_1.toInt → ((6 - l4_1.toInt)).toNat < nz → ko 11 (mi_h74, mi_c74) P (5, [(4, .int l4_1), (3, .int l3_1), (0, .ref 49), (1, .ref 1), (2, .ref 104)], [], (0, 0), ks i1 a1 q1 r1) := by
    intro nz
    induction nz with
    | zero =>
      intro _ _ _ _ _ _ _ _ hm
      exact absurd hm (Nat.not_lt_zero _)
    | succ nz ih1 =>
      intro i1 a1 q1 r1 l4_1 l3_1 hL1 p1_0 hm1
      first | refine fo_goL mi_k74 fz74_5_2_8 [(4, .int l4_1), (3, .int l3_1), (0, .ref 49), (1, .ref 1), (2, .ref 104)] [.int 5, .int l4_1] (by rfl) ?_ | refine ft_go mi_k74 2 8 [(4, .int l4_1), (3, .int l3_1), (0, .ref 49), (1, .ref 1), (2, .ref 104)] [.int 5, .int l4_1] i1 a1 q1 r1 (by rfl) ?_
      refine ft_ifS mi_k74 (decide (5 < l4_1)) 55 11 [] (by rfl) (fun c => ?_) (fun c => ?_)
      ·
        have c2 : (5 : Int32).toInt < l4_1.toInt := kd_lt c; clear c
        have hG3 := kG_call hG hL1 (by decide +kernel)
        first | refine fo_goS mi_k74 fz74_55_1_56 [.int l3_1] (by rfl) ?_ | refine ft_go mi_k74 1 56 [(4, .int l4_1), (3, .int l3_1), (0, .ref 49), (1, .ref 1), (2, .ref 104)] [.int l3_1] i1 a1 q1 r1 (by rfl) ?_
        exact ft_ret mi_k74 (by rfl) (hP l3_1 _ _ _ _ hG3 trivial)
      ·
        have c4 : l4_1.toInt ≤ (5 : Int32).toInt := kd_ltF c; clear c
        first | refine fo_goS mi_k74 fz74_11_3_16 [.ref 1, .ref 50] (by rfl) ?_ | refine ft_go mi_k74 3 16 [(4, .int l4_1), (3, .int l3_1), (0, .ref 49), (1, .ref 1), (2, .ref 104)] [.ref 1, .ref 50] i1 a1 q1 r1 (by rfl) ?_
        refine ko_callN mi_k74.1 (pc := 16) (ls := [(4, .int l4_1), (3, .int l3_1), (0, .ref 49), (1, .ref 1), (2, .ref 104)]) (st := [.ref 1, .ref 50]) (h := ks i1 a1 q1 r1) (i := (.invokevirtual 56, 3, 34, 0, 9, 0, 212)) (mi_k74.2 _ _ (by rfl)) (ft_invS mi_pq34 (by rfl)) (cy := mi_c34) mi_pq34 rfl (kc34_50_1 hL1.I hL1.R ) (by decide) ?_
        intro ig5 ag5 qg5 rg5 kg5 hg5
        have hGg5 := kG_call hL1 kg5 (by decide +kernel)
        have hJ6 := kG_i hGg5 3206 rfl (v := l4_1) (kd_bd _)
        first | refine fo_goI mi_k74 fz74_19_5_29 [.ref 49] (ku ig5 3206 l4_1) (by rfl) ?_ | refine ft_go mi_k74 5 29 [(4, .int l4_1), (3, .int l3_1), (0, .ref 49), (1, .ref 1), (2, .ref 104)] [.ref 49] (ku ig5 3206 l4_1) ag5 qg5 rg5 (by rfl) ?_
        refine ko_callN mi_k74.1 (pc := 29) (ls := [(4, .int l4_1), (3, .int l3_1), (0, .ref 49), (1, .ref 1), (2, .ref 104)]) (st := [.ref 49]) (h := ks (ku ig5 3206 l4_1) ag5 qg5 rg5) (i := (.invokevirtual 60, 3, 60, 0, 9, 0, 219)) (mi_k74.2 _ _ (by rfl)) (ft_invS mi_pq60 (by rfl)) (cy := mi_c60) mi_pq60 rfl (kc60_49 hJ6.I hJ6.R ) (by decide) ?_
        intro ig7 ag7 qg7 rg7 kg7 hg7
        have hGg7 := kG_call hJ6 kg7 (by decide +kernel)
        first | refine fo_goS mi_k74 fz74_32_2_34 [.ref 104, .ref 49] (by rfl) ?_ | refine ft_go mi_k74 2 34 [(4, .int l4_1), (3, .int l3_1), (0, .ref 49), (1, .ref 1), (2, .ref 104)] [.ref 104, .ref 49] ig7 ag7 qg7 rg7 (by rfl) ?_
        refine ko_callPI mi_k74.1 (pc := 34) (ls := [(4, .int l4_1), (3, .int l3_1), (0, .ref 49), (1, .ref 1), (2, .ref 104)]) (st := [.ref 104, .ref 49]) (h := ks ig7 ag7 qg7 rg7) (i := (.invokevirtual 126, 3, 73, 0, 9, 0, 265)) (mi_k74.2 _ _ (by rfl)) (ft_invS mi_pq73 (by rfl)) (cy := mi_c73) mi_pq73 rfl (kc73_49_104 hGg7.I hGg7.R ) (by decide) ?_
        intro vg8 hg8
        first | refine fo_goS mi_k74 fz74_37_1_39 [.int (-2), .int vg8] (by rfl) ?_ | refine ft_go mi_k74 1 39 [(4, .int l4_1), (3, .int l3_1), (0, .ref 49), (1, .ref 1), (2, .ref 104)] [.int (-2), .int vg8] ig7 ag7 qg7 rg7 (by rfl) ?_
        refine ft_ifS mi_k74 (vg8 != (-2)) 49 42 [] (by rfl) (fun c => ?_) (fun c => ?_)
        ·
          have c9 : vg8.toInt ≠ ((-2) : Int32).toInt := kd_ne c; clear c
          have s10 : (l4_1 + 1).toInt = l4_1.toInt + (1 : Int32).toInt := kd_add (oz491 p1_0 kn1) (oz1190 c4 kn5 kn1)
          first | refine fo_goL mi_k74 fz74_2_2_5 [(4, .int (l4_1 + 1)), (3, .int l3_1), (0, .ref 49), (1, .ref 1), (2, .ref 104)] [] (by rfl) ?_ | refine fo_goL mi_k74 fz74_49_2_5 [(4, .int (l4_1 + 1)), (3, .int l3_1), (0, .ref 49), (1, .ref 1), (2, .ref 104)] [] (by rfl) ?_ | refine ft_go mi_k74 2 5 [(4, .int (l4_1 + 1)), (3, .int l3_1), (0, .ref 49), (1, .ref 1), (2, .ref 104)] [] ig7 ag7 qg7 rg7 (by rfl) ?_
          exact ih1 _ _ _ _ _ _ hGg7 (oz492 p1_0 s10 kn1) (kj_meas (oz530 s10 kn1) (oz1191 c4 kn5) hm1)
        ·
          have c11 : vg8.toInt = ((-2) : Int32).toInt := kd_neF c; clear c
          have s12 : ((1 : Int) ≤ (1 <<< (l4_1 &&& 31)).toInt) ∧ ((1 <<< (l4_1 &&& 31)).toInt ≤ 256) := kd_shl1 (oz489 p1_0) (oz1192 c4 kn5)
          have s13 : (1 <<< (l4_1 &&& 31)).toInt ≤ 32 := kd_shl32 (oz489 p1_0) (oz1193 c4 kn5)
          have s14 : (l4_1 + 1).toInt = l4_1.toInt + (1 : Int32).toInt := kd_add (oz491 p1_0 kn1) (oz1190 c4 kn5 kn1)
          first | refine ft_goL mi_k74 8 5 [(4, .int (l4_1 + 1)), (3, .int (l3_1 ||| (1 <<< (l4_1 &&& 31)))), (0, .ref 49), (1, .ref 1), (2, .ref 104)] [] (by rfl) ?_ | refine ft_go mi_k74 8 5 [(4, .int (l4_1 + 1)), (3, .int (l3_1 ||| (1 <<< (l4_1 &&& 31)))), (0, .ref 49), (1, .ref 1), (2, .ref 104)] [] ig7 ag7 qg7 rg7 (by rfl) ?_
          exact ih1 _ _ _ _ _ _ hGg7 (oz492 p1_0 s14 kn1) (kj_meas (oz530 s14 kn1) (oz1191 c4 kn5) hm1)
  exact lp1 _ _ _ _ _ _ _ (kG_self _ hG.I hG.R) (oz494 kn1) (Nat.lt_succ_self _)
def w74_49_1_106 : kW := ([645, 3200, 3206, 3207, 3208, 3209, 3214, 3215, 3216, 3586, 3781, 6405], [13, 51, 52, 53, 54, 55, 57, 58, 62, 63, 65, 66, 67, 68, 69, 70, 71, 72, 73, 75, 76, 77, 103], [], [1])
def w74_49_1_106_L5 : kW := ([645, 3200, 3206, 3207, 3208, 3209, 3214, 3215, 3216, 3586, 3781, 6405], [13, 51, 52, 53, 54, 55, 57, 58, 62, 63, 65, 66, 67, 68, 69, 70, 71, 72, 73, 75, 76, 77, 103], [], [1])
set_option maxRecDepth 100000 in
theorem kc74_49_1_106 {i : Nat → Int32} {a : Nat → List Int32} {q : Nat → List Int64} {r : Nat → Nat} (hI : kI i a q) (hr : kr r)  : km 11 74 [.ref 49, .ref 1, .ref 106] (ks i a q r) (kVI w74_49_1_106 i a q r (fun v i1 a1 q1 r1 => True)) := by
  have hG := kG_self w74_49_1_106 hI hr
  refine km_ofI (q := (mi_h74, mi_c74)) rfl (by decide) (Nat.le_of_ble_eq_true rfl) ?_
  intro P hP
  first | refine fo_goL mi_k74 fz74_0_4_5 [(4, .int 1), (3, .int 0), (0, .ref 49), (1, .ref 1), (2, .ref 106)] [] (by rfl) ?_ | refine ft_goL mi_k74 4 5 [(4, .int 1), (3, .int 0), (0, .ref 49), (1, .ref 1), (2, .ref 106)] [] (by rfl) ?_ | refine ft_go mi_k74 4 5 [(4, .int 1), (3, .int 0), (0, .ref 49), (1, .ref 1), (2, .ref 106)] [] i a q r (by rfl) ?_
  have lp1 : ∀ (nz : Nat) (i1 : Nat → Int32) (a1 : Nat → List Int32) (q1 : Nat → List Int64) (r1 : Nat → Nat) (l4_1 : Int32) (l3_1 : Int32), kG w74_49_1_106_L5 i a q r i1 a1 q1 r1 → (1 : Int) ≤ l4_1.toInt → ((6 - l4_1.toInt)).toNat < nz → ko 11 (mi_h74, mi_c74) P (5, [(4, .int l4_1), (3, .int l3_1), (0, .ref 49), (1, .ref 1), (2, .ref 106)], [], (0, 0), ks i1 a1 q1 r1) := by
    intro nz
    induction nz with
    | zero =>
      intro _ _ _ _ _ _ _ _ hm
      exact absurd hm (Nat.not_lt_zero _)
    | succ nz ih1 =>
      intro i1 a1 q1 r1 l4_1 l3_1 hL1 p1_0 hm1
      first | refine fo_goL mi_k74 fz74_5_2_8 [(4, .int l4_1), (3, .int l3_1), (0, .ref 49), (1, .ref 1), (2, .ref 106)] [.int 5, .int l4_1] (by rfl) ?_ | refine ft_go mi_k74 2 8 [(4, .int l4_1), (3, .int l3_1), (0, .ref 49), (1, .ref 1), (2, .ref 106)] [.int 5, .int l4_1] i1 a1 q1 r1 (by rfl) ?_
      refine ft_ifS mi_k74 (decide (5 < l4_1)) 55 11 [] (by rfl) (fun c => ?_) (fun c => ?_)
      ·
        have c2 : (5 : Int32).toInt < l4_1.toInt := kd_lt c; clear c
        have hG3 := kG_call hG hL1 (by decide +kernel)
        first | refine fo_goS mi_k74 fz74_55_1_56 [.int l3_1] (by rfl) ?_ | refine ft_go mi_k74 1 56 [(4, .int l4_1), (3, .int l3_1), (0, .ref 49), (1, .ref 1), (2, .ref 106)] [.int l3_1] i1 a1 q1 r1 (by rfl) ?_
        exact ft_ret mi_k74 (by rfl) (hP l3_1 _ _ _ _ hG3 trivial)
      ·
        have c4 : l4_1.toInt ≤ (5 : Int32).toInt := kd_ltF c; clear c
        first | refine fo_goS mi_k74 fz74_11_3_16 [.ref 1, .ref 50] (by rfl) ?_ | refine ft_go mi_k74 3 16 [(4, .int l4_1), (3, .int l3_1), (0, .ref 49), (1, .ref 1), (2, .ref 106)] [.ref 1, .ref 50] i1 a1 q1 r1 (by rfl) ?_
        refine ko_callN mi_k74.1 (pc := 16) (ls := [(4, .int l4_1), (3, .int l3_1), (0, .ref 49), (1, .ref 1), (2, .ref 106)]) (st := [.ref 1, .ref 50]) (h := ks i1 a1 q1 r1) (i := (.invokevirtual 56, 3, 34, 0, 9, 0, 212)) (mi_k74.2 _ _ (by rfl)) (ft_invS mi_pq34 (by rfl)) (cy := mi_c34) mi_pq34 rfl (kc34_50_1 hL1.I hL1.R ) (by decide) ?_
        intro ig5 ag5 qg5 rg5 kg5 hg5
        have hGg5 := kG_call hL1 kg5 (by decide +kernel)
        have hJ6 := kG_i hGg5 3206 rfl (v := l4_1) (kd_bd _)
        first | refine fo_goI mi_k74 fz74_19_5_29 [.ref 49] (ku ig5 3206 l4_1) (by rfl) ?_ | refine ft_go mi_k74 5 29 [(4, .int l4_1), (3, .int l3_1), (0, .ref 49), (1, .ref 1), (2, .ref 106)] [.ref 49] (ku ig5 3206 l4_1) ag5 qg5 rg5 (by rfl) ?_
        refine ko_callN mi_k74.1 (pc := 29) (ls := [(4, .int l4_1), (3, .int l3_1), (0, .ref 49), (1, .ref 1), (2, .ref 106)]) (st := [.ref 49]) (h := ks (ku ig5 3206 l4_1) ag5 qg5 rg5) (i := (.invokevirtual 60, 3, 60, 0, 9, 0, 219)) (mi_k74.2 _ _ (by rfl)) (ft_invS mi_pq60 (by rfl)) (cy := mi_c60) mi_pq60 rfl (kc60_49 hJ6.I hJ6.R ) (by decide) ?_
        intro ig7 ag7 qg7 rg7 kg7 hg7
        have hGg7 := kG_call hJ6 kg7 (by decide +kernel)
        first | refine fo_goS mi_k74 fz74_32_2_34 [.ref 106, .ref 49] (by rfl) ?_ | refine ft_go mi_k74 2 34 [(4, .int l4_1), (3, .int l3_1), (0, .ref 49), (1, .ref 1), (2, .ref 106)] [.ref 106, .ref 49] ig7 ag7 qg7 rg7 (by rfl) ?_
        refine ko_callPI mi_k74.1 (pc := 34) (ls := [(4, .int l4_1), (3, .int l3_1), (0, .ref 49), (1, .ref 1), (2, .ref 106)]) (st := [.ref 106, .ref 49]) (h := ks ig7 ag7 qg7 rg7) (i := (.invokevirtual 126, 3, 73, 0, 9, 0, 265)) (mi_k74.2 _ _ (by rfl)) (ft_invS mi_pq73 (by rfl)) (cy := mi_c73) mi_pq73 rfl (kc73_49_106 hGg7.I hGg7.R ) (by decide) ?_
        intro vg8 hg8
        first | refine fo_goS mi_k74 fz74_37_1_39 [.int (-2), .int vg8] (by rfl) ?_ | refine ft_go mi_k74 1 39 [(4, .int l4_1), (3, .int l3_1), (0, .ref 49), (1, .ref 1), (2, .ref 106)] [.int (-2), .int vg8] ig7 ag7 qg7 rg7 (by rfl) ?_
        refine ft_ifS mi_k74 (vg8 != (-2)) 49 42 [] (by rfl) (fun c => ?_) (fun c => ?_)
        ·
          have c9 : vg8.toInt ≠ ((-2) : Int32).toInt := kd_ne c; clear c
          have s10 : (l4_1 + 1).toInt = l4_1.toInt + (1 : Int32).toInt := kd_add (oz491 p1_0 kn1) (oz1190 c4 kn5 kn1)
          first | refine fo_goL mi_k74 fz74_2_2_5 [(4, .int (l4_1 + 1)), (3, .int l3_1), (0, .ref 49), (1, .ref 1), (2, .ref 106)] [] (by rfl) ?_ | refine fo_goL mi_k74 fz74_49_2_5 [(4, .int (l4_1 + 1)), (3, .int l3_1), (0, .ref 49), (1, .ref 1), (2, .ref 106)] [] (by rfl) ?_ | refine ft_go mi_k74 2 5 [(4, .int (l4_1 + 1)), (3, .int l3_1), (0, .ref 49), (1, .ref 1), (2, .ref 106)] [] ig7 ag7 qg7 rg7 (by rfl) ?_
          exact ih1 _ _ _ _ _ _ hGg7 (oz492 p1_0 s10 kn1) (kj_meas (oz530 s10 kn1) (oz1191 c4 kn5) hm1)
        ·
          have c11 : vg8.toInt = ((-2) : Int32).toInt := kd_neF c; clear c
          have s12 : ((1 : Int) ≤ (1 <<< (l4_1 &&& 31)).toInt) ∧ ((1 <<< (l4_1 &&& 31)).toInt ≤ 256) := kd_shl1 (oz489 p1_0) (oz1192 c4 kn5)
          have s13 : (1 <<< (l4_1 &&& 31)).toInt ≤ 32 := kd_shl32 (oz489 p1_0) (oz1193 c4 kn5)
          have s14 : (l4_1 + 1).toInt = l4_1.toInt + (1 : Int32).toInt := kd_add (oz491 p1_0 kn1) (oz1190 c4 kn5 kn1)
          first | refine ft_goL mi_k74 8 5 [(4, .int (l4_1 + 1)), (3, .int (l3_1 ||| (1 <<< (l4_1 &&& 31)))), (0, .ref 49), (1, .ref 1), (2, .ref 106)] [] (by rfl) ?_ | refine ft_go mi_k74 8 5 [(4, .int (l4_1 + 1)), (3, .int (l3_1 ||| (1 <<< (l4_1 &&& 31)))), (0, .ref 49), (1, .ref 1), (2, .ref 106)] [] ig7 ag7 qg7 rg7 (by rfl) ?_
          exact ih1 _ _ _ _ _ _ hGg7 (oz492 p1_0 s14 kn1) (kj_meas (oz530 s14 kn1) (oz1191 c4 kn5) hm1)
  exact lp1 _ _ _ _ _ _ _ (kG_self _ hG.I hG.R) (oz494 kn1) (Nat.lt_succ_self _)
def w74_49_1_108 : kW := ([645, 3200, 3206, 3207, 3208, 3209, 3214, 3215, 3216, 3586, 3781, 6405], [13, 51, 52, 53, 54, 55, 57, 58, 62, 63, 65, 66, 67, 68, 69, 70, 71, 72, 73, 75, 76, 77, 103], [], [1])
def w74_49_1_108_L5 : kW := ([645, 3200, 3206, 3207, 3208, 3209, 3214, 3215, 3216, 3586, 3781, 6405], [13, 51, 52, 53, 54, 55, 57, 58, 62, 63, 65, 66, 67, 68, 69, 70, 71, 72, 73, 75, 76, 77, 103], [], [1])
set_option maxRecDepth 100000 in
theorem kc74_49_1_108 {i : Nat → Int32} {a : Nat → List Int32} {q : Nat → List Int64} {r : Nat → Nat} (hI : kI i a q) (hr : kr r)  : km 11 74 [.ref 49, .ref 1, .ref 108] (ks i a q r) (kVI w74_49_1_108 i a q r (fun v i1 a1 q1 r1 => True)) := by
  have hG := kG_self w74_49_1_108 hI hr
  refine km_ofI (q := (mi_h74, mi_c74)) rfl (by decide) (Nat.le_of_ble_eq_true rfl) ?_
  intro P hP
  first | refine fo_goL mi_k74 fz74_0_4_5 [(4, .int 1), (3, .int 0), (0, .ref 49), (1, .ref 1), (2, .ref 108)] [] (by rfl) ?_ | refine ft_goL mi_k74 4 5 [(4, .int 1), (3, .int 0), (0, .ref 49), (1, .ref 1), (2, .ref 108)] [] (by rfl) ?_ | refine ft_go mi_k74 4 5 [(4, .int 1), (3, .int 0), (0, .ref 49), (1, .ref 1), (2, .ref 108)] [] i a q r (by rfl) ?_
  have lp1 : ∀ (nz : Nat) (i1 : Nat → Int32) (a1 : Nat → List Int32) (q1 : Nat → List Int64) (r1 : Nat → Nat) (l4_1 : Int32) (l3_1 : Int32), kG w74_49_1_108_L5 i a q r i1 a1 q1 r1 → (1 : Int) ≤ l4_1.toInt → ((6 - l4_1.toInt)).toNat < nz → ko 11 (mi_h74, mi_c74) P (5, [(4, .int l4_1), (3, .int l3_1), (0, .ref 49), (1, .ref 1), (2, .ref 108)], [], (0, 0), ks i1 a1 q1 r1) := by
    intro nz
    induction nz with
    | zero =>
      intro _ _ _ _ _ _ _ _ hm
      exact absurd hm (Nat.not_lt_zero _)
    | succ nz ih1 =>
      intro i1 a1 q1 r1 l4_1 l3_1 hL1 p1_0 hm1
      first | refine fo_goL mi_k74 fz74_5_2_8 [(4, .int l4_1), (3, .int l3_1), (0, .ref 49), (1, .ref 1), (2, .ref 108)] [.int 5, .int l4_1] (by rfl) ?_ | refine ft_go mi_k74 2 8 [(4, .int l4_1), (3, .int l3_1), (0, .ref 49), (1, .ref 1), (2, .ref 108)] [.int 5, .int l4_1] i1 a1 q1 r1 (by rfl) ?_
      refine ft_ifS mi_k74 (decide (5 < l4_1)) 55 11 [] (by rfl) (fun c => ?_) (fun c => ?_)
      ·
        have c2 : (5 : Int32).toInt < l4_1.toInt := kd_lt c; clear c
        have hG3 := kG_call hG hL1 (by decide +kernel)
        first | refine fo_goS mi_k74 fz74_55_1_56 [.int l3_1] (by rfl) ?_ | refine ft_go mi_k74 1 56 [(4, .int l4_1), (3, .int l3_1), (0, .ref 49), (1, .ref 1), (2, .ref 108)] [.int l3_1] i1 a1 q1 r1 (by rfl) ?_
        exact ft_ret mi_k74 (by rfl) (hP l3_1 _ _ _ _ hG3 trivial)
      ·
        have c4 : l4_1.toInt ≤ (5 : Int32).toInt := kd_ltF c; clear c
        first | refine fo_goS mi_k74 fz74_11_3_16 [.ref 1, .ref 50] (by rfl) ?_ | refine ft_go mi_k74 3 16 [(4, .int l4_1), (3, .int l3_1), (0, .ref 49), (1, .ref 1), (2, .ref 108)] [.ref 1, .ref 50] i1 a1 q1 r1 (by rfl) ?_
        refine ko_callN mi_k74.1 (pc := 16) (ls := [(4, .int l4_1), (3, .int l3_1), (0, .ref 49), (1, .ref 1), (2, .ref 108)]) (st := [.ref 1, .ref 50]) (h := ks i1 a1 q1 r1) (i := (.invokevirtual 56, 3, 34, 0, 9, 0, 212)) (mi_k74.2 _ _ (by rfl)) (ft_invS mi_pq34 (by rfl)) (cy := mi_c34) mi_pq34 rfl (kc34_50_1 hL1.I hL1.R ) (by decide) ?_
        intro ig5 ag5 qg5 rg5 kg5 hg5
        have hGg5 := kG_call hL1 kg5 (by decide +kernel)
        have hJ6 := kG_i hGg5 3206 rfl (v := l4_1) (kd_bd _)
        first | refine fo_goI mi_k74 fz74_19_5_29 [.ref 49] (ku ig5 3206 l4_1) (by rfl) ?_ | refine ft_go mi_k74 5 29 [(4, .int l4_1), (3, .int l3_1), (0, .ref 49), (1, .ref 1), (2, .ref 108)] [.ref 49] (ku ig5 3206 l4_1) ag5 qg5 rg5 (by rfl) ?_
        refine ko_callN mi_k74.1 (pc := 29) (ls := [(4, .int l4_1), (3, .int l3_1), (0, .ref 49), (1, .ref 1), (2, .ref 108)]) (st := [.ref 49]) (h := ks (ku ig5 3206 l4_1) ag5 qg5 rg5) (i := (.invokevirtual 60, 3, 60, 0, 9, 0, 219)) (mi_k74.2 _ _ (by rfl)) (ft_invS mi_pq60 (by rfl)) (cy := mi_c60) mi_pq60 rfl (kc60_49 hJ6.I hJ6.R ) (by decide) ?_
        intro ig7 ag7 qg7 rg7 kg7 hg7
        have hGg7 := kG_call hJ6 kg7 (by decide +kernel)
        first | refine fo_goS mi_k74 fz74_32_2_34 [.ref 108, .ref 49] (by rfl) ?_ | refine ft_go mi_k74 2 34 [(4, .int l4_1), (3, .int l3_1), (0, .ref 49), (1, .ref 1), (2, .ref 108)] [.ref 108, .ref 49] ig7 ag7 qg7 rg7 (by rfl) ?_
        refine ko_callPI mi_k74.1 (pc := 34) (ls := [(4, .int l4_1), (3, .int l3_1), (0, .ref 49), (1, .ref 1), (2, .ref 108)]) (st := [.ref 108, .ref 49]) (h := ks ig7 ag7 qg7 rg7) (i := (.invokevirtual 126, 3, 73, 0, 9, 0, 265)) (mi_k74.2 _ _ (by rfl)) (ft_invS mi_pq73 (by rfl)) (cy := mi_c73) mi_pq73 rfl (kc73_49_108 hGg7.I hGg7.R ) (by decide) ?_
        intro vg8 hg8
        first | refine fo_goS mi_k74 fz74_37_1_39 [.int (-2), .int vg8] (by rfl) ?_ | refine ft_go mi_k74 1 39 [(4, .int l4_1), (3, .int l3_1), (0, .ref 49), (1, .ref 1), (2, .ref 108)] [.int (-2), .int vg8] ig7 ag7 qg7 rg7 (by rfl) ?_
        refine ft_ifS mi_k74 (vg8 != (-2)) 49 42 [] (by rfl) (fun c => ?_) (fun c => ?_)
        ·
          have c9 : vg8.toInt ≠ ((-2) : Int32).toInt := kd_ne c; clear c
          have s10 : (l4_1 + 1).toInt = l4_1.toInt + (1 : Int32).toInt := kd_add (oz491 p1_0 kn1) (oz1190 c4 kn5 kn1)
          first | refine fo_goL mi_k74 fz74_2_2_5 [(4, .int (l4_1 + 1)), (3, .int l3_1), (0, .ref 49), (1, .ref 1), (2, .ref 108)] [] (by rfl) ?_ | refine fo_goL mi_k74 fz74_49_2_5 [(4, .int (l4_1 + 1)), (3, .int l3_1), (0, .ref 49), (1, .ref 1), (2, .ref 108)] [] (by rfl) ?_ | refine ft_go mi_k74 2 5 [(4, .int (l4_1 + 1)), (3, .int l3_1), (0, .ref 49), (1, .ref 1), (2, .ref 108)] [] ig7 ag7 qg7 rg7 (by rfl) ?_
          exact ih1 _ _ _ _ _ _ hGg7 (oz492 p1_0 s10 kn1) (kj_meas (oz530 s10 kn1) (oz1191 c4 kn5) hm1)
        ·
          have c11 : vg8.toInt = ((-2) : Int32).toInt := kd_neF c; clear c
          have s12 : ((1 : Int) ≤ (1 <<< (l4_1 &&& 31)).toInt) ∧ ((1 <<< (l4_1 &&& 31)).toInt ≤ 256) := kd_shl1 (oz489 p1_0) (oz1192 c4 kn5)
          have s13 : (1 <<< (l4_1 &&& 31)).toInt ≤ 32 := kd_shl32 (oz489 p1_0) (oz1193 c4 kn5)
          have s14 : (l4_1 + 1).toInt = l4_1.toInt + (1 : Int32).toInt := kd_add (oz491 p1_0 kn1) (oz1190 c4 kn5 kn1)
          first | refine ft_goL mi_k74 8 5 [(4, .int (l4_1 + 1)), (3, .int (l3_1 ||| (1 <<< (l4_1 &&& 31)))), (0, .ref 49), (1, .ref 1), (2, .ref 108)] [] (by rfl) ?_ | refine ft_go mi_k74 8 5 [(4, .int (l4_1 + 1)), (3, .int (l3_1 ||| (1 <<< (l4_1 &&& 31)))), (0, .ref 49), (1, .ref 1), (2, .ref 108)] [] ig7 ag7 qg7 rg7 (by rfl) ?_
          exact ih1 _ _ _ _ _ _ hGg7 (oz492 p1_0 s14 kn1) (kj_meas (oz530 s14 kn1) (oz1191 c4 kn5) hm1)
  exact lp1 _ _ _ _ _ _ _ (kG_self _ hG.I hG.R) (oz494 kn1) (Nat.lt_succ_self _)
def w74_49_1_110 : kW := ([645, 3200, 3206, 3207, 3208, 3209, 3214, 3215, 3216, 3586, 3781, 6405], [13, 51, 52, 53, 54, 55, 57, 58, 62, 63, 65, 66, 67, 68, 69, 70, 71, 72, 73, 75, 76, 77, 103], [], [1])
def w74_49_1_110_L5 : kW := ([645, 3200, 3206, 3207, 3208, 3209, 3214, 3215, 3216, 3586, 3781, 6405], [13, 51, 52, 53, 54, 55, 57, 58, 62, 63, 65, 66, 67, 68, 69, 70, 71, 72, 73, 75, 76, 77, 103], [], [1])
set_option maxRecDepth 100000 in
theorem kc74_49_1_110 {i : Nat → Int32} {a : Nat → List Int32} {q : Nat → List Int64} {r : Nat → Nat} (hI : kI i a q) (hr : kr r)  : km 11 74 [.ref 49, .ref 1, .ref 110] (ks i a q r) (kVI w74_49_1_110 i a q r (fun v i1 a1 q1 r1 => True)) := by
  have hG := kG_self w74_49_1_110 hI hr
  refine km_ofI (q := (mi_h74, mi_c74)) rfl (by decide) (Nat.le_of_ble_eq_true rfl) ?_
  intro P hP
  first | refine fo_goL mi_k74 fz74_0_4_5 [(4, .int 1), (3, .int 0), (0, .ref 49), (1, .ref 1), (2, .ref 110)] [] (by rfl) ?_ | refine ft_goL mi_k74 4 5 [(4, .int 1), (3, .int 0), (0, .ref 49), (1, .ref 1), (2, .ref 110)] [] (by rfl) ?_ | refine ft_go mi_k74 4 5 [(4, .int 1), (3, .int 0), (0, .ref 49), (1, .ref 1), (2, .ref 110)] [] i a q r (by rfl) ?_
  have lp1 : ∀ (nz : Nat) (i1 : Nat → Int32) (a1 : Nat → List Int32) (q1 : Nat → List Int64) (r1 : Nat → Nat) (l4_1 : Int32) (l3_1 : Int32), kG w74_49_1_110_L5 i a q r i1 a1 q1 r1 → (1 : Int) ≤ l4_1.toInt → ((6 - l4_1.toInt)).toNat < nz → ko 11 (mi_h74, mi_c74) P (5, [(4, .int l4_1), (3, .int l3_1), (0, .ref 49), (1, .ref 1), (2, .ref 110)], [], (0, 0), ks i1 a1 q1 r1) := by
    intro nz
    induction nz with
    | zero =>
      intro _ _ _ _ _ _ _ _ hm
      exact absurd hm (Nat.not_lt_zero _)
    | succ nz ih1 =>
      intro i1 a1 q1 r1 l4_1 l3_1 hL1 p1_0 hm1
      first | refine fo_goL mi_k74 fz74_5_2_8 [(4, .int l4_1), (3, .int l3_1), (0, .ref 49), (1, .ref 1), (2, .ref 110)] [.int 5, .int l4_1] (by rfl) ?_ | refine ft_go mi_k74 2 8 [(4, .int l4_1), (3, .int l3_1), (0, .ref 49), (1, .ref 1), (2, .ref 110)] [.int 5, .int l4_1] i1 a1 q1 r1 (by rfl) ?_
      refine ft_ifS mi_k74 (decide (5 < l4_1)) 55 11 [] (by rfl) (fun c => ?_) (fun c => ?_)
      ·
        have c2 : (5 : Int32).toInt < l4_1.toInt := kd_lt c; clear c
        have hG3 := kG_call hG hL1 (by decide +kernel)
        first | refine fo_goS mi_k74 fz74_55_1_56 [.int l3_1] (by rfl) ?_ | refine ft_go mi_k74 1 56 [(4, .int l4_1), (3, .int l3_1), (0, .ref 49), (1, .ref 1), (2, .ref 110)] [.int l3_1] i1 a1 q1 r1 (by rfl) ?_
        exact ft_ret mi_k74 (by rfl) (hP l3_1 _ _ _ _ hG3 trivial)
      ·
        have c4 : l4_1.toInt ≤ (5 : Int32).toInt := kd_ltF c; clear c
        first | refine fo_goS mi_k74 fz74_11_3_16 [.ref 1, .ref 50] (by rfl) ?_ | refine ft_go mi_k74 3 16 [(4, .int l4_1), (3, .int l3_1), (0, .ref 49), (1, .ref 1), (2, .ref 110)] [.ref 1, .ref 50] i1 a1 q1 r1 (by rfl) ?_
        refine ko_callN mi_k74.1 (pc := 16) (ls := [(4, .int l4_1), (3, .int l3_1), (0, .ref 49), (1, .ref 1), (2, .ref 110)]) (st := [.ref 1, .ref 50]) (h := ks i1 a1 q1 r1) (i := (.invokevirtual 56, 3, 34, 0, 9, 0, 212)) (mi_k74.2 _ _ (by rfl)) (ft_invS mi_pq34 (by rfl)) (cy := mi_c34) mi_pq34 rfl (kc34_50_1 hL1.I hL1.R ) (by decide) ?_
        intro ig5 ag5 qg5 rg5 kg5 hg5
        have hGg5 := kG_call hL1 kg5 (by decide +kernel)
        have hJ6 := kG_i hGg5 3206 rfl (v := l4_1) (kd_bd _)
        first | refine fo_goI mi_k74 fz74_19_5_29 [.ref 49] (ku ig5 3206 l4_1) (by rfl) ?_ | refine ft_go mi_k74 5 29 [(4, .int l4_1), (3, .int l3_1), (0, .ref 49), (1, .ref 1), (2, .ref 110)] [.ref 49] (ku ig5 3206 l4_1) ag5 qg5 rg5 (by rfl) ?_
        refine ko_callN mi_k74.1 (pc := 29) (ls := [(4, .int l4_1), (3, .int l3_1), (0, .ref 49), (1, .ref 1), (2, .ref 110)]) (st := [.ref 49]) (h := ks (ku ig5 3206 l4_1) ag5 qg5 rg5) (i := (.invokevirtual 60, 3, 60, 0, 9, 0, 219)) (mi_k74.2 _ _ (by rfl)) (ft_invS mi_pq60 (by rfl)) (cy := mi_c60) mi_pq60 rfl (kc60_49 hJ6.I hJ6.R ) (by decide) ?_
        intro ig7 ag7 qg7 rg7 kg7 hg7
        have hGg7 := kG_call hJ6 kg7 (by decide +kernel)
        first | refine fo_goS mi_k74 fz74_32_2_34 [.ref 110, .ref 49] (by rfl) ?_ | refine ft_go mi_k74 2 34 [(4, .int l4_1), (3, .int l3_1), (0, .ref 49), (1, .ref 1), (2, .ref 110)] [.ref 110, .ref 49] ig7 ag7 qg7 rg7 (by rfl) ?_
        refine ko_callPI mi_k74.1 (pc := 34) (ls := [(4, .int l4_1), (3, .int l3_1), (0, .ref 49), (1, .ref 1), (2, .ref 110)]) (st := [.ref 110, .ref 49]) (h := ks ig7 ag7 qg7 rg7) (i := (.invokevirtual 126, 3, 73, 0, 9, 0, 265)) (mi_k74.2 _ _ (by rfl)) (ft_invS mi_pq73 (by rfl)) (cy := mi_c73) mi_pq73 rfl (kc73_49_110 hGg7.I hGg7.R ) (by decide) ?_
        intro vg8 hg8
        first | refine fo_goS mi_k74 fz74_37_1_39 [.int (-2), .int vg8] (by rfl) ?_ | refine ft_go mi_k74 1 39 [(4, .int l4_1), (3, .int l3_1), (0, .ref 49), (1, .ref 1), (2, .ref 110)] [.int (-2), .int vg8] ig7 ag7 qg7 rg7 (by rfl) ?_
        refine ft_ifS mi_k74 (vg8 != (-2)) 49 42 [] (by rfl) (fun c => ?_) (fun c => ?_)
        ·
          have c9 : vg8.toInt ≠ ((-2) : Int32).toInt := kd_ne c; clear c
          have s10 : (l4_1 + 1).toInt = l4_1.toInt + (1 : Int32).toInt := kd_add (oz491 p1_0 kn1) (oz1190 c4 kn5 kn1)
          first | refine fo_goL mi_k74 fz74_2_2_5 [(4, .int (l4_1 + 1)), (3, .int l3_1), (0, .ref 49), (1, .ref 1), (2, .ref 110)] [] (by rfl) ?_ | refine fo_goL mi_k74 fz74_49_2_5 [(4, .int (l4_1 + 1)), (3, .int l3_1), (0, .ref 49), (1, .ref 1), (2, .ref 110)] [] (by rfl) ?_ | refine ft_go mi_k74 2 5 [(4, .int (l4_1 + 1)), (3, .int l3_1), (0, .ref 49), (1, .ref 1), (2, .ref 110)] [] ig7 ag7 qg7 rg7 (by rfl) ?_
          exact ih1 _ _ _ _ _ _ hGg7 (oz492 p1_0 s10 kn1) (kj_meas (oz530 s10 kn1) (oz1191 c4 kn5) hm1)
        ·
          have c11 : vg8.toInt = ((-2) : Int32).toInt := kd_neF c; clear c
          have s12 : ((1 : Int) ≤ (1 <<< (l4_1 &&& 31)).toInt) ∧ ((1 <<< (l4_1 &&& 31)).toInt ≤ 256) := kd_shl1 (oz489 p1_0) (oz1192 c4 kn5)
          have s13 : (1 <<< (l4_1 &&& 31)).toInt ≤ 32 := kd_shl32 (oz489 p1_0) (oz1193 c4 kn5)
          have s14 : (l4_1 + 1).toInt = l4_1.toInt + (1 : Int32).toInt := kd_add (oz491 p1_0 kn1) (oz1190 c4 kn5 kn1)
          first | refine ft_goL mi_k74 8 5 [(4, .int (l4_1 + 1)), (3, .int (l3_1 ||| (1 <<< (l4_1 &&& 31)))), (0, .ref 49), (1, .ref 1), (2, .ref 110)] [] (by rfl) ?_ | refine ft_go mi_k74 8 5 [(4, .int (l4_1 + 1)), (3, .int (l3_1 ||| (1 <<< (l4_1 &&& 31)))), (0, .ref 49), (1, .ref 1), (2, .ref 110)] [] ig7 ag7 qg7 rg7 (by rfl) ?_
          exact ih1 _ _ _ _ _ _ hGg7 (oz492 p1_0 s14 kn1) (kj_meas (oz530 s14 kn1) (oz1191 c4 kn5) hm1)
  exact lp1 _ _ _ _ _ _ _ (kG_self _ hG.I hG.R) (oz494 kn1) (Nat.lt_succ_self _)
def w74_49_1_112 : kW := ([645, 3200, 3206, 3207, 3208, 3209, 3214, 3215, 3216, 3586, 3781, 6405], [13, 51, 52, 53, 54, 55, 57, 58, 62, 63, 65, 66, 67, 68, 69, 70, 71, 72, 73, 75, 76, 77, 103], [], [1])
def w74_49_1_112_L5 : kW := ([645, 3200, 3206, 3207, 3208, 3209, 3214, 3215, 3216, 3586, 3781, 6405], [13, 51, 52, 53, 54, 55, 57, 58, 62, 63, 65, 66, 67, 68, 69, 70, 71, 72, 73, 75, 76, 77, 103], [], [1])
set_option maxRecDepth 100000 in
theorem kc74_49_1_112 {i : Nat → Int32} {a : Nat → List Int32} {q : Nat → List Int64} {r : Nat → Nat} (hI : kI i a q) (hr : kr r)  : km 11 74 [.ref 49, .ref 1, .ref 112] (ks i a q r) (kVI w74_49_1_112 i a q r (fun v i1 a1 q1 r1 => True)) := by
  have hG := kG_self w74_49_1_112 hI hr
  refine km_ofI (q := (mi_h74, mi_c74)) rfl (by decide) (Nat.le_of_ble_eq_true rfl) ?_
  intro P hP
  first | refine fo_goL mi_k74 fz74_0_4_5 [(4, .int 1), (3, .int 0), (0, .ref 49), (1, .ref 1), (2, .ref 112)] [] (by rfl) ?_ | refine ft_goL mi_k74 4 5 [(4, .int 1), (3, .int 0), (0, .ref 49), (1, .ref 1), (2, .ref 112)] [] (by rfl) ?_ | refine ft_go mi_k74 4 5 [(4, .int 1), (3, .int 0), (0, .ref 49), (1, .ref 1), (2, .ref 112)] [] i a q r (by rfl) ?_
  have lp1 : ∀ (nz : Nat) (i1 : Nat → Int32) (a1 : Nat → List Int32) (q1 : Nat → List Int64) (r1 : Nat → Nat) (l4_1 : Int32) (l3_1 : Int32), kG w74_49_1_112_L5 i a q r i1 a1 q1 r1 → (1 : Int) ≤ l4_1.toInt → ((6 - l4_1.toInt)).toNat < nz → ko 11 (mi_h74, mi_c74) P (5, [(4, .int l4_1), (3, .int l3_1), (0, .ref 49), (1, .ref 1), (2, .ref 112)], [], (0, 0), ks i1 a1 q1 r1) := by
    intro nz
    induction nz with
    | zero =>
      intro _ _ _ _ _ _ _ _ hm
      exact absurd hm (Nat.not_lt_zero _)
    | succ nz ih1 =>
      intro i1 a1 q1 r1 l4_1 l3_1 hL1 p1_0 hm1
      first | refine fo_goL mi_k74 fz74_5_2_8 [(4, .int l4_1), (3, .int l3_1), (0, .ref 49), (1, .ref 1), (2, .ref 112)] [.int 5, .int l4_1] (by rfl) ?_ | refine ft_go mi_k74 2 8 [(4, .int l4_1), (3, .int l3_1), (0, .ref 49), (1, .ref 1), (2, .ref 112)] [.int 5, .int l4_1] i1 a1 q1 r1 (by rfl) ?_
      refine ft_ifS mi_k74 (decide (5 < l4_1)) 55 11 [] (by rfl) (fun c => ?_) (fun c => ?_)
      ·
        have c2 : (5 : Int32).toInt < l4_1.toInt := kd_lt c; clear c
        have hG3 := kG_call hG hL1 (by decide +kernel)
        first | refine fo_goS mi_k74 fz74_55_1_56 [.int l3_1] (by rfl) ?_ | refine ft_go mi_k74 1 56 [(4, .int l4_1), (3, .int l3_1), (0, .ref 49), (1, .ref 1), (2, .ref 112)] [.int l3_1] i1 a1 q1 r1 (by rfl) ?_
        exact ft_ret mi_k74 (by rfl) (hP l3_1 _ _ _ _ hG3 trivial)
      ·
        have c4 : l4_1.toInt ≤ (5 : Int32).toInt := kd_ltF c; clear c
        first | refine fo_goS mi_k74 fz74_11_3_16 [.ref 1, .ref 50] (by rfl) ?_ | refine ft_go mi_k74 3 16 [(4, .int l4_1), (3, .int l3_1), (0, .ref 49), (1, .ref 1), (2, .ref 112)] [.ref 1, .ref 50] i1 a1 q1 r1 (by rfl) ?_
        refine ko_callN mi_k74.1 (pc := 16) (ls := [(4, .int l4_1), (3, .int l3_1), (0, .ref 49), (1, .ref 1), (2, .ref 112)]) (st := [.ref 1, .ref 50]) (h := ks i1 a1 q1 r1) (i := (.invokevirtual 56, 3, 34, 0, 9, 0, 212)) (mi_k74.2 _ _ (by rfl)) (ft_invS mi_pq34 (by rfl)) (cy := mi_c34) mi_pq34 rfl (kc34_50_1 hL1.I hL1.R ) (by decide) ?_
        intro ig5 ag5 qg5 rg5 kg5 hg5
        have hGg5 := kG_call hL1 kg5 (by decide +kernel)
        have hJ6 := kG_i hGg5 3206 rfl (v := l4_1) (kd_bd _)
        first | refine fo_goI mi_k74 fz74_19_5_29 [.ref 49] (ku ig5 3206 l4_1) (by rfl) ?_ | refine ft_go mi_k74 5 29 [(4, .int l4_1), (3, .int l3_1), (0, .ref 49), (1, .ref 1), (2, .ref 112)] [.ref 49] (ku ig5 3206 l4_1) ag5 qg5 rg5 (by rfl) ?_
        refine ko_callN mi_k74.1 (pc := 29) (ls := [(4, .int l4_1), (3, .int l3_1), (0, .ref 49), (1, .ref 1), (2, .ref 112)]) (st := [.ref 49]) (h := ks (ku ig5 3206 l4_1) ag5 qg5 rg5) (i := (.invokevirtual 60, 3, 60, 0, 9, 0, 219)) (mi_k74.2 _ _ (by rfl)) (ft_invS mi_pq60 (by rfl)) (cy := mi_c60) mi_pq60 rfl (kc60_49 hJ6.I hJ6.R ) (by decide) ?_
        intro ig7 ag7 qg7 rg7 kg7 hg7
        have hGg7 := kG_call hJ6 kg7 (by decide +kernel)
        first | refine fo_goS mi_k74 fz74_32_2_34 [.ref 112, .ref 49] (by rfl) ?_ | refine ft_go mi_k74 2 34 [(4, .int l4_1), (3, .int l3_1), (0, .ref 49), (1, .ref 1), (2, .ref 112)] [.ref 112, .ref 49] ig7 ag7 qg7 rg7 (by rfl) ?_
        refine ko_callPI mi_k74.1 (pc := 34) (ls := [(4, .int l4_1), (3, .int l3_1), (0, .ref 49), (1, .ref 1), (2, .ref 112)]) (st := [.ref 112, .ref 49]) (h := ks ig7 ag7 qg7 rg7) (i := (.invokevirtual 126, 3, 73, 0, 9, 0, 265)) (mi_k74.2 _ _ (by rfl)) (ft_invS mi_pq73 (by rfl)) (cy := mi_c73) mi_pq73 rfl (kc73_49_112 hGg7.I hGg7.R ) (by decide) ?_
        intro vg8 hg8
        first | refine fo_goS mi_k74 fz74_37_1_39 [.int (-2), .int vg8] (by rfl) ?_ | refine ft_go mi_k74 1 39 [(4, .int l4_1), (3, .int l3_1), (0, .ref 49), (1, .ref 1), (2, .ref 112)] [.int (-2), .int vg8] ig7 ag7 qg7 rg7 (by rfl) ?_
        refine ft_ifS mi_k74 (vg8 != (-2)) 49 42 [] (by rfl) (fun c => ?_) (fun c => ?_)
        ·
          have c9 : vg8.toInt ≠ ((-2) : Int32).toInt := kd_ne c; clear c
          have s10 : (l4_1 + 1).toInt = l4_1.toInt + (1 : Int32).toInt := kd_add (oz491 p1_0 kn1) (oz1190 c4 kn5 kn1)
          first | refine fo_goL mi_k74 fz74_2_2_5 [(4, .int (l4_1 + 1)), (3, .int l3_1), (0, .ref 49), (1, .ref 1), (2, .ref 112)] [] (by rfl) ?_ | refine fo_goL mi_k74 fz74_49_2_5 [(4, .int (l4_1 + 1)), (3, .int l3_1), (0, .ref 49), (1, .ref 1), (2, .ref 112)] [] (by rfl) ?_ | refine ft_go mi_k74 2 5 [(4, .int (l4_1 + 1)), (3, .int l3_1), (0, .ref 49), (1, .ref 1), (2, .ref 112)] [] ig7 ag7 qg7 rg7 (by rfl) ?_
          exact ih1 _ _ _ _ _ _ hGg7 (oz492 p1_0 s10 kn1) (kj_meas (oz530 s10 kn1) (oz1191 c4 kn5) hm1)
        ·
          have c11 : vg8.toInt = ((-2) : Int32).toInt := kd_neF c; clear c
          have s12 : ((1 : Int) ≤ (1 <<< (l4_1 &&& 31)).toInt) ∧ ((1 <<< (l4_1 &&& 31)).toInt ≤ 256) := kd_shl1 (oz489 p1_0) (oz1192 c4 kn5)
          have s13 : (1 <<< (l4_1 &&& 31)).toInt ≤ 32 := kd_shl32 (oz489 p1_0) (oz1193 c4 kn5)
          have s14 : (l4_1 + 1).toInt = l4_1.toInt + (1 : Int32).toInt := kd_add (oz491 p1_0 kn1) (oz1190 c4 kn5 kn1)
          first | refine ft_goL mi_k74 8 5 [(4, .int (l4_1 + 1)), (3, .int (l3_1 ||| (1 <<< (l4_1 &&& 31)))), (0, .ref 49), (1, .ref 1), (2, .ref 112)] [] (by rfl) ?_ | refine ft_go mi_k74 8 5 [(4, .int (l4_1 + 1)), (3, .int (l3_1 ||| (1 <<< (l4_1 &&& 31)))), (0, .ref 49), (1, .ref 1), (2, .ref 112)] [] ig7 ag7 qg7 rg7 (by rfl) ?_
          exact ih1 _ _ _ _ _ _ hGg7 (oz492 p1_0 s14 kn1) (kj_meas (oz530 s14 kn1) (oz1191 c4 kn5) hm1)
  exact lp1 _ _ _ _ _ _ _ (kG_self _ hG.I hG.R) (oz494 kn1) (Nat.lt_succ_self _)
def w74_49_1_114 : kW := ([645, 3200, 3206, 3207, 3208, 3209, 3214, 3215, 3216, 3586, 3781, 6405], [13, 51, 52, 53, 54, 55, 57, 58, 62, 63, 65, 66, 67, 68, 69, 70, 71, 72, 73, 75, 76, 77, 103], [], [1])
def w74_49_1_114_L5 : kW := ([645, 3200, 3206, 3207, 3208, 3209, 3214, 3215, 3216, 3586, 3781, 6405], [13, 51, 52, 53, 54, 55, 57, 58, 62, 63, 65, 66, 67, 68, 69, 70, 71, 72, 73, 75, 76, 77, 103], [], [1])
set_option maxRecDepth 100000 in
theorem kc74_49_1_114 {i : Nat → Int32} {a : Nat → List Int32} {q : Nat → List Int64} {r : Nat → Nat} (hI : kI i a q) (hr : kr r)  : km 11 74 [.ref 49, .ref 1, .ref 114] (ks i a q r) (kVI w74_49_1_114 i a q r (fun v i1 a1 q1 r1 => True)) := by
  have hG := kG_self w74_49_1_114 hI hr
  refine km_ofI (q := (mi_h74, mi_c74)) rfl (by decide) (Nat.le_of_ble_eq_true rfl) ?_
  intro P hP
  first | refine fo_goL mi_k74 fz74_0_4_5 [(4, .int 1), (3, .int 0), (0, .ref 49), (1, .ref 1), (2, .ref 114)] [] (by rfl) ?_ | refine ft_goL mi_k74 4 5 [(4, .int 1), (3, .int 0), (0, .ref 49), (1, .ref 1), (2, .ref 114)] [] (by rfl) ?_ | refine ft_go mi_k74 4 5 [(4, .int 1), (3, .int 0), (0, .ref 49), (1, .ref 1), (2, .ref 114)] [] i a q r (by rfl) ?_
  have lp1 : ∀ (nz : Nat) (i1 : Nat → Int32) (a1 : Nat → List Int32) (q1 : Nat → List Int64) (r1 : Nat → Nat) (l4_1 : Int32) (l3_1 : Int32), kG w74_49_1_114_L5 i a q r i1 a1 q1 r1 → (1 : Int) ≤ l4_1.toInt → ((6 - l4_1.toInt)).toNat < nz → ko 11 (mi_h74, mi_c74) P (5, [(4, .int l4_1), (3, .int l3_1), (0, .ref 49), (1, .ref 1), (2, .ref 114)], [], (0, 0), ks i1 a1 q1 r1) := by
    intro nz
    induction nz with
    | zero =>
      intro _ _ _ _ _ _ _ _ hm
      exact absurd hm (Nat.not_lt_zero _)
    | succ nz ih1 =>
      intro i1 a1 q1 r1 l4_1 l3_1 hL1 p1_0 hm1
      first | refine fo_goL mi_k74 fz74_5_2_8 [(4, .int l4_1), (3, .int l3_1), (0, .ref 49), (1, .ref 1), (2, .ref 114)] [.int 5, .int l4_1] (by rfl) ?_ | refine ft_go mi_k74 2 8 [(4, .int l4_1), (3, .int l3_1), (0, .ref 49), (1, .ref 1), (2, .ref 114)] [.int 5, .int l4_1] i1 a1 q1 r1 (by rfl) ?_
      refine ft_ifS mi_k74 (decide (5 < l4_1)) 55 11 [] (by rfl) (fun c => ?_) (fun c => ?_)
      ·
        have c2 : (5 : Int32).toInt < l4_1.toInt := kd_lt c; clear c
        have hG3 := kG_call hG hL1 (by decide +kernel)
        first | refine fo_goS mi_k74 fz74_55_1_56 [.int l3_1] (by rfl) ?_ | refine ft_go mi_k74 1 56 [(4, .int l4_1), (3, .int l3_1), (0, .ref 49), (1, .ref 1), (2, .ref 114)] [.int l3_1] i1 a1 q1 r1 (by rfl) ?_
        exact ft_ret mi_k74 (by rfl) (hP l3_1 _ _ _ _ hG3 trivial)
      ·
        have c4 : l4_1.toInt ≤ (5 : Int32).toInt := kd_ltF c; clear c
        first | refine fo_goS mi_k74 fz74_11_3_16 [.ref 1, .ref 50] (by rfl) ?_ | refine ft_go mi_k74 3 16 [(4, .int l4_1), (3, .int l3_1), (0, .ref 49), (1, .ref 1), (2, .ref 114)] [.ref 1, .ref 50] i1 a1 q1 r1 (by rfl) ?_
        refine ko_callN mi_k74.1 (pc := 16) (ls := [(4, .int l4_1), (3, .int l3_1), (0, .ref 49), (1, .ref 1), (2, .ref 114)]) (st := [.ref 1, .ref 50]) (h := ks i1 a1 q1 r1) (i := (.invokevirtual 56, 3, 34, 0, 9, 0, 212)) (mi_k74.2 _ _ (by rfl)) (ft_invS mi_pq34 (by rfl)) (cy := mi_c34) mi_pq34 rfl (kc34_50_1 hL1.I hL1.R ) (by decide) ?_
        intro ig5 ag5 qg5 rg5 kg5 hg5
        have hGg5 := kG_call hL1 kg5 (by decide +kernel)
        have hJ6 := kG_i hGg5 3206 rfl (v := l4_1) (kd_bd _)
        first | refine fo_goI mi_k74 fz74_19_5_29 [.ref 49] (ku ig5 3206 l4_1) (by rfl) ?_ | refine ft_go mi_k74 5 29 [(4, .int l4_1), (3, .int l3_1), (0, .ref 49), (1, .ref 1), (2, .ref 114)] [.ref 49] (ku ig5 3206 l4_1) ag5 qg5 rg5 (by rfl) ?_
        refine ko_callN mi_k74.1 (pc := 29) (ls := [(4, .int l4_1), (3, .int l3_1), (0, .ref 49), (1, .ref 1), (2, .ref 114)]) (st := [.ref 49]) (h := ks (ku ig5 3206 l4_1) ag5 qg5 rg5) (i := (.invokevirtual 60, 3, 60, 0, 9, 0, 219)) (mi_k74.2 _ _ (by rfl)) (ft_invS mi_pq60 (by rfl)) (cy := mi_c60) mi_pq60 rfl (kc60_49 hJ6.I hJ6.R ) (by decide) ?_
        intro ig7 ag7 qg7 rg7 kg7 hg7
        have hGg7 := kG_call hJ6 kg7 (by decide +kernel)
        first | refine fo_goS mi_k74 fz74_32_2_34 [.ref 114, .ref 49] (by rfl) ?_ | refine ft_go mi_k74 2 34 [(4, .int l4_1), (3, .int l3_1), (0, .ref 49), (1, .ref 1), (2, .ref 114)] [.ref 114, .ref 49] ig7 ag7 qg7 rg7 (by rfl) ?_
        refine ko_callPI mi_k74.1 (pc := 34) (ls := [(4, .int l4_1), (3, .int l3_1), (0, .ref 49), (1, .ref 1), (2, .ref 114)]) (st := [.ref 114, .ref 49]) (h := ks ig7 ag7 qg7 rg7) (i := (.invokevirtual 126, 3, 73, 0, 9, 0, 265)) (mi_k74.2 _ _ (by rfl)) (ft_invS mi_pq73 (by rfl)) (cy := mi_c73) mi_pq73 rfl (kc73_49_114 hGg7.I hGg7.R ) (by decide) ?_
        intro vg8 hg8
        first | refine fo_goS mi_k74 fz74_37_1_39 [.int (-2), .int vg8] (by rfl) ?_ | refine ft_go mi_k74 1 39 [(4, .int l4_1), (3, .int l3_1), (0, .ref 49), (1, .ref 1), (2, .ref 114)] [.int (-2), .int vg8] ig7 ag7 qg7 rg7 (by rfl) ?_
        refine ft_ifS mi_k74 (vg8 != (-2)) 49 42 [] (by rfl) (fun c => ?_) (fun c => ?_)
        ·
          have c9 : vg8.toInt ≠ ((-2) : Int32).toInt := kd_ne c; clear c
          have s10 : (l4_1 + 1).toInt = l4_1.toInt + (1 : Int32).toInt := kd_add (oz491 p1_0 kn1) (oz1190 c4 kn5 kn1)
          first | refine fo_goL mi_k74 fz74_2_2_5 [(4, .int (l4_1 + 1)), (3, .int l3_1), (0, .ref 49), (1, .ref 1), (2, .ref 114)] [] (by rfl) ?_ | refine fo_goL mi_k74 fz74_49_2_5 [(4, .int (l4_1 + 1)), (3, .int l3_1), (0, .ref 49), (1, .ref 1), (2, .ref 114)] [] (by rfl) ?_ | refine ft_go mi_k74 2 5 [(4, .int (l4_1 + 1)), (3, .int l3_1), (0, .ref 49), (1, .ref 1), (2, .ref 114)] [] ig7 ag7 qg7 rg7 (by rfl) ?_
          exact ih1 _ _ _ _ _ _ hGg7 (oz492 p1_0 s10 kn1) (kj_meas (oz530 s10 kn1) (oz1191 c4 kn5) hm1)
        ·
          have c11 : vg8.toInt = ((-2) : Int32).toInt := kd_neF c; clear c
          have s12 : ((1 : Int) ≤ (1 <<< (l4_1 &&& 31)).toInt) ∧ ((1 <<< (l4_1 &&& 31)).toInt ≤ 256) := kd_shl1 (oz489 p1_0) (oz1192 c4 kn5)
          have s13 : (1 <<< (l4_1 &&& 31)).toInt ≤ 32 := kd_shl32 (oz489 p1_0) (oz1193 c4 kn5)
          have s14 : (l4_1 + 1).toInt = l4_1.toInt + (1 : Int32).toInt := kd_add (oz491 p1_0 kn1) (oz1190 c4 kn5 kn1)
          first | refine ft_goL mi_k74 8 5 [(4, .int (l4_1 + 1)), (3, .int (l3_1 ||| (1 <<< (l4_1 &&& 31)))), (0, .ref 49), (1, .ref 1), (2, .ref 114)] [] (by rfl) ?_ | refine ft_go mi_k74 8 5 [(4, .int (l4_1 + 1)), (3, .int (l3_1 ||| (1 <<< (l4_1 &&& 31)))), (0, .ref 49), (1, .ref 1), (2, .ref 114)] [] ig7 ag7 qg7 rg7 (by rfl) ?_
          exact ih1 _ _ _ _ _ _ hGg7 (oz492 p1_0 s14 kn1) (kj_meas (oz530 s14 kn1) (oz1191 c4 kn5) hm1)
  exact lp1 _ _ _ _ _ _ _ (kG_self _ hG.I hG.R) (oz494 kn1) (Nat.lt_succ_self _)
def w98_0 : kW := ([645, 3138, 3200, 3206, 3207, 3208, 3209, 3214, 3215, 3216, 3586, 3781, 6405], [13, 51, 52, 53, 54, 55, 57, 58, 62, 63, 65, 66, 67, 68, 69, 70, 71, 72, 73, 74, 75, 76, 77, 103], [], [1])
set_option maxRecDepth 100000 in
theorem kc98_0 {i : Nat → Int32} {a : Nat → List Int32} {q : Nat → List Int64} {r : Nat → Nat} (hI : kI i a q) (hr : kr r) (x1 : Int32) (x2 : Int32) (x3 : Int32) : km 13 98 [.ref 0, .int x1, .int x2, .int x3] (ks i a q r) (kVI w98_0 i a q r (fun v i1 a1 q1 r1 => True)) := by
  have hG := kG_self w98_0 hI hr
  refine km_ofI (q := (mi_h98, mi_c98)) rfl (by decide) (Nat.le_of_ble_eq_true rfl) ?_
  intro P hP
  first | refine ft_goL mi_k98 1 1 [(0, .ref 0), (1, .int x1), (2, .int x2), (3, .int x3)] [.int x1] (by rfl) ?_ | refine ft_go mi_k98 1 1 [(0, .ref 0), (1, .int x1), (2, .int x2), (3, .int x3)] [.int x1] i a q r (by rfl) ?_ | refine ko_steps mi_in98 1 _ (1, [(0, .ref 0), (1, .int x1), (2, .int x2), (3, .int x3)], [.int x1], (0, 0), ks i a q r) (by rfl) ?_
  refine ko_callPI mi_k98.1 (pc := 1) (ls := [(0, .ref 0), (1, .int x1), (2, .int x2), (3, .int x3)]) (st := [.int x1]) (h := ks i a q r) (i := (.invokestatic 214, 3, 122, 0, 9, 0, 260)) (mi_k98.2 _ _ (by rfl)) (ft_invS mi_pq122 (by rfl)) (cy := mi_c122) mi_pq122 rfl (kc122 hG.I hG.R x1) (by decide) ?_
  intro vg1 hg1
  rcases hg1 with ⟨eg1, hg1⟩ | ⟨eg1, hg1⟩
  ·
    subst eg1
    have z2 : ((0 : Int) ≤ x1.toInt) ∧ (((0 : Int) ≤ (x1.toInt / 10)) ∧ ((x1.toInt / 10) ≤ 5)) ∧ ((x1.toInt % 10) ≤ 5) := hg1
    first | refine ft_goS mi_k98 4 10 [.int 3, .int 0, .int x3] (by rfl) ?_ | refine ft_go mi_k98 4 10 [(0, .ref 0), (1, .int x1), (2, .int x2), (3, .int x3)] [.int 3, .int 0, .int x3] i a q r (by rfl) ?_ | refine ko_steps mi_in98 4 _ (10, [(0, .ref 0), (1, .int x1), (2, .int x2), (3, .int x3)], [.int 3, .int 0, .int x3], (0, 0), ks i a q r) (by rfl) ?_
    refine ko_callPI mi_k98.1 (pc := 10) (ls := [(0, .ref 0), (1, .int x1), (2, .int x2), (3, .int x3)]) (st := [.int 3, .int 0, .int x3]) (h := ks i a q r) (i := (.invokestatic 74, 3, 120, 0, 9, 0, 152)) (mi_k98.2 _ _ (by rfl)) (ft_invS mi_pq120 (by rfl)) (cy := mi_c120) mi_pq120 rfl (kc120 hG.I hG.R x3 0 3) (by decide) ?_
    intro vg3 hg3
    rcases hg3 with ⟨eg3, hg3⟩ | ⟨eg3, hg3⟩
    ·
      subst eg3
      have z4 : ((0 : Int32).toInt ≤ x3.toInt) ∧ (x3.toInt ≤ (3 : Int32).toInt) := hg3
      first | refine ft_goS mi_k98 2 17 [.int x2] (by rfl) ?_ | refine ft_go mi_k98 2 17 [(0, .ref 0), (1, .int x1), (2, .int x2), (3, .int x3)] [.int x2] i a q r (by rfl) ?_ | refine ko_steps mi_in98 2 _ (17, [(0, .ref 0), (1, .int x1), (2, .int x2), (3, .int x3)], [.int x2], (0, 0), ks i a q r) (by rfl) ?_
      refine ft_ifS mi_k98 (decide (0 ≤ x2)) 22 20 [] (by rfl) (fun c => ?_) (fun c => ?_)
      ·
        have c5 : (0 : Int32).toInt ≤ x2.toInt := kd_le c; clear c
        first | refine ft_goS mi_k98 1 23 [.int x3] (by rfl) ?_ | refine ft_go mi_k98 1 23 [(0, .ref 0), (1, .int x1), (2, .int x2), (3, .int x3)] [.int x3] i a q r (by rfl) ?_ | refine ko_steps mi_in98 1 _ (23, [(0, .ref 0), (1, .int x1), (2, .int x2), (3, .int x3)], [.int x3], (0, 0), ks i a q r) (by rfl) ?_
        refine ft_ifS mi_k98 (x3 != 0) 30 26 [] (by rfl) (fun c => ?_) (fun c => ?_)
        ·
          have c6 : x3.toInt ≠ (0 : Int32).toInt := kd_ne c; clear c
          first | refine ft_goS mi_k98 2 32 [.int 2, .int x3] (by rfl) ?_ | refine ft_go mi_k98 2 32 [(0, .ref 0), (1, .int x1), (2, .int x2), (3, .int x3)] [.int 2, .int x3] i a q r (by rfl) ?_ | refine ko_steps mi_in98 2 _ (32, [(0, .ref 0), (1, .int x1), (2, .int x2), (3, .int x3)], [.int 2, .int x3], (0, 0), ks i a q r) (by rfl) ?_
          refine ft_ifS mi_k98 (decide (x3 < 2)) 45 35 [] (by rfl) (fun c => ?_) (fun c => ?_)
          ·
            have c7 : x3.toInt < (2 : Int32).toInt := kd_lt c; clear c
            have s8 : (x1 / 10).toInt = (x1.toInt / 10) := kd_div 10 kn10 (by decide) (oz3 z2.1)
            first | refine fo_goS mi_k98 fz98_45_4_50 [.int (x1 / 10), .ref 0] (by rfl) ?_ | refine ft_go mi_k98 4 50 [(0, .ref 0), (1, .int x1), (2, .int x2), (3, .int x3)] [.int (x1 / 10), .ref 0] i a q r (by rfl) ?_ | refine ko_steps mi_in98 4 _ (50, [(0, .ref 0), (1, .int x1), (2, .int x2), (3, .int x3)], [.int (x1 / 10), .ref 0], (0, 0), ks i a q r) (by rfl) ?_
            refine ko_callI mi_k98.1 (pc := 50) (ls := [(0, .ref 0), (1, .int x1), (2, .int x2), (3, .int x3)]) (st := [.int (x1 / 10), .ref 0]) (h := ks i a q r) (i := (.invokevirtual 144, 3, 129, 0, 9, 0, 208)) (mi_k98.2 _ _ (by rfl)) (ft_invS mi_pq129 (by rfl)) (cy := mi_c129) mi_pq129 rfl (kc129_0 hG.I hG.R (x1 / 10)) (by decide) ?_
            intro vg9 ig9 ag9 qg9 rg9 kg9 hg9
            have hGg9 := kG_call hG kg9 (by decide +kernel)
            first | refine fo_goL mi_k98 fz98_53_2_57 [(4, .int vg9), (0, .ref 0), (1, .int x1), (2, .int x2), (3, .int x3)] [.int vg9] (by rfl) ?_ | refine ft_go mi_k98 2 57 [(4, .int vg9), (0, .ref 0), (1, .int x1), (2, .int x2), (3, .int x3)] [.int vg9] ig9 ag9 qg9 rg9 (by rfl) ?_ | refine ko_steps mi_in98 2 _ (57, [(4, .int vg9), (0, .ref 0), (1, .int x1), (2, .int x2), (3, .int x3)], [.int vg9], (0, 0), ks ig9 ag9 qg9 rg9) (by rfl) ?_
            refine ft_ifS mi_k98 (decide (0 ≤ vg9)) 63 60 [] (by rfl) (fun c => ?_) (fun c => ?_)
            ·
              have c11 : (0 : Int32).toInt ≤ vg9.toInt := kd_le c; clear c
              first | refine fo_goS mi_k98 fz98_63_2_65 [.int 1, .int x3] (by rfl) ?_ | refine ft_go mi_k98 2 65 [(4, .int vg9), (0, .ref 0), (1, .int x1), (2, .int x2), (3, .int x3)] [.int 1, .int x3] ig9 ag9 qg9 rg9 (by rfl) ?_ | refine ko_steps mi_in98 2 _ (65, [(4, .int vg9), (0, .ref 0), (1, .int x1), (2, .int x2), (3, .int x3)], [.int 1, .int x3], (0, 0), ks ig9 ag9 qg9 rg9) (by rfl) ?_
              refine ft_ifS mi_k98 (x3 != 1) 81 68 [] (by rfl) (fun c => ?_) (fun c => ?_)
              ·
                have c12 : x3.toInt ≠ (1 : Int32).toInt := kd_ne c; clear c
                exact (oz1173 c12 c6 c7 z4.1 kn1 kn0 kn2).elim
              ·
                have c13 : x3.toInt = (1 : Int32).toInt := kd_neF c; clear c
                have fig9_3138 : ((0 : Int) ≤ (ig9 3138).toInt) ∧ ((ig9 3138).toInt ≤ 20) := hGg9.I.1 3138
                first | refine ft_goS mi_k98 4 76 [.int (ig9 3138), .int x2] (by rfl) ?_ | refine ft_go mi_k98 4 76 [(4, .int vg9), (0, .ref 0), (1, .int x1), (2, .int x2), (3, .int x3)] [.int (ig9 3138), .int x2] ig9 ag9 qg9 rg9 (by rfl) ?_ | refine ko_steps mi_in98 4 _ (76, [(4, .int vg9), (0, .ref 0), (1, .int x1), (2, .int x2), (3, .int x3)], [.int (ig9 3138), .int x2], (0, 0), ks ig9 ag9 qg9 rg9) (by rfl) ?_
                refine ft_ifS mi_k98 (decide (x2 < (ig9 3138))) 81 79 [] (by rfl) (fun c => ?_) (fun c => ?_)
                ·
                  have c14 : x2.toInt < (ig9 3138).toInt := kd_lt c; clear c
                  have s15 : (x1 - x1 / 10 * 10).toInt = (x1.toInt % 10) := kd_rem 10 kn10 (by decide) (oz3 z2.1)
                  first | refine fo_goS mi_k98 fz98_81_4_86 [.int (x1 - x1 / 10 * 10), .ref 0] (by rfl) ?_ | refine ft_go mi_k98 4 86 [(4, .int vg9), (0, .ref 0), (1, .int x1), (2, .int x2), (3, .int x3)] [.int (x1 - x1 / 10 * 10), .ref 0] ig9 ag9 qg9 rg9 (by rfl) ?_ | refine ko_steps mi_in98 4 _ (86, [(4, .int vg9), (0, .ref 0), (1, .int x1), (2, .int x2), (3, .int x3)], [.int (x1 - x1 / 10 * 10), .ref 0], (0, 0), ks ig9 ag9 qg9 rg9) (by rfl) ?_
                  refine ko_callPI mi_k98.1 (pc := 86) (ls := [(4, .int vg9), (0, .ref 0), (1, .int x1), (2, .int x2), (3, .int x3)]) (st := [.int (x1 - x1 / 10 * 10), .ref 0]) (h := ks ig9 ag9 qg9 rg9) (i := (.invokevirtual 217, 3, 127, 0, 9, 0, 209)) (mi_k98.2 _ _ (by rfl)) (ft_invS mi_pq127 (by rfl)) (cy := mi_c127) mi_pq127 rfl (kc127_0 hGg9.I hGg9.R (x1 - x1 / 10 * 10)) (by decide) ?_
                  intro vg16 hg16
                  first | refine fo_goL mi_k98 fz98_89_2_93 [(4, .int vg16), (0, .ref 0), (1, .int x1), (2, .int x2), (3, .int x3)] [.int vg16] (by rfl) ?_ | refine ft_go mi_k98 2 93 [(4, .int vg16), (0, .ref 0), (1, .int x1), (2, .int x2), (3, .int x3)] [.int vg16] ig9 ag9 qg9 rg9 (by rfl) ?_ | refine ko_steps mi_in98 2 _ (93, [(4, .int vg16), (0, .ref 0), (1, .int x1), (2, .int x2), (3, .int x3)], [.int vg16], (0, 0), ks ig9 ag9 qg9 rg9) (by rfl) ?_
                  refine ft_ifS mi_k98 (decide (0 ≤ vg16)) 99 96 [] (by rfl) (fun c => ?_) (fun c => ?_)
                  ·
                    have c18 : (0 : Int32).toInt ≤ vg16.toInt := kd_le c; clear c
                    first | refine fo_goS mi_k98 fz98_99_5_107 [.int (x1 - x1 / 10 * 10), .ref 97] (by rfl) ?_ | refine ft_go mi_k98 5 107 [(4, .int vg16), (0, .ref 0), (1, .int x1), (2, .int x2), (3, .int x3)] [.int (x1 - x1 / 10 * 10), .ref 97] ig9 ag9 qg9 rg9 (by rfl) ?_ | refine ko_steps mi_in98 5 _ (107, [(4, .int vg16), (0, .ref 0), (1, .int x1), (2, .int x2), (3, .int x3)], [.int (x1 - x1 / 10 * 10), .ref 97], (0, 0), ks ig9 ag9 qg9 rg9) (by rfl) ?_
                    by_cases w19 : (x1 - x1 / 10 * 10).toInt = 0
                    ·
                      refine ft_alx mi_k98 (pc := 107) (v := 0) (p := 97) (z := 104) (kj_eq w19 (by decide) : (x1 - x1 / 10 * 10) = 0) (by decide +kernel) (by decide +kernel) ?_
                      first | refine fo_goL mi_k98 fz98_108_2_111 [(5, .ref 104), (4, .int vg16), (0, .ref 0), (1, .int x1), (2, .int x2), (3, .int x3)] [.int x3] (by rfl) ?_ | refine ft_go mi_k98 2 111 [(5, .ref 104), (4, .int vg16), (0, .ref 0), (1, .int x1), (2, .int x2), (3, .int x3)] [.int x3] ig9 ag9 qg9 rg9 (by rfl) ?_ | refine ko_steps mi_in98 2 _ (111, [(5, .ref 104), (4, .int vg16), (0, .ref 0), (1, .int x1), (2, .int x2), (3, .int x3)], [.int x3], (0, 0), ks ig9 ag9 qg9 rg9) (by rfl) ?_
                      have w20 : ¬ (x3.toInt = 0) := (oz1174 c13 kn1)
                      by_cases w21 : x3.toInt = 1
                      ·
                        refine ft_swx mi_k98 (pc := 111) (v := 1) (t := 150) (kj_eq w21 (by decide) : x3 = 1) (by decide +kernel) ?_
                        first | refine fo_goS mi_k98 fz98_150_6_161 [.int x2, .ref 104, .ref 1, .ref 49] (by rfl) ?_ | refine ft_go mi_k98 6 161 [(5, .ref 104), (4, .int vg16), (0, .ref 0), (1, .int x1), (2, .int x2), (3, .int x3)] [.int x2, .ref 104, .ref 1, .ref 49] ig9 ag9 qg9 rg9 (by rfl) ?_ | refine ko_steps mi_in98 6 _ (161, [(5, .ref 104), (4, .int vg16), (0, .ref 0), (1, .int x1), (2, .int x2), (3, .int x3)], [.int x2, .ref 104, .ref 1, .ref 49], (0, 0), ks ig9 ag9 qg9 rg9) (by rfl) ?_
                        refine ko_callI mi_k98.1 (pc := 161) (ls := [(5, .ref 104), (4, .int vg16), (0, .ref 0), (1, .int x1), (2, .int x2), (3, .int x3)]) (st := [.int x2, .ref 104, .ref 1, .ref 49]) (h := ks ig9 ag9 qg9 rg9) (i := (.invokevirtual 228, 3, 75, 0, 9, 0, 266)) (mi_k98.2 _ _ (by rfl)) (ft_invS mi_pq75 (by rfl)) (cy := mi_c75) mi_pq75 rfl (kc75_49_1_104 hGg9.I hGg9.R x2 (oz1176 c14 c5 fig9_3138.2 kn0)) (by decide) ?_
                        intro vg22 ig22 ag22 qg22 rg22 kg22 hg22
                        have hGg22 := kG_call hGg9 kg22 (by decide +kernel)
                        exact ft_ret mi_k98 (by rfl) (hP vg22 _ _ _ _ hGg22 trivial)
                      have w23 : ¬ (x3.toInt = 2) := (oz1177 c13 c7 w21 kn1 kn2)
                      exact (oz1178 c13 c7 w21 kn1 kn2).elim
                    by_cases w24 : (x1 - x1 / 10 * 10).toInt = 1
                    ·
                      refine ft_alx mi_k98 (pc := 107) (v := 1) (p := 97) (z := 106) (kj_eq w24 (by decide) : (x1 - x1 / 10 * 10) = 1) (by decide +kernel) (by decide +kernel) ?_
                      first | refine fo_goL mi_k98 fz98_108_2_111 [(5, .ref 106), (4, .int vg16), (0, .ref 0), (1, .int x1), (2, .int x2), (3, .int x3)] [.int x3] (by rfl) ?_ | refine ft_go mi_k98 2 111 [(5, .ref 106), (4, .int vg16), (0, .ref 0), (1, .int x1), (2, .int x2), (3, .int x3)] [.int x3] ig9 ag9 qg9 rg9 (by rfl) ?_ | refine ko_steps mi_in98 2 _ (111, [(5, .ref 106), (4, .int vg16), (0, .ref 0), (1, .int x1), (2, .int x2), (3, .int x3)], [.int x3], (0, 0), ks ig9 ag9 qg9 rg9) (by rfl) ?_
                      have w25 : ¬ (x3.toInt = 0) := (oz1174 c13 kn1)
                      by_cases w26 : x3.toInt = 1
                      ·
                        refine ft_swx mi_k98 (pc := 111) (v := 1) (t := 150) (kj_eq w26 (by decide) : x3 = 1) (by decide +kernel) ?_
                        first | refine fo_goS mi_k98 fz98_150_6_161 [.int x2, .ref 106, .ref 1, .ref 49] (by rfl) ?_ | refine ft_go mi_k98 6 161 [(5, .ref 106), (4, .int vg16), (0, .ref 0), (1, .int x1), (2, .int x2), (3, .int x3)] [.int x2, .ref 106, .ref 1, .ref 49] ig9 ag9 qg9 rg9 (by rfl) ?_ | refine ko_steps mi_in98 6 _ (161, [(5, .ref 106), (4, .int vg16), (0, .ref 0), (1, .int x1), (2, .int x2), (3, .int x3)], [.int x2, .ref 106, .ref 1, .ref 49], (0, 0), ks ig9 ag9 qg9 rg9) (by rfl) ?_
                        refine ko_callI mi_k98.1 (pc := 161) (ls := [(5, .ref 106), (4, .int vg16), (0, .ref 0), (1, .int x1), (2, .int x2), (3, .int x3)]) (st := [.int x2, .ref 106, .ref 1, .ref 49]) (h := ks ig9 ag9 qg9 rg9) (i := (.invokevirtual 228, 3, 75, 0, 9, 0, 266)) (mi_k98.2 _ _ (by rfl)) (ft_invS mi_pq75 (by rfl)) (cy := mi_c75) mi_pq75 rfl (kc75_49_1_106 hGg9.I hGg9.R x2 (oz1176 c14 c5 fig9_3138.2 kn0)) (by decide) ?_
                        intro vg27 ig27 ag27 qg27 rg27 kg27 hg27
                        have hGg27 := kG_call hGg9 kg27 (by decide +kernel)
                        exact ft_ret mi_k98 (by rfl) (hP vg27 _ _ _ _ hGg27 trivial)
                      have w28 : ¬ (x3.toInt = 2) := (oz1177 c13 c7 w26 kn1 kn2)
                      exact (oz1178 c13 c7 w26 kn1 kn2).elim
                    by_cases w29 : (x1 - x1 / 10 * 10).toInt = 2
                    ·
                      refine ft_alx mi_k98 (pc := 107) (v := 2) (p := 97) (z := 108) (kj_eq w29 (by decide) : (x1 - x1 / 10 * 10) = 2) (by decide +kernel) (by decide +kernel) ?_
                      first | refine fo_goL mi_k98 fz98_108_2_111 [(5, .ref 108), (4, .int vg16), (0, .ref 0), (1, .int x1), (2, .int x2), (3, .int x3)] [.int x3] (by rfl) ?_ | refine ft_go mi_k98 2 111 [(5, .ref 108), (4, .int vg16), (0, .ref 0), (1, .int x1), (2, .int x2), (3, .int x3)] [.int x3] ig9 ag9 qg9 rg9 (by rfl) ?_ | refine ko_steps mi_in98 2 _ (111, [(5, .ref 108), (4, .int vg16), (0, .ref 0), (1, .int x1), (2, .int x2), (3, .int x3)], [.int x3], (0, 0), ks ig9 ag9 qg9 rg9) (by rfl) ?_
                      have w30 : ¬ (x3.toInt = 0) := (oz1174 c13 kn1)
                      by_cases w31 : x3.toInt = 1
                      ·
                        refine ft_swx mi_k98 (pc := 111) (v := 1) (t := 150) (kj_eq w31 (by decide) : x3 = 1) (by decide +kernel) ?_
                        first | refine fo_goS mi_k98 fz98_150_6_161 [.int x2, .ref 108, .ref 1, .ref 49] (by rfl) ?_ | refine ft_go mi_k98 6 161 [(5, .ref 108), (4, .int vg16), (0, .ref 0), (1, .int x1), (2, .int x2), (3, .int x3)] [.int x2, .ref 108, .ref 1, .ref 49] ig9 ag9 qg9 rg9 (by rfl) ?_ | refine ko_steps mi_in98 6 _ (161, [(5, .ref 108), (4, .int vg16), (0, .ref 0), (1, .int x1), (2, .int x2), (3, .int x3)], [.int x2, .ref 108, .ref 1, .ref 49], (0, 0), ks ig9 ag9 qg9 rg9) (by rfl) ?_
                        refine ko_callI mi_k98.1 (pc := 161) (ls := [(5, .ref 108), (4, .int vg16), (0, .ref 0), (1, .int x1), (2, .int x2), (3, .int x3)]) (st := [.int x2, .ref 108, .ref 1, .ref 49]) (h := ks ig9 ag9 qg9 rg9) (i := (.invokevirtual 228, 3, 75, 0, 9, 0, 266)) (mi_k98.2 _ _ (by rfl)) (ft_invS mi_pq75 (by rfl)) (cy := mi_c75) mi_pq75 rfl (kc75_49_1_108 hGg9.I hGg9.R x2 (oz1176 c14 c5 fig9_3138.2 kn0)) (by decide) ?_
                        intro vg32 ig32 ag32 qg32 rg32 kg32 hg32
                        have hGg32 := kG_call hGg9 kg32 (by decide +kernel)
                        exact ft_ret mi_k98 (by rfl) (hP vg32 _ _ _ _ hGg32 trivial)
                      have w33 : ¬ (x3.toInt = 2) := (oz1177 c13 c7 w31 kn1 kn2)
                      exact (oz1178 c13 c7 w31 kn1 kn2).elim
                    by_cases w34 : (x1 - x1 / 10 * 10).toInt = 3
                    ·
                      refine ft_alx mi_k98 (pc := 107) (v := 3) (p := 97) (z := 110) (kj_eq w34 (by decide) : (x1 - x1 / 10 * 10) = 3) (by decide +kernel) (by decide +kernel) ?_
                      first | refine fo_goL mi_k98 fz98_108_2_111 [(5, .ref 110), (4, .int vg16), (0, .ref 0), (1, .int x1), (2, .int x2), (3, .int x3)] [.int x3] (by rfl) ?_ | refine ft_go mi_k98 2 111 [(5, .ref 110), (4, .int vg16), (0, .ref 0), (1, .int x1), (2, .int x2), (3, .int x3)] [.int x3] ig9 ag9 qg9 rg9 (by rfl) ?_ | refine ko_steps mi_in98 2 _ (111, [(5, .ref 110), (4, .int vg16), (0, .ref 0), (1, .int x1), (2, .int x2), (3, .int x3)], [.int x3], (0, 0), ks ig9 ag9 qg9 rg9) (by rfl) ?_
                      have w35 : ¬ (x3.toInt = 0) := (oz1174 c13 kn1)
                      by_cases w36 : x3.toInt = 1
                      ·
                        refine ft_swx mi_k98 (pc := 111) (v := 1) (t := 150) (kj_eq w36 (by decide) : x3 = 1) (by decide +kernel) ?_
                        first | refine fo_goS mi_k98 fz98_150_6_161 [.int x2, .ref 110, .ref 1, .ref 49] (by rfl) ?_ | refine ft_go mi_k98 6 161 [(5, .ref 110), (4, .int vg16), (0, .ref 0), (1, .int x1), (2, .int x2), (3, .int x3)] [.int x2, .ref 110, .ref 1, .ref 49] ig9 ag9 qg9 rg9 (by rfl) ?_ | refine ko_steps mi_in98 6 _ (161, [(5, .ref 110), (4, .int vg16), (0, .ref 0), (1, .int x1), (2, .int x2), (3, .int x3)], [.int x2, .ref 110, .ref 1, .ref 49], (0, 0), ks ig9 ag9 qg9 rg9) (by rfl) ?_
                        refine ko_callI mi_k98.1 (pc := 161) (ls := [(5, .ref 110), (4, .int vg16), (0, .ref 0), (1, .int x1), (2, .int x2), (3, .int x3)]) (st := [.int x2, .ref 110, .ref 1, .ref 49]) (h := ks ig9 ag9 qg9 rg9) (i := (.invokevirtual 228, 3, 75, 0, 9, 0, 266)) (mi_k98.2 _ _ (by rfl)) (ft_invS mi_pq75 (by rfl)) (cy := mi_c75) mi_pq75 rfl (kc75_49_1_110 hGg9.I hGg9.R x2 (oz1176 c14 c5 fig9_3138.2 kn0)) (by decide) ?_
                        intro vg37 ig37 ag37 qg37 rg37 kg37 hg37
                        have hGg37 := kG_call hGg9 kg37 (by decide +kernel)
                        exact ft_ret mi_k98 (by rfl) (hP vg37 _ _ _ _ hGg37 trivial)
                      have w38 : ¬ (x3.toInt = 2) := (oz1177 c13 c7 w36 kn1 kn2)
                      exact (oz1178 c13 c7 w36 kn1 kn2).elim
                    by_cases w39 : (x1 - x1 / 10 * 10).toInt = 4
                    ·
                      refine ft_alx mi_k98 (pc := 107) (v := 4) (p := 97) (z := 112) (kj_eq w39 (by decide) : (x1 - x1 / 10 * 10) = 4) (by decide +kernel) (by decide +kernel) ?_
                      first | refine fo_goL mi_k98 fz98_108_2_111 [(5, .ref 112), (4, .int vg16), (0, .ref 0), (1, .int x1), (2, .int x2), (3, .int x3)] [.int x3] (by rfl) ?_ | refine ft_go mi_k98 2 111 [(5, .ref 112), (4, .int vg16), (0, .ref 0), (1, .int x1), (2, .int x2), (3, .int x3)] [.int x3] ig9 ag9 qg9 rg9 (by rfl) ?_ | refine ko_steps mi_in98 2 _ (111, [(5, .ref 112), (4, .int vg16), (0, .ref 0), (1, .int x1), (2, .int x2), (3, .int x3)], [.int x3], (0, 0), ks ig9 ag9 qg9 rg9) (by rfl) ?_
                      have w40 : ¬ (x3.toInt = 0) := (oz1174 c13 kn1)
                      by_cases w41 : x3.toInt = 1
                      ·
                        refine ft_swx mi_k98 (pc := 111) (v := 1) (t := 150) (kj_eq w41 (by decide) : x3 = 1) (by decide +kernel) ?_
                        first | refine fo_goS mi_k98 fz98_150_6_161 [.int x2, .ref 112, .ref 1, .ref 49] (by rfl) ?_ | refine ft_go mi_k98 6 161 [(5, .ref 112), (4, .int vg16), (0, .ref 0), (1, .int x1), (2, .int x2), (3, .int x3)] [.int x2, .ref 112, .ref 1, .ref 49] ig9 ag9 qg9 rg9 (by rfl) ?_ | refine ko_steps mi_in98 6 _ (161, [(5, .ref 112), (4, .int vg16), (0, .ref 0), (1, .int x1), (2, .int x2), (3, .int x3)], [.int x2, .ref 112, .ref 1, .ref 49], (0, 0), ks ig9 ag9 qg9 rg9) (by rfl) ?_
                        refine ko_callI mi_k98.1 (pc := 161) (ls := [(5, .ref 112), (4, .int vg16), (0, .ref 0), (1, .int x1), (2, .int x2), (3, .int x3)]) (st := [.int x2, .ref 112, .ref 1, .ref 49]) (h := ks ig9 ag9 qg9 rg9) (i := (.invokevirtual 228, 3, 75, 0, 9, 0, 266)) (mi_k98.2 _ _ (by rfl)) (ft_invS mi_pq75 (by rfl)) (cy := mi_c75) mi_pq75 rfl (kc75_49_1_112 hGg9.I hGg9.R x2 (oz1176 c14 c5 fig9_3138.2 kn0)) (by decide) ?_
                        intro vg42 ig42 ag42 qg42 rg42 kg42 hg42
                        have hGg42 := kG_call hGg9 kg42 (by decide +kernel)
                        exact ft_ret mi_k98 (by rfl) (hP vg42 _ _ _ _ hGg42 trivial)
                      have w43 : ¬ (x3.toInt = 2) := (oz1177 c13 c7 w41 kn1 kn2)
                      exact (oz1178 c13 c7 w41 kn1 kn2).elim
                    by_cases w44 : (x1 - x1 / 10 * 10).toInt = 5
                    ·
                      refine ft_alx mi_k98 (pc := 107) (v := 5) (p := 97) (z := 114) (kj_eq w44 (by decide) : (x1 - x1 / 10 * 10) = 5) (by decide +kernel) (by decide +kernel) ?_
                      first | refine fo_goL mi_k98 fz98_108_2_111 [(5, .ref 114), (4, .int vg16), (0, .ref 0), (1, .int x1), (2, .int x2), (3, .int x3)] [.int x3] (by rfl) ?_ | refine ft_go mi_k98 2 111 [(5, .ref 114), (4, .int vg16), (0, .ref 0), (1, .int x1), (2, .int x2), (3, .int x3)] [.int x3] ig9 ag9 qg9 rg9 (by rfl) ?_ | refine ko_steps mi_in98 2 _ (111, [(5, .ref 114), (4, .int vg16), (0, .ref 0), (1, .int x1), (2, .int x2), (3, .int x3)], [.int x3], (0, 0), ks ig9 ag9 qg9 rg9) (by rfl) ?_
                      have w45 : ¬ (x3.toInt = 0) := (oz1174 c13 kn1)
                      by_cases w46 : x3.toInt = 1
                      ·
                        refine ft_swx mi_k98 (pc := 111) (v := 1) (t := 150) (kj_eq w46 (by decide) : x3 = 1) (by decide +kernel) ?_
                        first | refine fo_goS mi_k98 fz98_150_6_161 [.int x2, .ref 114, .ref 1, .ref 49] (by rfl) ?_ | refine ft_go mi_k98 6 161 [(5, .ref 114), (4, .int vg16), (0, .ref 0), (1, .int x1), (2, .int x2), (3, .int x3)] [.int x2, .ref 114, .ref 1, .ref 49] ig9 ag9 qg9 rg9 (by rfl) ?_ | refine ko_steps mi_in98 6 _ (161, [(5, .ref 114), (4, .int vg16), (0, .ref 0), (1, .int x1), (2, .int x2), (3, .int x3)], [.int x2, .ref 114, .ref 1, .ref 49], (0, 0), ks ig9 ag9 qg9 rg9) (by rfl) ?_
                        refine ko_callI mi_k98.1 (pc := 161) (ls := [(5, .ref 114), (4, .int vg16), (0, .ref 0), (1, .int x1), (2, .int x2), (3, .int x3)]) (st := [.int x2, .ref 114, .ref 1, .ref 49]) (h := ks ig9 ag9 qg9 rg9) (i := (.invokevirtual 228, 3, 75, 0, 9, 0, 266)) (mi_k98.2 _ _ (by rfl)) (ft_invS mi_pq75 (by rfl)) (cy := mi_c75) mi_pq75 rfl (kc75_49_1_114 hGg9.I hGg9.R x2 (oz1176 c14 c5 fig9_3138.2 kn0)) (by decide) ?_
                        intro vg47 ig47 ag47 qg47 rg47 kg47 hg47
                        have hGg47 := kG_call hGg9 kg47 (by decide +kernel)
                        exact ft_ret mi_k98 (by rfl) (hP vg47 _ _ _ _ hGg47 trivial)
                      have w48 : ¬ (x3.toInt = 2) := (oz1177 c13 c7 w46 kn1 kn2)
                      exact (oz1178 c13 c7 w46 kn1 kn2).elim
                    exact (oz1172 s15 w19 w24 w29 w34 w39 w44 z2.2.2).elim
                  ·
                    have c49 : vg16.toInt < (0 : Int32).toInt := kd_leF c; clear c
                    first | refine ft_goS mi_k98 1 98 [.int vg16] (by rfl) ?_ | refine ft_go mi_k98 1 98 [(4, .int vg16), (0, .ref 0), (1, .int x1), (2, .int x2), (3, .int x3)] [.int vg16] ig9 ag9 qg9 rg9 (by rfl) ?_ | refine ko_steps mi_in98 1 _ (98, [(4, .int vg16), (0, .ref 0), (1, .int x1), (2, .int x2), (3, .int x3)], [.int vg16], (0, 0), ks ig9 ag9 qg9 rg9) (by rfl) ?_
                    exact ft_ret mi_k98 (by rfl) (hP vg16 _ _ _ _ hGg9 trivial)
                ·
                  have c50 : (ig9 3138).toInt ≤ x2.toInt := kd_ltF c; clear c
                  first | refine ft_goS mi_k98 1 80 [.int (-1)] (by rfl) ?_ | refine ft_go mi_k98 1 80 [(4, .int vg9), (0, .ref 0), (1, .int x1), (2, .int x2), (3, .int x3)] [.int (-1)] ig9 ag9 qg9 rg9 (by rfl) ?_ | refine ko_steps mi_in98 1 _ (80, [(4, .int vg9), (0, .ref 0), (1, .int x1), (2, .int x2), (3, .int x3)], [.int (-1)], (0, 0), ks ig9 ag9 qg9 rg9) (by rfl) ?_
                  exact ft_ret mi_k98 (by rfl) (hP (-1) _ _ _ _ hGg9 trivial)
            ·
              have c51 : vg9.toInt < (0 : Int32).toInt := kd_leF c; clear c
              first | refine ft_goS mi_k98 1 62 [.int vg9] (by rfl) ?_ | refine ft_go mi_k98 1 62 [(4, .int vg9), (0, .ref 0), (1, .int x1), (2, .int x2), (3, .int x3)] [.int vg9] ig9 ag9 qg9 rg9 (by rfl) ?_ | refine ko_steps mi_in98 1 _ (62, [(4, .int vg9), (0, .ref 0), (1, .int x1), (2, .int x2), (3, .int x3)], [.int vg9], (0, 0), ks ig9 ag9 qg9 rg9) (by rfl) ?_
              exact ft_ret mi_k98 (by rfl) (hP vg9 _ _ _ _ hGg9 trivial)
          ·
            have c52 : (2 : Int32).toInt ≤ x3.toInt := kd_ltF c; clear c
            first | refine ft_goS mi_k98 2 37 [.int x2, .ref 0] (by rfl) ?_ | refine ft_go mi_k98 2 37 [(0, .ref 0), (1, .int x1), (2, .int x2), (3, .int x3)] [.int x2, .ref 0] i a q r (by rfl) ?_ | refine ko_steps mi_in98 2 _ (37, [(0, .ref 0), (1, .int x1), (2, .int x2), (3, .int x3)], [.int x2, .ref 0], (0, 0), ks i a q r) (by rfl) ?_
            refine ko_callPI mi_k98.1 (pc := 37) (ls := [(0, .ref 0), (1, .int x1), (2, .int x2), (3, .int x3)]) (st := [.int x2, .ref 0]) (h := ks i a q r) (i := (.invokevirtual 141, 3, 123, 0, 9, 0, 162)) (mi_k98.2 _ _ (by rfl)) (ft_invS mi_pq123 (by rfl)) (cy := mi_c123) mi_pq123 rfl (kc123_0 hG.I hG.R x2) (by decide) ?_
            intro vg53 hg53
            rcases hg53 with ⟨eg53, hg53⟩ | ⟨eg53, hg53⟩
            ·
              subst eg53
              have s55 : (x1 / 10).toInt = (x1.toInt / 10) := kd_div 10 kn10 (by decide) (oz3 z2.1)
              first | refine fo_goS mi_k98 fz98_40_5_50 [.int (x1 / 10), .ref 0] (by rfl) ?_ | refine ft_goS mi_k98 5 50 [.int (x1 / 10), .ref 0] (by rfl) ?_ | refine ft_go mi_k98 5 50 [(0, .ref 0), (1, .int x1), (2, .int x2), (3, .int x3)] [.int (x1 / 10), .ref 0] i a q r (by rfl) ?_ | refine ko_steps mi_in98 5 _ (50, [(0, .ref 0), (1, .int x1), (2, .int x2), (3, .int x3)], [.int (x1 / 10), .ref 0], (0, 0), ks i a q r) (by rfl) ?_
              refine ko_callI mi_k98.1 (pc := 50) (ls := [(0, .ref 0), (1, .int x1), (2, .int x2), (3, .int x3)]) (st := [.int (x1 / 10), .ref 0]) (h := ks i a q r) (i := (.invokevirtual 144, 3, 129, 0, 9, 0, 208)) (mi_k98.2 _ _ (by rfl)) (ft_invS mi_pq129 (by rfl)) (cy := mi_c129) mi_pq129 rfl (kc129_0 hG.I hG.R (x1 / 10)) (by decide) ?_
              intro vg56 ig56 ag56 qg56 rg56 kg56 hg56
              have hGg56 := kG_call hG kg56 (by decide +kernel)
              first | refine fo_goL mi_k98 fz98_53_2_57 [(4, .int vg56), (0, .ref 0), (1, .int x1), (2, .int x2), (3, .int x3)] [.int vg56] (by rfl) ?_ | refine ft_go mi_k98 2 57 [(4, .int vg56), (0, .ref 0), (1, .int x1), (2, .int x2), (3, .int x3)] [.int vg56] ig56 ag56 qg56 rg56 (by rfl) ?_ | refine ko_steps mi_in98 2 _ (57, [(4, .int vg56), (0, .ref 0), (1, .int x1), (2, .int x2), (3, .int x3)], [.int vg56], (0, 0), ks ig56 ag56 qg56 rg56) (by rfl) ?_
              refine ft_ifS mi_k98 (decide (0 ≤ vg56)) 63 60 [] (by rfl) (fun c => ?_) (fun c => ?_)
              ·
                have c58 : (0 : Int32).toInt ≤ vg56.toInt := kd_le c; clear c
                first | refine fo_goS mi_k98 fz98_63_2_65 [.int 1, .int x3] (by rfl) ?_ | refine ft_go mi_k98 2 65 [(4, .int vg56), (0, .ref 0), (1, .int x1), (2, .int x2), (3, .int x3)] [.int 1, .int x3] ig56 ag56 qg56 rg56 (by rfl) ?_ | refine ko_steps mi_in98 2 _ (65, [(4, .int vg56), (0, .ref 0), (1, .int x1), (2, .int x2), (3, .int x3)], [.int 1, .int x3], (0, 0), ks ig56 ag56 qg56 rg56) (by rfl) ?_
                refine ft_ifS mi_k98 (x3 != 1) 81 68 [] (by rfl) (fun c => ?_) (fun c => ?_)
                ·
                  have c59 : x3.toInt ≠ (1 : Int32).toInt := kd_ne c; clear c
                  have s60 : (x1 - x1 / 10 * 10).toInt = (x1.toInt % 10) := kd_rem 10 kn10 (by decide) (oz3 z2.1)
                  first | refine fo_goS mi_k98 fz98_81_4_86 [.int (x1 - x1 / 10 * 10), .ref 0] (by rfl) ?_ | refine ft_go mi_k98 4 86 [(4, .int vg56), (0, .ref 0), (1, .int x1), (2, .int x2), (3, .int x3)] [.int (x1 - x1 / 10 * 10), .ref 0] ig56 ag56 qg56 rg56 (by rfl) ?_ | refine ko_steps mi_in98 4 _ (86, [(4, .int vg56), (0, .ref 0), (1, .int x1), (2, .int x2), (3, .int x3)], [.int (x1 - x1 / 10 * 10), .ref 0], (0, 0), ks ig56 ag56 qg56 rg56) (by rfl) ?_
                  refine ko_callPI mi_k98.1 (pc := 86) (ls := [(4, .int vg56), (0, .ref 0), (1, .int x1), (2, .int x2), (3, .int x3)]) (st := [.int (x1 - x1 / 10 * 10), .ref 0]) (h := ks ig56 ag56 qg56 rg56) (i := (.invokevirtual 217, 3, 127, 0, 9, 0, 209)) (mi_k98.2 _ _ (by rfl)) (ft_invS mi_pq127 (by rfl)) (cy := mi_c127) mi_pq127 rfl (kc127_0 hGg56.I hGg56.R (x1 - x1 / 10 * 10)) (by decide) ?_
                  intro vg61 hg61
                  first | refine fo_goL mi_k98 fz98_89_2_93 [(4, .int vg61), (0, .ref 0), (1, .int x1), (2, .int x2), (3, .int x3)] [.int vg61] (by rfl) ?_ | refine ft_go mi_k98 2 93 [(4, .int vg61), (0, .ref 0), (1, .int x1), (2, .int x2), (3, .int x3)] [.int vg61] ig56 ag56 qg56 rg56 (by rfl) ?_ | refine ko_steps mi_in98 2 _ (93, [(4, .int vg61), (0, .ref 0), (1, .int x1), (2, .int x2), (3, .int x3)], [.int vg61], (0, 0), ks ig56 ag56 qg56 rg56) (by rfl) ?_
                  refine ft_ifS mi_k98 (decide (0 ≤ vg61)) 99 96 [] (by rfl) (fun c => ?_) (fun c => ?_)
                  ·
                    have c63 : (0 : Int32).toInt ≤ vg61.toInt := kd_le c; clear c
                    first | refine fo_goS mi_k98 fz98_99_5_107 [.int (x1 - x1 / 10 * 10), .ref 97] (by rfl) ?_ | refine ft_go mi_k98 5 107 [(4, .int vg61), (0, .ref 0), (1, .int x1), (2, .int x2), (3, .int x3)] [.int (x1 - x1 / 10 * 10), .ref 97] ig56 ag56 qg56 rg56 (by rfl) ?_ | refine ko_steps mi_in98 5 _ (107, [(4, .int vg61), (0, .ref 0), (1, .int x1), (2, .int x2), (3, .int x3)], [.int (x1 - x1 / 10 * 10), .ref 97], (0, 0), ks ig56 ag56 qg56 rg56) (by rfl) ?_
                    by_cases w64 : (x1 - x1 / 10 * 10).toInt = 0
                    ·
                      refine ft_alx mi_k98 (pc := 107) (v := 0) (p := 97) (z := 104) (kj_eq w64 (by decide) : (x1 - x1 / 10 * 10) = 0) (by decide +kernel) (by decide +kernel) ?_
                      first | refine fo_goL mi_k98 fz98_108_2_111 [(5, .ref 104), (4, .int vg61), (0, .ref 0), (1, .int x1), (2, .int x2), (3, .int x3)] [.int x3] (by rfl) ?_ | refine ft_go mi_k98 2 111 [(5, .ref 104), (4, .int vg61), (0, .ref 0), (1, .int x1), (2, .int x2), (3, .int x3)] [.int x3] ig56 ag56 qg56 rg56 (by rfl) ?_ | refine ko_steps mi_in98 2 _ (111, [(5, .ref 104), (4, .int vg61), (0, .ref 0), (1, .int x1), (2, .int x2), (3, .int x3)], [.int x3], (0, 0), ks ig56 ag56 qg56 rg56) (by rfl) ?_
                      have w65 : ¬ (x3.toInt = 0) := (oz1179 c52 kn2)
                      have w66 : ¬ (x3.toInt = 1) := (oz1180 c52 kn2)
                      by_cases w67 : x3.toInt = 2
                      ·
                        refine ft_swx mi_k98 (pc := 111) (v := 2) (t := 165) (kj_eq w67 (by decide) : x3 = 2) (by decide +kernel) ?_
                        first | refine fo_goS mi_k98 fz98_165_6_176 [.int x2, .ref 104, .ref 1, .ref 49] (by rfl) ?_ | refine ft_go mi_k98 6 176 [(5, .ref 104), (4, .int vg61), (0, .ref 0), (1, .int x1), (2, .int x2), (3, .int x3)] [.int x2, .ref 104, .ref 1, .ref 49] ig56 ag56 qg56 rg56 (by rfl) ?_ | refine ko_steps mi_in98 6 _ (176, [(5, .ref 104), (4, .int vg61), (0, .ref 0), (1, .int x1), (2, .int x2), (3, .int x3)], [.int x2, .ref 104, .ref 1, .ref 49], (0, 0), ks ig56 ag56 qg56 rg56) (by rfl) ?_
                        refine ko_callI mi_k98.1 (pc := 176) (ls := [(5, .ref 104), (4, .int vg61), (0, .ref 0), (1, .int x1), (2, .int x2), (3, .int x3)]) (st := [.int x2, .ref 104, .ref 1, .ref 49]) (h := ks ig56 ag56 qg56 rg56) (i := (.invokevirtual 232, 3, 76, 0, 9, 0, 267)) (mi_k98.2 _ _ (by rfl)) (ft_invS mi_pq76 (by rfl)) (cy := mi_c76) mi_pq76 rfl (kc76_49_1_104 hGg56.I hGg56.R x2) (by decide) ?_
                        intro vg68 ig68 ag68 qg68 rg68 kg68 hg68
                        have hGg68 := kG_call hGg56 kg68 (by decide +kernel)
                        refine ko_callPI mi_k98.1 (pc := 179) (ls := [(5, .ref 104), (4, .int vg61), (0, .ref 0), (1, .int x1), (2, .int x2), (3, .int x3)]) (st := [.int vg68]) (h := ks ig68 ag68 qg68 rg68) (i := (.invokestatic 188, 3, 226, 0, 9, 0, 247)) (mi_k98.2 _ _ (by rfl)) (ft_invS mi_pq226 (by rfl)) (cy := mi_c226) mi_pq226 rfl (kc226 hGg68.I hGg68.R vg68) (by decide) ?_
                        intro vg69 hg69
                        exact ft_ret mi_k98 (by rfl) (hP vg69 _ _ _ _ hGg68 trivial)
                      refine ko_sw (ls := [(5, .ref 104), (4, .int vg61), (0, .ref 0), (1, .int x1), (2, .int x2), (3, .int x3)]) (r := []) (h := ks ig56 ag56 qg56 rg56) mi_in98 (v := x3) (i := (.tableswitch 72 0 2 #[25, 39, 54], 25, 0, 0, 0, 0, 0)) (by rfl) rfl (oz973 w65 w66 w67) 183 (by rfl) ?_
                      first | refine fo_goS mi_k98 fz98_183_6_194 [.int x2, .ref 104, .ref 1, .ref 49] (by rfl) ?_ | refine ft_go mi_k98 6 194 [(5, .ref 104), (4, .int vg61), (0, .ref 0), (1, .int x1), (2, .int x2), (3, .int x3)] [.int x2, .ref 104, .ref 1, .ref 49] ig56 ag56 qg56 rg56 (by rfl) ?_ | refine ko_steps mi_in98 6 _ (194, [(5, .ref 104), (4, .int vg61), (0, .ref 0), (1, .int x1), (2, .int x2), (3, .int x3)], [.int x2, .ref 104, .ref 1, .ref 49], (0, 0), ks ig56 ag56 qg56 rg56) (by rfl) ?_
                      refine ko_callI mi_k98.1 (pc := 194) (ls := [(5, .ref 104), (4, .int vg61), (0, .ref 0), (1, .int x1), (2, .int x2), (3, .int x3)]) (st := [.int x2, .ref 104, .ref 1, .ref 49]) (h := ks ig56 ag56 qg56 rg56) (i := (.invokevirtual 232, 3, 76, 0, 9, 0, 267)) (mi_k98.2 _ _ (by rfl)) (ft_invS mi_pq76 (by rfl)) (cy := mi_c76) mi_pq76 rfl (kc76_49_1_104 hGg56.I hGg56.R x2) (by decide) ?_
                      intro vg71 ig71 ag71 qg71 rg71 kg71 hg71
                      have hGg71 := kG_call hGg56 kg71 (by decide +kernel)
                      refine ko_callPI mi_k98.1 (pc := 197) (ls := [(5, .ref 104), (4, .int vg61), (0, .ref 0), (1, .int x1), (2, .int x2), (3, .int x3)]) (st := [.int vg71]) (h := ks ig71 ag71 qg71 rg71) (i := (.invokestatic 235, 3, 99, 0, 9, 0, 271)) (mi_k98.2 _ _ (by rfl)) (ft_invS mi_pq99 (by rfl)) (cy := mi_c99) mi_pq99 rfl (kc99 hGg71.I hGg71.R vg71) (by decide) ?_
                      intro vg72 hg72
                      exact ft_ret mi_k98 (by rfl) (hP vg72 _ _ _ _ hGg71 trivial)
                    by_cases w73 : (x1 - x1 / 10 * 10).toInt = 1
                    ·
                      refine ft_alx mi_k98 (pc := 107) (v := 1) (p := 97) (z := 106) (kj_eq w73 (by decide) : (x1 - x1 / 10 * 10) = 1) (by decide +kernel) (by decide +kernel) ?_
                      first | refine fo_goL mi_k98 fz98_108_2_111 [(5, .ref 106), (4, .int vg61), (0, .ref 0), (1, .int x1), (2, .int x2), (3, .int x3)] [.int x3] (by rfl) ?_ | refine ft_go mi_k98 2 111 [(5, .ref 106), (4, .int vg61), (0, .ref 0), (1, .int x1), (2, .int x2), (3, .int x3)] [.int x3] ig56 ag56 qg56 rg56 (by rfl) ?_ | refine ko_steps mi_in98 2 _ (111, [(5, .ref 106), (4, .int vg61), (0, .ref 0), (1, .int x1), (2, .int x2), (3, .int x3)], [.int x3], (0, 0), ks ig56 ag56 qg56 rg56) (by rfl) ?_
                      have w74 : ¬ (x3.toInt = 0) := (oz1179 c52 kn2)
                      have w75 : ¬ (x3.toInt = 1) := (oz1180 c52 kn2)
                      by_cases w76 : x3.toInt = 2
                      ·
                        refine ft_swx mi_k98 (pc := 111) (v := 2) (t := 165) (kj_eq w76 (by decide) : x3 = 2) (by decide +kernel) ?_
                        first | refine fo_goS mi_k98 fz98_165_6_176 [.int x2, .ref 106, .ref 1, .ref 49] (by rfl) ?_ | refine ft_go mi_k98 6 176 [(5, .ref 106), (4, .int vg61), (0, .ref 0), (1, .int x1), (2, .int x2), (3, .int x3)] [.int x2, .ref 106, .ref 1, .ref 49] ig56 ag56 qg56 rg56 (by rfl) ?_ | refine ko_steps mi_in98 6 _ (176, [(5, .ref 106), (4, .int vg61), (0, .ref 0), (1, .int x1), (2, .int x2), (3, .int x3)], [.int x2, .ref 106, .ref 1, .ref 49], (0, 0), ks ig56 ag56 qg56 rg56) (by rfl) ?_
                        refine ko_callI mi_k98.1 (pc := 176) (ls := [(5, .ref 106), (4, .int vg61), (0, .ref 0), (1, .int x1), (2, .int x2), (3, .int x3)]) (st := [.int x2, .ref 106, .ref 1, .ref 49]) (h := ks ig56 ag56 qg56 rg56) (i := (.invokevirtual 232, 3, 76, 0, 9, 0, 267)) (mi_k98.2 _ _ (by rfl)) (ft_invS mi_pq76 (by rfl)) (cy := mi_c76) mi_pq76 rfl (kc76_49_1_106 hGg56.I hGg56.R x2) (by decide) ?_
                        intro vg77 ig77 ag77 qg77 rg77 kg77 hg77
                        have hGg77 := kG_call hGg56 kg77 (by decide +kernel)
                        refine ko_callPI mi_k98.1 (pc := 179) (ls := [(5, .ref 106), (4, .int vg61), (0, .ref 0), (1, .int x1), (2, .int x2), (3, .int x3)]) (st := [.int vg77]) (h := ks ig77 ag77 qg77 rg77) (i := (.invokestatic 188, 3, 226, 0, 9, 0, 247)) (mi_k98.2 _ _ (by rfl)) (ft_invS mi_pq226 (by rfl)) (cy := mi_c226) mi_pq226 rfl (kc226 hGg77.I hGg77.R vg77) (by decide) ?_
                        intro vg78 hg78
                        exact ft_ret mi_k98 (by rfl) (hP vg78 _ _ _ _ hGg77 trivial)
                      refine ko_sw (ls := [(5, .ref 106), (4, .int vg61), (0, .ref 0), (1, .int x1), (2, .int x2), (3, .int x3)]) (r := []) (h := ks ig56 ag56 qg56 rg56) mi_in98 (v := x3) (i := (.tableswitch 72 0 2 #[25, 39, 54], 25, 0, 0, 0, 0, 0)) (by rfl) rfl (oz973 w74 w75 w76) 183 (by rfl) ?_
                      first | refine fo_goS mi_k98 fz98_183_6_194 [.int x2, .ref 106, .ref 1, .ref 49] (by rfl) ?_ | refine ft_go mi_k98 6 194 [(5, .ref 106), (4, .int vg61), (0, .ref 0), (1, .int x1), (2, .int x2), (3, .int x3)] [.int x2, .ref 106, .ref 1, .ref 49] ig56 ag56 qg56 rg56 (by rfl) ?_ | refine ko_steps mi_in98 6 _ (194, [(5, .ref 106), (4, .int vg61), (0, .ref 0), (1, .int x1), (2, .int x2), (3, .int x3)], [.int x2, .ref 106, .ref 1, .ref 49], (0, 0), ks ig56 ag56 qg56 rg56) (by rfl) ?_
                      refine ko_callI mi_k98.1 (pc := 194) (ls := [(5, .ref 106), (4, .int vg61), (0, .ref 0), (1, .int x1), (2, .int x2), (3, .int x3)]) (st := [.int x2, .ref 106, .ref 1, .ref 49]) (h := ks ig56 ag56 qg56 rg56) (i := (.invokevirtual 232, 3, 76, 0, 9, 0, 267)) (mi_k98.2 _ _ (by rfl)) (ft_invS mi_pq76 (by rfl)) (cy := mi_c76) mi_pq76 rfl (kc76_49_1_106 hGg56.I hGg56.R x2) (by decide) ?_
                      intro vg80 ig80 ag80 qg80 rg80 kg80 hg80
                      have hGg80 := kG_call hGg56 kg80 (by decide +kernel)
                      refine ko_callPI mi_k98.1 (pc := 197) (ls := [(5, .ref 106), (4, .int vg61), (0, .ref 0), (1, .int x1), (2, .int x2), (3, .int x3)]) (st := [.int vg80]) (h := ks ig80 ag80 qg80 rg80) (i := (.invokestatic 235, 3, 99, 0, 9, 0, 271)) (mi_k98.2 _ _ (by rfl)) (ft_invS mi_pq99 (by rfl)) (cy := mi_c99) mi_pq99 rfl (kc99 hGg80.I hGg80.R vg80) (by decide) ?_
                      intro vg81 hg81
                      exact ft_ret mi_k98 (by rfl) (hP vg81 _ _ _ _ hGg80 trivial)
                    by_cases w82 : (x1 - x1 / 10 * 10).toInt = 2
                    ·
                      refine ft_alx mi_k98 (pc := 107) (v := 2) (p := 97) (z := 108) (kj_eq w82 (by decide) : (x1 - x1 / 10 * 10) = 2) (by decide +kernel) (by decide +kernel) ?_
                      first | refine fo_goL mi_k98 fz98_108_2_111 [(5, .ref 108), (4, .int vg61), (0, .ref 0), (1, .int x1), (2, .int x2), (3, .int x3)] [.int x3] (by rfl) ?_ | refine ft_go mi_k98 2 111 [(5, .ref 108), (4, .int vg61), (0, .ref 0), (1, .int x1), (2, .int x2), (3, .int x3)] [.int x3] ig56 ag56 qg56 rg56 (by rfl) ?_ | refine ko_steps mi_in98 2 _ (111, [(5, .ref 108), (4, .int vg61), (0, .ref 0), (1, .int x1), (2, .int x2), (3, .int x3)], [.int x3], (0, 0), ks ig56 ag56 qg56 rg56) (by rfl) ?_
                      have w83 : ¬ (x3.toInt = 0) := (oz1179 c52 kn2)
                      have w84 : ¬ (x3.toInt = 1) := (oz1180 c52 kn2)
                      by_cases w85 : x3.toInt = 2
                      ·
                        refine ft_swx mi_k98 (pc := 111) (v := 2) (t := 165) (kj_eq w85 (by decide) : x3 = 2) (by decide +kernel) ?_
                        first | refine fo_goS mi_k98 fz98_165_6_176 [.int x2, .ref 108, .ref 1, .ref 49] (by rfl) ?_ | refine ft_go mi_k98 6 176 [(5, .ref 108), (4, .int vg61), (0, .ref 0), (1, .int x1), (2, .int x2), (3, .int x3)] [.int x2, .ref 108, .ref 1, .ref 49] ig56 ag56 qg56 rg56 (by rfl) ?_ | refine ko_steps mi_in98 6 _ (176, [(5, .ref 108), (4, .int vg61), (0, .ref 0), (1, .int x1), (2, .int x2), (3, .int x3)], [.int x2, .ref 108, .ref 1, .ref 49], (0, 0), ks ig56 ag56 qg56 rg56) (by rfl) ?_
                        refine ko_callI mi_k98.1 (pc := 176) (ls := [(5, .ref 108), (4, .int vg61), (0, .ref 0), (1, .int x1), (2, .int x2), (3, .int x3)]) (st := [.int x2, .ref 108, .ref 1, .ref 49]) (h := ks ig56 ag56 qg56 rg56) (i := (.invokevirtual 232, 3, 76, 0, 9, 0, 267)) (mi_k98.2 _ _ (by rfl)) (ft_invS mi_pq76 (by rfl)) (cy := mi_c76) mi_pq76 rfl (kc76_49_1_108 hGg56.I hGg56.R x2) (by decide) ?_
                        intro vg86 ig86 ag86 qg86 rg86 kg86 hg86
                        have hGg86 := kG_call hGg56 kg86 (by decide +kernel)
                        refine ko_callPI mi_k98.1 (pc := 179) (ls := [(5, .ref 108), (4, .int vg61), (0, .ref 0), (1, .int x1), (2, .int x2), (3, .int x3)]) (st := [.int vg86]) (h := ks ig86 ag86 qg86 rg86) (i := (.invokestatic 188, 3, 226, 0, 9, 0, 247)) (mi_k98.2 _ _ (by rfl)) (ft_invS mi_pq226 (by rfl)) (cy := mi_c226) mi_pq226 rfl (kc226 hGg86.I hGg86.R vg86) (by decide) ?_
                        intro vg87 hg87
                        exact ft_ret mi_k98 (by rfl) (hP vg87 _ _ _ _ hGg86 trivial)
                      refine ko_sw (ls := [(5, .ref 108), (4, .int vg61), (0, .ref 0), (1, .int x1), (2, .int x2), (3, .int x3)]) (r := []) (h := ks ig56 ag56 qg56 rg56) mi_in98 (v := x3) (i := (.tableswitch 72 0 2 #[25, 39, 54], 25, 0, 0, 0, 0, 0)) (by rfl) rfl (oz973 w83 w84 w85) 183 (by rfl) ?_
                      first | refine fo_goS mi_k98 fz98_183_6_194 [.int x2, .ref 108, .ref 1, .ref 49] (by rfl) ?_ | refine ft_go mi_k98 6 194 [(5, .ref 108), (4, .int vg61), (0, .ref 0), (1, .int x1), (2, .int x2), (3, .int x3)] [.int x2, .ref 108, .ref 1, .ref 49] ig56 ag56 qg56 rg56 (by rfl) ?_ | refine ko_steps mi_in98 6 _ (194, [(5, .ref 108), (4, .int vg61), (0, .ref 0), (1, .int x1), (2, .int x2), (3, .int x3)], [.int x2, .ref 108, .ref 1, .ref 49], (0, 0), ks ig56 ag56 qg56 rg56) (by rfl) ?_
                      refine ko_callI mi_k98.1 (pc := 194) (ls := [(5, .ref 108), (4, .int vg61), (0, .ref 0), (1, .int x1), (2, .int x2), (3, .int x3)]) (st := [.int x2, .ref 108, .ref 1, .ref 49]) (h := ks ig56 ag56 qg56 rg56) (i := (.invokevirtual 232, 3, 76, 0, 9, 0, 267)) (mi_k98.2 _ _ (by rfl)) (ft_invS mi_pq76 (by rfl)) (cy := mi_c76) mi_pq76 rfl (kc76_49_1_108 hGg56.I hGg56.R x2) (by decide) ?_
                      intro vg89 ig89 ag89 qg89 rg89 kg89 hg89
                      have hGg89 := kG_call hGg56 kg89 (by decide +kernel)
                      refine ko_callPI mi_k98.1 (pc := 197) (ls := [(5, .ref 108), (4, .int vg61), (0, .ref 0), (1, .int x1), (2, .int x2), (3, .int x3)]) (st := [.int vg89]) (h := ks ig89 ag89 qg89 rg89) (i := (.invokestatic 235, 3, 99, 0, 9, 0, 271)) (mi_k98.2 _ _ (by rfl)) (ft_invS mi_pq99 (by rfl)) (cy := mi_c99) mi_pq99 rfl (kc99 hGg89.I hGg89.R vg89) (by decide) ?_
                      intro vg90 hg90
                      exact ft_ret mi_k98 (by rfl) (hP vg90 _ _ _ _ hGg89 trivial)
                    by_cases w91 : (x1 - x1 / 10 * 10).toInt = 3
                    ·
                      refine ft_alx mi_k98 (pc := 107) (v := 3) (p := 97) (z := 110) (kj_eq w91 (by decide) : (x1 - x1 / 10 * 10) = 3) (by decide +kernel) (by decide +kernel) ?_
                      first | refine fo_goL mi_k98 fz98_108_2_111 [(5, .ref 110), (4, .int vg61), (0, .ref 0), (1, .int x1), (2, .int x2), (3, .int x3)] [.int x3] (by rfl) ?_ | refine ft_go mi_k98 2 111 [(5, .ref 110), (4, .int vg61), (0, .ref 0), (1, .int x1), (2, .int x2), (3, .int x3)] [.int x3] ig56 ag56 qg56 rg56 (by rfl) ?_ | refine ko_steps mi_in98 2 _ (111, [(5, .ref 110), (4, .int vg61), (0, .ref 0), (1, .int x1), (2, .int x2), (3, .int x3)], [.int x3], (0, 0), ks ig56 ag56 qg56 rg56) (by rfl) ?_
                      have w92 : ¬ (x3.toInt = 0) := (oz1179 c52 kn2)
                      have w93 : ¬ (x3.toInt = 1) := (oz1180 c52 kn2)
                      by_cases w94 : x3.toInt = 2
                      ·
                        refine ft_swx mi_k98 (pc := 111) (v := 2) (t := 165) (kj_eq w94 (by decide) : x3 = 2) (by decide +kernel) ?_
                        first | refine fo_goS mi_k98 fz98_165_6_176 [.int x2, .ref 110, .ref 1, .ref 49] (by rfl) ?_ | refine ft_go mi_k98 6 176 [(5, .ref 110), (4, .int vg61), (0, .ref 0), (1, .int x1), (2, .int x2), (3, .int x3)] [.int x2, .ref 110, .ref 1, .ref 49] ig56 ag56 qg56 rg56 (by rfl) ?_ | refine ko_steps mi_in98 6 _ (176, [(5, .ref 110), (4, .int vg61), (0, .ref 0), (1, .int x1), (2, .int x2), (3, .int x3)], [.int x2, .ref 110, .ref 1, .ref 49], (0, 0), ks ig56 ag56 qg56 rg56) (by rfl) ?_
                        refine ko_callI mi_k98.1 (pc := 176) (ls := [(5, .ref 110), (4, .int vg61), (0, .ref 0), (1, .int x1), (2, .int x2), (3, .int x3)]) (st := [.int x2, .ref 110, .ref 1, .ref 49]) (h := ks ig56 ag56 qg56 rg56) (i := (.invokevirtual 232, 3, 76, 0, 9, 0, 267)) (mi_k98.2 _ _ (by rfl)) (ft_invS mi_pq76 (by rfl)) (cy := mi_c76) mi_pq76 rfl (kc76_49_1_110 hGg56.I hGg56.R x2) (by decide) ?_
                        intro vg95 ig95 ag95 qg95 rg95 kg95 hg95
                        have hGg95 := kG_call hGg56 kg95 (by decide +kernel)
                        refine ko_callPI mi_k98.1 (pc := 179) (ls := [(5, .ref 110), (4, .int vg61), (0, .ref 0), (1, .int x1), (2, .int x2), (3, .int x3)]) (st := [.int vg95]) (h := ks ig95 ag95 qg95 rg95) (i := (.invokestatic 188, 3, 226, 0, 9, 0, 247)) (mi_k98.2 _ _ (by rfl)) (ft_invS mi_pq226 (by rfl)) (cy := mi_c226) mi_pq226 rfl (kc226 hGg95.I hGg95.R vg95) (by decide) ?_
                        intro vg96 hg96
                        exact ft_ret mi_k98 (by rfl) (hP vg96 _ _ _ _ hGg95 trivial)
                      refine ko_sw (ls := [(5, .ref 110), (4, .int vg61), (0, .ref 0), (1, .int x1), (2, .int x2), (3, .int x3)]) (r := []) (h := ks ig56 ag56 qg56 rg56) mi_in98 (v := x3) (i := (.tableswitch 72 0 2 #[25, 39, 54], 25, 0, 0, 0, 0, 0)) (by rfl) rfl (oz973 w92 w93 w94) 183 (by rfl) ?_
                      first | refine fo_goS mi_k98 fz98_183_6_194 [.int x2, .ref 110, .ref 1, .ref 49] (by rfl) ?_ | refine ft_go mi_k98 6 194 [(5, .ref 110), (4, .int vg61), (0, .ref 0), (1, .int x1), (2, .int x2), (3, .int x3)] [.int x2, .ref 110, .ref 1, .ref 49] ig56 ag56 qg56 rg56 (by rfl) ?_ | refine ko_steps mi_in98 6 _ (194, [(5, .ref 110), (4, .int vg61), (0, .ref 0), (1, .int x1), (2, .int x2), (3, .int x3)], [.int x2, .ref 110, .ref 1, .ref 49], (0, 0), ks ig56 ag56 qg56 rg56) (by rfl) ?_
                      refine ko_callI mi_k98.1 (pc := 194) (ls := [(5, .ref 110), (4, .int vg61), (0, .ref 0), (1, .int x1), (2, .int x2), (3, .int x3)]) (st := [.int x2, .ref 110, .ref 1, .ref 49]) (h := ks ig56 ag56 qg56 rg56) (i := (.invokevirtual 232, 3, 76, 0, 9, 0, 267)) (mi_k98.2 _ _ (by rfl)) (ft_invS mi_pq76 (by rfl)) (cy := mi_c76) mi_pq76 rfl (kc76_49_1_110 hGg56.I hGg56.R x2) (by decide) ?_
                      intro vg98 ig98 ag98 qg98 rg98 kg98 hg98
                      have hGg98 := kG_call hGg56 kg98 (by decide +kernel)
                      refine ko_callPI mi_k98.1 (pc := 197) (ls := [(5, .ref 110), (4, .int vg61), (0, .ref 0), (1, .int x1), (2, .int x2), (3, .int x3)]) (st := [.int vg98]) (h := ks ig98 ag98 qg98 rg98) (i := (.invokestatic 235, 3, 99, 0, 9, 0, 271)) (mi_k98.2 _ _ (by rfl)) (ft_invS mi_pq99 (by rfl)) (cy := mi_c99) mi_pq99 rfl (kc99 hGg98.I hGg98.R vg98) (by decide) ?_
                      intro vg99 hg99
                      exact ft_ret mi_k98 (by rfl) (hP vg99 _ _ _ _ hGg98 trivial)
                    by_cases w100 : (x1 - x1 / 10 * 10).toInt = 4
                    ·
                      refine ft_alx mi_k98 (pc := 107) (v := 4) (p := 97) (z := 112) (kj_eq w100 (by decide) : (x1 - x1 / 10 * 10) = 4) (by decide +kernel) (by decide +kernel) ?_
                      first | refine fo_goL mi_k98 fz98_108_2_111 [(5, .ref 112), (4, .int vg61), (0, .ref 0), (1, .int x1), (2, .int x2), (3, .int x3)] [.int x3] (by rfl) ?_ | refine ft_go mi_k98 2 111 [(5, .ref 112), (4, .int vg61), (0, .ref 0), (1, .int x1), (2, .int x2), (3, .int x3)] [.int x3] ig56 ag56 qg56 rg56 (by rfl) ?_ | refine ko_steps mi_in98 2 _ (111, [(5, .ref 112), (4, .int vg61), (0, .ref 0), (1, .int x1), (2, .int x2), (3, .int x3)], [.int x3], (0, 0), ks ig56 ag56 qg56 rg56) (by rfl) ?_
                      have w101 : ¬ (x3.toInt = 0) := (oz1179 c52 kn2)
                      have w102 : ¬ (x3.toInt = 1) := (oz1180 c52 kn2)
                      by_cases w103 : x3.toInt = 2
                      ·
                        refine ft_swx mi_k98 (pc := 111) (v := 2) (t := 165) (kj_eq w103 (by decide) : x3 = 2) (by decide +kernel) ?_
                        first | refine fo_goS mi_k98 fz98_165_6_176 [.int x2, .ref 112, .ref 1, .ref 49] (by rfl) ?_ | refine ft_go mi_k98 6 176 [(5, .ref 112), (4, .int vg61), (0, .ref 0), (1, .int x1), (2, .int x2), (3, .int x3)] [.int x2, .ref 112, .ref 1, .ref 49] ig56 ag56 qg56 rg56 (by rfl) ?_ | refine ko_steps mi_in98 6 _ (176, [(5, .ref 112), (4, .int vg61), (0, .ref 0), (1, .int x1), (2, .int x2), (3, .int x3)], [.int x2, .ref 112, .ref 1, .ref 49], (0, 0), ks ig56 ag56 qg56 rg56) (by rfl) ?_
                        refine ko_callI mi_k98.1 (pc := 176) (ls := [(5, .ref 112), (4, .int vg61), (0, .ref 0), (1, .int x1), (2, .int x2), (3, .int x3)]) (st := [.int x2, .ref 112, .ref 1, .ref 49]) (h := ks ig56 ag56 qg56 rg56) (i := (.invokevirtual 232, 3, 76, 0, 9, 0, 267)) (mi_k98.2 _ _ (by rfl)) (ft_invS mi_pq76 (by rfl)) (cy := mi_c76) mi_pq76 rfl (kc76_49_1_112 hGg56.I hGg56.R x2) (by decide) ?_
                        intro vg104 ig104 ag104 qg104 rg104 kg104 hg104
                        have hGg104 := kG_call hGg56 kg104 (by decide +kernel)
                        refine ko_callPI mi_k98.1 (pc := 179) (ls := [(5, .ref 112), (4, .int vg61), (0, .ref 0), (1, .int x1), (2, .int x2), (3, .int x3)]) (st := [.int vg104]) (h := ks ig104 ag104 qg104 rg104) (i := (.invokestatic 188, 3, 226, 0, 9, 0, 247)) (mi_k98.2 _ _ (by rfl)) (ft_invS mi_pq226 (by rfl)) (cy := mi_c226) mi_pq226 rfl (kc226 hGg104.I hGg104.R vg104) (by decide) ?_
                        intro vg105 hg105
                        exact ft_ret mi_k98 (by rfl) (hP vg105 _ _ _ _ hGg104 trivial)
                      refine ko_sw (ls := [(5, .ref 112), (4, .int vg61), (0, .ref 0), (1, .int x1), (2, .int x2), (3, .int x3)]) (r := []) (h := ks ig56 ag56 qg56 rg56) mi_in98 (v := x3) (i := (.tableswitch 72 0 2 #[25, 39, 54], 25, 0, 0, 0, 0, 0)) (by rfl) rfl (oz973 w101 w102 w103) 183 (by rfl) ?_
                      first | refine fo_goS mi_k98 fz98_183_6_194 [.int x2, .ref 112, .ref 1, .ref 49] (by rfl) ?_ | refine ft_go mi_k98 6 194 [(5, .ref 112), (4, .int vg61), (0, .ref 0), (1, .int x1), (2, .int x2), (3, .int x3)] [.int x2, .ref 112, .ref 1, .ref 49] ig56 ag56 qg56 rg56 (by rfl) ?_ | refine ko_steps mi_in98 6 _ (194, [(5, .ref 112), (4, .int vg61), (0, .ref 0), (1, .int x1), (2, .int x2), (3, .int x3)], [.int x2, .ref 112, .ref 1, .ref 49], (0, 0), ks ig56 ag56 qg56 rg56) (by rfl) ?_
                      refine ko_callI mi_k98.1 (pc := 194) (ls := [(5, .ref 112), (4, .int vg61), (0, .ref 0), (1, .int x1), (2, .int x2), (3, .int x3)]) (st := [.int x2, .ref 112, .ref 1, .ref 49]) (h := ks ig56 ag56 qg56 rg56) (i := (.invokevirtual 232, 3, 76, 0, 9, 0, 267)) (mi_k98.2 _ _ (by rfl)) (ft_invS mi_pq76 (by rfl)) (cy := mi_c76) mi_pq76 rfl (kc76_49_1_112 hGg56.I hGg56.R x2) (by decide) ?_
                      intro vg107 ig107 ag107 qg107 rg107 kg107 hg107
                      have hGg107 := kG_call hGg56 kg107 (by decide +kernel)
                      refine ko_callPI mi_k98.1 (pc := 197) (ls := [(5, .ref 112), (4, .int vg61), (0, .ref 0), (1, .int x1), (2, .int x2), (3, .int x3)]) (st := [.int vg107]) (h := ks ig107 ag107 qg107 rg107) (i := (.invokestatic 235, 3, 99, 0, 9, 0, 271)) (mi_k98.2 _ _ (by rfl)) (ft_invS mi_pq99 (by rfl)) (cy := mi_c99) mi_pq99 rfl (kc99 hGg107.I hGg107.R vg107) (by decide) ?_
                      intro vg108 hg108
                      exact ft_ret mi_k98 (by rfl) (hP vg108 _ _ _ _ hGg107 trivial)
                    by_cases w109 : (x1 - x1 / 10 * 10).toInt = 5
                    ·
                      refine ft_alx mi_k98 (pc := 107) (v := 5) (p := 97) (z := 114) (kj_eq w109 (by decide) : (x1 - x1 / 10 * 10) = 5) (by decide +kernel) (by decide +kernel) ?_
                      first | refine fo_goL mi_k98 fz98_108_2_111 [(5, .ref 114), (4, .int vg61), (0, .ref 0), (1, .int x1), (2, .int x2), (3, .int x3)] [.int x3] (by rfl) ?_ | refine ft_go mi_k98 2 111 [(5, .ref 114), (4, .int vg61), (0, .ref 0), (1, .int x1), (2, .int x2), (3, .int x3)] [.int x3] ig56 ag56 qg56 rg56 (by rfl) ?_ | refine ko_steps mi_in98 2 _ (111, [(5, .ref 114), (4, .int vg61), (0, .ref 0), (1, .int x1), (2, .int x2), (3, .int x3)], [.int x3], (0, 0), ks ig56 ag56 qg56 rg56) (by rfl) ?_
                      have w110 : ¬ (x3.toInt = 0) := (oz1179 c52 kn2)
                      have w111 : ¬ (x3.toInt = 1) := (oz1180 c52 kn2)
                      by_cases w112 : x3.toInt = 2
                      ·
                        refine ft_swx mi_k98 (pc := 111) (v := 2) (t := 165) (kj_eq w112 (by decide) : x3 = 2) (by decide +kernel) ?_
                        first | refine fo_goS mi_k98 fz98_165_6_176 [.int x2, .ref 114, .ref 1, .ref 49] (by rfl) ?_ | refine ft_go mi_k98 6 176 [(5, .ref 114), (4, .int vg61), (0, .ref 0), (1, .int x1), (2, .int x2), (3, .int x3)] [.int x2, .ref 114, .ref 1, .ref 49] ig56 ag56 qg56 rg56 (by rfl) ?_ | refine ko_steps mi_in98 6 _ (176, [(5, .ref 114), (4, .int vg61), (0, .ref 0), (1, .int x1), (2, .int x2), (3, .int x3)], [.int x2, .ref 114, .ref 1, .ref 49], (0, 0), ks ig56 ag56 qg56 rg56) (by rfl) ?_
                        refine ko_callI mi_k98.1 (pc := 176) (ls := [(5, .ref 114), (4, .int vg61), (0, .ref 0), (1, .int x1), (2, .int x2), (3, .int x3)]) (st := [.int x2, .ref 114, .ref 1, .ref 49]) (h := ks ig56 ag56 qg56 rg56) (i := (.invokevirtual 232, 3, 76, 0, 9, 0, 267)) (mi_k98.2 _ _ (by rfl)) (ft_invS mi_pq76 (by rfl)) (cy := mi_c76) mi_pq76 rfl (kc76_49_1_114 hGg56.I hGg56.R x2) (by decide) ?_
                        intro vg113 ig113 ag113 qg113 rg113 kg113 hg113
                        have hGg113 := kG_call hGg56 kg113 (by decide +kernel)
                        refine ko_callPI mi_k98.1 (pc := 179) (ls := [(5, .ref 114), (4, .int vg61), (0, .ref 0), (1, .int x1), (2, .int x2), (3, .int x3)]) (st := [.int vg113]) (h := ks ig113 ag113 qg113 rg113) (i := (.invokestatic 188, 3, 226, 0, 9, 0, 247)) (mi_k98.2 _ _ (by rfl)) (ft_invS mi_pq226 (by rfl)) (cy := mi_c226) mi_pq226 rfl (kc226 hGg113.I hGg113.R vg113) (by decide) ?_
                        intro vg114 hg114
                        exact ft_ret mi_k98 (by rfl) (hP vg114 _ _ _ _ hGg113 trivial)
                      refine ko_sw (ls := [(5, .ref 114), (4, .int vg61), (0, .ref 0), (1, .int x1), (2, .int x2), (3, .int x3)]) (r := []) (h := ks ig56 ag56 qg56 rg56) mi_in98 (v := x3) (i := (.tableswitch 72 0 2 #[25, 39, 54], 25, 0, 0, 0, 0, 0)) (by rfl) rfl (oz973 w110 w111 w112) 183 (by rfl) ?_
                      first | refine fo_goS mi_k98 fz98_183_6_194 [.int x2, .ref 114, .ref 1, .ref 49] (by rfl) ?_ | refine ft_go mi_k98 6 194 [(5, .ref 114), (4, .int vg61), (0, .ref 0), (1, .int x1), (2, .int x2), (3, .int x3)] [.int x2, .ref 114, .ref 1, .ref 49] ig56 ag56 qg56 rg56 (by rfl) ?_ | refine ko_steps mi_in98 6 _ (194, [(5, .ref 114), (4, .int vg61), (0, .ref 0), (1, .int x1), (2, .int x2), (3, .int x3)], [.int x2, .ref 114, .ref 1, .ref 49], (0, 0), ks ig56 ag56 qg56 rg56) (by rfl) ?_
                      refine ko_callI mi_k98.1 (pc := 194) (ls := [(5, .ref 114), (4, .int vg61), (0, .ref 0), (1, .int x1), (2, .int x2), (3, .int x3)]) (st := [.int x2, .ref 114, .ref 1, .ref 49]) (h := ks ig56 ag56 qg56 rg56) (i := (.invokevirtual 232, 3, 76, 0, 9, 0, 267)) (mi_k98.2 _ _ (by rfl)) (ft_invS mi_pq76 (by rfl)) (cy := mi_c76) mi_pq76 rfl (kc76_49_1_114 hGg56.I hGg56.R x2) (by decide) ?_
                      intro vg116 ig116 ag116 qg116 rg116 kg116 hg116
                      have hGg116 := kG_call hGg56 kg116 (by decide +kernel)
                      refine ko_callPI mi_k98.1 (pc := 197) (ls := [(5, .ref 114), (4, .int vg61), (0, .ref 0), (1, .int x1), (2, .int x2), (3, .int x3)]) (st := [.int vg116]) (h := ks ig116 ag116 qg116 rg116) (i := (.invokestatic 235, 3, 99, 0, 9, 0, 271)) (mi_k98.2 _ _ (by rfl)) (ft_invS mi_pq99 (by rfl)) (cy := mi_c99) mi_pq99 rfl (kc99 hGg116.I hGg116.R vg116) (by decide) ?_
                      intro vg117 hg117
                      exact ft_ret mi_k98 (by rfl) (hP vg117 _ _ _ _ hGg116 trivial)
                    exact (oz1188 s60 w100 w109 w64 w73 w82 w91 z2.2.2).elim
                  ·
                    have c118 : vg61.toInt < (0 : Int32).toInt := kd_leF c; clear c
                    first | refine ft_goS mi_k98 1 98 [.int vg61] (by rfl) ?_ | refine ft_go mi_k98 1 98 [(4, .int vg61), (0, .ref 0), (1, .int x1), (2, .int x2), (3, .int x3)] [.int vg61] ig56 ag56 qg56 rg56 (by rfl) ?_ | refine ko_steps mi_in98 1 _ (98, [(4, .int vg61), (0, .ref 0), (1, .int x1), (2, .int x2), (3, .int x3)], [.int vg61], (0, 0), ks ig56 ag56 qg56 rg56) (by rfl) ?_
                    exact ft_ret mi_k98 (by rfl) (hP vg61 _ _ _ _ hGg56 trivial)
                ·
                  have c119 : x3.toInt = (1 : Int32).toInt := kd_neF c; clear c
                  exact (oz1189 c119 c52 kn1 kn2).elim
              ·
                have c120 : vg56.toInt < (0 : Int32).toInt := kd_leF c; clear c
                first | refine ft_goS mi_k98 1 62 [.int vg56] (by rfl) ?_ | refine ft_go mi_k98 1 62 [(4, .int vg56), (0, .ref 0), (1, .int x1), (2, .int x2), (3, .int x3)] [.int vg56] ig56 ag56 qg56 rg56 (by rfl) ?_ | refine ko_steps mi_in98 1 _ (62, [(4, .int vg56), (0, .ref 0), (1, .int x1), (2, .int x2), (3, .int x3)], [.int vg56], (0, 0), ks ig56 ag56 qg56 rg56) (by rfl) ?_
                exact ft_ret mi_k98 (by rfl) (hP vg56 _ _ _ _ hGg56 trivial)
            ·
              subst eg53
              first | refine ft_goS mi_k98 2 44 [.int (-1)] (by rfl) ?_ | refine ft_go mi_k98 2 44 [(0, .ref 0), (1, .int x1), (2, .int x2), (3, .int x3)] [.int (-1)] i a q r (by rfl) ?_ | refine ko_steps mi_in98 2 _ (44, [(0, .ref 0), (1, .int x1), (2, .int x2), (3, .int x3)], [.int (-1)], (0, 0), ks i a q r) (by rfl) ?_
              exact ft_ret mi_k98 (by rfl) (hP (-1) _ _ _ _ hG trivial)
        ·
          have c122 : x3.toInt = (0 : Int32).toInt := kd_neF c; clear c
          first | refine ft_goS mi_k98 1 27 [.int x2] (by rfl) ?_ | refine ft_go mi_k98 1 27 [(0, .ref 0), (1, .int x1), (2, .int x2), (3, .int x3)] [.int x2] i a q r (by rfl) ?_ | refine ko_steps mi_in98 1 _ (27, [(0, .ref 0), (1, .int x1), (2, .int x2), (3, .int x3)], [.int x2], (0, 0), ks i a q r) (by rfl) ?_
          refine ft_ifS mi_k98 (x2 != 0) 43 30 [] (by rfl) (fun c => ?_) (fun c => ?_)
          ·
            have c123 : x2.toInt ≠ (0 : Int32).toInt := kd_ne c; clear c
            first | refine ft_goS mi_k98 1 44 [.int (-1)] (by rfl) ?_ | refine ft_go mi_k98 1 44 [(0, .ref 0), (1, .int x1), (2, .int x2), (3, .int x3)] [.int (-1)] i a q r (by rfl) ?_ | refine ko_steps mi_in98 1 _ (44, [(0, .ref 0), (1, .int x1), (2, .int x2), (3, .int x3)], [.int (-1)], (0, 0), ks i a q r) (by rfl) ?_
            exact ft_ret mi_k98 (by rfl) (hP (-1) _ _ _ _ hG trivial)
          ·
            have c124 : x2.toInt = (0 : Int32).toInt := kd_neF c; clear c
            first | refine ft_goS mi_k98 2 32 [.int 2, .int x3] (by rfl) ?_ | refine ft_go mi_k98 2 32 [(0, .ref 0), (1, .int x1), (2, .int x2), (3, .int x3)] [.int 2, .int x3] i a q r (by rfl) ?_ | refine ko_steps mi_in98 2 _ (32, [(0, .ref 0), (1, .int x1), (2, .int x2), (3, .int x3)], [.int 2, .int x3], (0, 0), ks i a q r) (by rfl) ?_
            refine ft_ifS mi_k98 (decide (x3 < 2)) 45 35 [] (by rfl) (fun c => ?_) (fun c => ?_)
            ·
              have c125 : x3.toInt < (2 : Int32).toInt := kd_lt c; clear c
              have s126 : (x1 / 10).toInt = (x1.toInt / 10) := kd_div 10 kn10 (by decide) (oz3 z2.1)
              first | refine fo_goS mi_k98 fz98_45_4_50 [.int (x1 / 10), .ref 0] (by rfl) ?_ | refine ft_go mi_k98 4 50 [(0, .ref 0), (1, .int x1), (2, .int x2), (3, .int x3)] [.int (x1 / 10), .ref 0] i a q r (by rfl) ?_ | refine ko_steps mi_in98 4 _ (50, [(0, .ref 0), (1, .int x1), (2, .int x2), (3, .int x3)], [.int (x1 / 10), .ref 0], (0, 0), ks i a q r) (by rfl) ?_
              refine ko_callI mi_k98.1 (pc := 50) (ls := [(0, .ref 0), (1, .int x1), (2, .int x2), (3, .int x3)]) (st := [.int (x1 / 10), .ref 0]) (h := ks i a q r) (i := (.invokevirtual 144, 3, 129, 0, 9, 0, 208)) (mi_k98.2 _ _ (by rfl)) (ft_invS mi_pq129 (by rfl)) (cy := mi_c129) mi_pq129 rfl (kc129_0 hG.I hG.R (x1 / 10)) (by decide) ?_
              intro vg127 ig127 ag127 qg127 rg127 kg127 hg127
              have hGg127 := kG_call hG kg127 (by decide +kernel)
              first | refine fo_goL mi_k98 fz98_53_2_57 [(4, .int vg127), (0, .ref 0), (1, .int x1), (2, .int x2), (3, .int x3)] [.int vg127] (by rfl) ?_ | refine ft_go mi_k98 2 57 [(4, .int vg127), (0, .ref 0), (1, .int x1), (2, .int x2), (3, .int x3)] [.int vg127] ig127 ag127 qg127 rg127 (by rfl) ?_ | refine ko_steps mi_in98 2 _ (57, [(4, .int vg127), (0, .ref 0), (1, .int x1), (2, .int x2), (3, .int x3)], [.int vg127], (0, 0), ks ig127 ag127 qg127 rg127) (by rfl) ?_
              refine ft_ifS mi_k98 (decide (0 ≤ vg127)) 63 60 [] (by rfl) (fun c => ?_) (fun c => ?_)
              ·
                have c129 : (0 : Int32).toInt ≤ vg127.toInt := kd_le c; clear c
                first | refine fo_goS mi_k98 fz98_63_2_65 [.int 1, .int x3] (by rfl) ?_ | refine ft_go mi_k98 2 65 [(4, .int vg127), (0, .ref 0), (1, .int x1), (2, .int x2), (3, .int x3)] [.int 1, .int x3] ig127 ag127 qg127 rg127 (by rfl) ?_ | refine ko_steps mi_in98 2 _ (65, [(4, .int vg127), (0, .ref 0), (1, .int x1), (2, .int x2), (3, .int x3)], [.int 1, .int x3], (0, 0), ks ig127 ag127 qg127 rg127) (by rfl) ?_
                refine ft_ifS mi_k98 (x3 != 1) 81 68 [] (by rfl) (fun c => ?_) (fun c => ?_)
                ·
                  have c130 : x3.toInt ≠ (1 : Int32).toInt := kd_ne c; clear c
                  have s131 : (x1 - x1 / 10 * 10).toInt = (x1.toInt % 10) := kd_rem 10 kn10 (by decide) (oz3 z2.1)
                  first | refine fo_goS mi_k98 fz98_81_4_86 [.int (x1 - x1 / 10 * 10), .ref 0] (by rfl) ?_ | refine ft_go mi_k98 4 86 [(4, .int vg127), (0, .ref 0), (1, .int x1), (2, .int x2), (3, .int x3)] [.int (x1 - x1 / 10 * 10), .ref 0] ig127 ag127 qg127 rg127 (by rfl) ?_ | refine ko_steps mi_in98 4 _ (86, [(4, .int vg127), (0, .ref 0), (1, .int x1), (2, .int x2), (3, .int x3)], [.int (x1 - x1 / 10 * 10), .ref 0], (0, 0), ks ig127 ag127 qg127 rg127) (by rfl) ?_
                  refine ko_callPI mi_k98.1 (pc := 86) (ls := [(4, .int vg127), (0, .ref 0), (1, .int x1), (2, .int x2), (3, .int x3)]) (st := [.int (x1 - x1 / 10 * 10), .ref 0]) (h := ks ig127 ag127 qg127 rg127) (i := (.invokevirtual 217, 3, 127, 0, 9, 0, 209)) (mi_k98.2 _ _ (by rfl)) (ft_invS mi_pq127 (by rfl)) (cy := mi_c127) mi_pq127 rfl (kc127_0 hGg127.I hGg127.R (x1 - x1 / 10 * 10)) (by decide) ?_
                  intro vg132 hg132
                  first | refine fo_goL mi_k98 fz98_89_2_93 [(4, .int vg132), (0, .ref 0), (1, .int x1), (2, .int x2), (3, .int x3)] [.int vg132] (by rfl) ?_ | refine ft_go mi_k98 2 93 [(4, .int vg132), (0, .ref 0), (1, .int x1), (2, .int x2), (3, .int x3)] [.int vg132] ig127 ag127 qg127 rg127 (by rfl) ?_ | refine ko_steps mi_in98 2 _ (93, [(4, .int vg132), (0, .ref 0), (1, .int x1), (2, .int x2), (3, .int x3)], [.int vg132], (0, 0), ks ig127 ag127 qg127 rg127) (by rfl) ?_
                  refine ft_ifS mi_k98 (decide (0 ≤ vg132)) 99 96 [] (by rfl) (fun c => ?_) (fun c => ?_)
                  ·
                    have c134 : (0 : Int32).toInt ≤ vg132.toInt := kd_le c; clear c
                    first | refine fo_goS mi_k98 fz98_99_5_107 [.int (x1 - x1 / 10 * 10), .ref 97] (by rfl) ?_ | refine ft_go mi_k98 5 107 [(4, .int vg132), (0, .ref 0), (1, .int x1), (2, .int x2), (3, .int x3)] [.int (x1 - x1 / 10 * 10), .ref 97] ig127 ag127 qg127 rg127 (by rfl) ?_ | refine ko_steps mi_in98 5 _ (107, [(4, .int vg132), (0, .ref 0), (1, .int x1), (2, .int x2), (3, .int x3)], [.int (x1 - x1 / 10 * 10), .ref 97], (0, 0), ks ig127 ag127 qg127 rg127) (by rfl) ?_
                    by_cases w135 : (x1 - x1 / 10 * 10).toInt = 0
                    ·
                      refine ft_alx mi_k98 (pc := 107) (v := 0) (p := 97) (z := 104) (kj_eq w135 (by decide) : (x1 - x1 / 10 * 10) = 0) (by decide +kernel) (by decide +kernel) ?_
                      first | refine fo_goL mi_k98 fz98_108_2_111 [(5, .ref 104), (4, .int vg132), (0, .ref 0), (1, .int x1), (2, .int x2), (3, .int x3)] [.int x3] (by rfl) ?_ | refine ft_go mi_k98 2 111 [(5, .ref 104), (4, .int vg132), (0, .ref 0), (1, .int x1), (2, .int x2), (3, .int x3)] [.int x3] ig127 ag127 qg127 rg127 (by rfl) ?_ | refine ko_steps mi_in98 2 _ (111, [(5, .ref 104), (4, .int vg132), (0, .ref 0), (1, .int x1), (2, .int x2), (3, .int x3)], [.int x3], (0, 0), ks ig127 ag127 qg127 rg127) (by rfl) ?_
                      by_cases w136 : x3.toInt = 0
                      ·
                        refine ft_swx mi_k98 (pc := 111) (v := 0) (t := 136) (kj_eq w136 (by decide) : x3 = 0) (by decide +kernel) ?_
                        first | refine fo_goS mi_k98 fz98_136_5_146 [.ref 104, .ref 1, .ref 49] (by rfl) ?_ | refine ft_go mi_k98 5 146 [(5, .ref 104), (4, .int vg132), (0, .ref 0), (1, .int x1), (2, .int x2), (3, .int x3)] [.ref 104, .ref 1, .ref 49] ig127 ag127 qg127 rg127 (by rfl) ?_ | refine ko_steps mi_in98 5 _ (146, [(5, .ref 104), (4, .int vg132), (0, .ref 0), (1, .int x1), (2, .int x2), (3, .int x3)], [.ref 104, .ref 1, .ref 49], (0, 0), ks ig127 ag127 qg127 rg127) (by rfl) ?_
                        refine ko_callI mi_k98.1 (pc := 146) (ls := [(5, .ref 104), (4, .int vg132), (0, .ref 0), (1, .int x1), (2, .int x2), (3, .int x3)]) (st := [.ref 104, .ref 1, .ref 49]) (h := ks ig127 ag127 qg127 rg127) (i := (.invokevirtual 224, 3, 74, 0, 9, 0, 264)) (mi_k98.2 _ _ (by rfl)) (ft_invS mi_pq74 (by rfl)) (cy := mi_c74) mi_pq74 rfl (kc74_49_1_104 hGg127.I hGg127.R ) (by decide) ?_
                        intro vg137 ig137 ag137 qg137 rg137 kg137 hg137
                        have hGg137 := kG_call hGg127 kg137 (by decide +kernel)
                        exact ft_ret mi_k98 (by rfl) (hP vg137 _ _ _ _ hGg137 trivial)
                      have w138 : ¬ (x3.toInt = 1) := (oz1194 c122 w136 z4.1 kn0)
                      have w139 : ¬ (x3.toInt = 2) := (oz1195 c122 w136 z4.1 kn0)
                      exact (oz1196 c122 w136 z4.1 kn0).elim
                    by_cases w140 : (x1 - x1 / 10 * 10).toInt = 1
                    ·
                      refine ft_alx mi_k98 (pc := 107) (v := 1) (p := 97) (z := 106) (kj_eq w140 (by decide) : (x1 - x1 / 10 * 10) = 1) (by decide +kernel) (by decide +kernel) ?_
                      first | refine fo_goL mi_k98 fz98_108_2_111 [(5, .ref 106), (4, .int vg132), (0, .ref 0), (1, .int x1), (2, .int x2), (3, .int x3)] [.int x3] (by rfl) ?_ | refine ft_go mi_k98 2 111 [(5, .ref 106), (4, .int vg132), (0, .ref 0), (1, .int x1), (2, .int x2), (3, .int x3)] [.int x3] ig127 ag127 qg127 rg127 (by rfl) ?_ | refine ko_steps mi_in98 2 _ (111, [(5, .ref 106), (4, .int vg132), (0, .ref 0), (1, .int x1), (2, .int x2), (3, .int x3)], [.int x3], (0, 0), ks ig127 ag127 qg127 rg127) (by rfl) ?_
                      by_cases w141 : x3.toInt = 0
                      ·
                        refine ft_swx mi_k98 (pc := 111) (v := 0) (t := 136) (kj_eq w141 (by decide) : x3 = 0) (by decide +kernel) ?_
                        first | refine fo_goS mi_k98 fz98_136_5_146 [.ref 106, .ref 1, .ref 49] (by rfl) ?_ | refine ft_go mi_k98 5 146 [(5, .ref 106), (4, .int vg132), (0, .ref 0), (1, .int x1), (2, .int x2), (3, .int x3)] [.ref 106, .ref 1, .ref 49] ig127 ag127 qg127 rg127 (by rfl) ?_ | refine ko_steps mi_in98 5 _ (146, [(5, .ref 106), (4, .int vg132), (0, .ref 0), (1, .int x1), (2, .int x2), (3, .int x3)], [.ref 106, .ref 1, .ref 49], (0, 0), ks ig127 ag127 qg127 rg127) (by rfl) ?_
                        refine ko_callI mi_k98.1 (pc := 146) (ls := [(5, .ref 106), (4, .int vg132), (0, .ref 0), (1, .int x1), (2, .int x2), (3, .int x3)]) (st := [.ref 106, .ref 1, .ref 49]) (h := ks ig127 ag127 qg127 rg127) (i := (.invokevirtual 224, 3, 74, 0, 9, 0, 264)) (mi_k98.2 _ _ (by rfl)) (ft_invS mi_pq74 (by rfl)) (cy := mi_c74) mi_pq74 rfl (kc74_49_1_106 hGg127.I hGg127.R ) (by decide) ?_
                        intro vg142 ig142 ag142 qg142 rg142 kg142 hg142
                        have hGg142 := kG_call hGg127 kg142 (by decide +kernel)
                        exact ft_ret mi_k98 (by rfl) (hP vg142 _ _ _ _ hGg142 trivial)
                      have w143 : ¬ (x3.toInt = 1) := (oz1194 c122 w141 z4.1 kn0)
                      have w144 : ¬ (x3.toInt = 2) := (oz1195 c122 w141 z4.1 kn0)
                      exact (oz1196 c122 w141 z4.1 kn0).elim
                    by_cases w145 : (x1 - x1 / 10 * 10).toInt = 2
                    ·
                      refine ft_alx mi_k98 (pc := 107) (v := 2) (p := 97) (z := 108) (kj_eq w145 (by decide) : (x1 - x1 / 10 * 10) = 2) (by decide +kernel) (by decide +kernel) ?_
                      first | refine fo_goL mi_k98 fz98_108_2_111 [(5, .ref 108), (4, .int vg132), (0, .ref 0), (1, .int x1), (2, .int x2), (3, .int x3)] [.int x3] (by rfl) ?_ | refine ft_go mi_k98 2 111 [(5, .ref 108), (4, .int vg132), (0, .ref 0), (1, .int x1), (2, .int x2), (3, .int x3)] [.int x3] ig127 ag127 qg127 rg127 (by rfl) ?_ | refine ko_steps mi_in98 2 _ (111, [(5, .ref 108), (4, .int vg132), (0, .ref 0), (1, .int x1), (2, .int x2), (3, .int x3)], [.int x3], (0, 0), ks ig127 ag127 qg127 rg127) (by rfl) ?_
                      by_cases w146 : x3.toInt = 0
                      ·
                        refine ft_swx mi_k98 (pc := 111) (v := 0) (t := 136) (kj_eq w146 (by decide) : x3 = 0) (by decide +kernel) ?_
                        first | refine fo_goS mi_k98 fz98_136_5_146 [.ref 108, .ref 1, .ref 49] (by rfl) ?_ | refine ft_go mi_k98 5 146 [(5, .ref 108), (4, .int vg132), (0, .ref 0), (1, .int x1), (2, .int x2), (3, .int x3)] [.ref 108, .ref 1, .ref 49] ig127 ag127 qg127 rg127 (by rfl) ?_ | refine ko_steps mi_in98 5 _ (146, [(5, .ref 108), (4, .int vg132), (0, .ref 0), (1, .int x1), (2, .int x2), (3, .int x3)], [.ref 108, .ref 1, .ref 49], (0, 0), ks ig127 ag127 qg127 rg127) (by rfl) ?_
                        refine ko_callI mi_k98.1 (pc := 146) (ls := [(5, .ref 108), (4, .int vg132), (0, .ref 0), (1, .int x1), (2, .int x2), (3, .int x3)]) (st := [.ref 108, .ref 1, .ref 49]) (h := ks ig127 ag127 qg127 rg127) (i := (.invokevirtual 224, 3, 74, 0, 9, 0, 264)) (mi_k98.2 _ _ (by rfl)) (ft_invS mi_pq74 (by rfl)) (cy := mi_c74) mi_pq74 rfl (kc74_49_1_108 hGg127.I hGg127.R ) (by decide) ?_
                        intro vg147 ig147 ag147 qg147 rg147 kg147 hg147
                        have hGg147 := kG_call hGg127 kg147 (by decide +kernel)
                        exact ft_ret mi_k98 (by rfl) (hP vg147 _ _ _ _ hGg147 trivial)
                      have w148 : ¬ (x3.toInt = 1) := (oz1194 c122 w146 z4.1 kn0)
                      have w149 : ¬ (x3.toInt = 2) := (oz1195 c122 w146 z4.1 kn0)
                      exact (oz1196 c122 w146 z4.1 kn0).elim
                    by_cases w150 : (x1 - x1 / 10 * 10).toInt = 3
                    ·
                      refine ft_alx mi_k98 (pc := 107) (v := 3) (p := 97) (z := 110) (kj_eq w150 (by decide) : (x1 - x1 / 10 * 10) = 3) (by decide +kernel) (by decide +kernel) ?_
                      first | refine fo_goL mi_k98 fz98_108_2_111 [(5, .ref 110), (4, .int vg132), (0, .ref 0), (1, .int x1), (2, .int x2), (3, .int x3)] [.int x3] (by rfl) ?_ | refine ft_go mi_k98 2 111 [(5, .ref 110), (4, .int vg132), (0, .ref 0), (1, .int x1), (2, .int x2), (3, .int x3)] [.int x3] ig127 ag127 qg127 rg127 (by rfl) ?_ | refine ko_steps mi_in98 2 _ (111, [(5, .ref 110), (4, .int vg132), (0, .ref 0), (1, .int x1), (2, .int x2), (3, .int x3)], [.int x3], (0, 0), ks ig127 ag127 qg127 rg127) (by rfl) ?_
                      by_cases w151 : x3.toInt = 0
                      ·
                        refine ft_swx mi_k98 (pc := 111) (v := 0) (t := 136) (kj_eq w151 (by decide) : x3 = 0) (by decide +kernel) ?_
                        first | refine fo_goS mi_k98 fz98_136_5_146 [.ref 110, .ref 1, .ref 49] (by rfl) ?_ | refine ft_go mi_k98 5 146 [(5, .ref 110), (4, .int vg132), (0, .ref 0), (1, .int x1), (2, .int x2), (3, .int x3)] [.ref 110, .ref 1, .ref 49] ig127 ag127 qg127 rg127 (by rfl) ?_ | refine ko_steps mi_in98 5 _ (146, [(5, .ref 110), (4, .int vg132), (0, .ref 0), (1, .int x1), (2, .int x2), (3, .int x3)], [.ref 110, .ref 1, .ref 49], (0, 0), ks ig127 ag127 qg127 rg127) (by rfl) ?_
                        refine ko_callI mi_k98.1 (pc := 146) (ls := [(5, .ref 110), (4, .int vg132), (0, .ref 0), (1, .int x1), (2, .int x2), (3, .int x3)]) (st := [.ref 110, .ref 1, .ref 49]) (h := ks ig127 ag127 qg127 rg127) (i := (.invokevirtual 224, 3, 74, 0, 9, 0, 264)) (mi_k98.2 _ _ (by rfl)) (ft_invS mi_pq74 (by rfl)) (cy := mi_c74) mi_pq74 rfl (kc74_49_1_110 hGg127.I hGg127.R ) (by decide) ?_
                        intro vg152 ig152 ag152 qg152 rg152 kg152 hg152
                        have hGg152 := kG_call hGg127 kg152 (by decide +kernel)
                        exact ft_ret mi_k98 (by rfl) (hP vg152 _ _ _ _ hGg152 trivial)
                      have w153 : ¬ (x3.toInt = 1) := (oz1194 c122 w151 z4.1 kn0)
                      have w154 : ¬ (x3.toInt = 2) := (oz1195 c122 w151 z4.1 kn0)
                      exact (oz1196 c122 w151 z4.1 kn0).elim
                    by_cases w155 : (x1 - x1 / 10 * 10).toInt = 4
                    ·
                      refine ft_alx mi_k98 (pc := 107) (v := 4) (p := 97) (z := 112) (kj_eq w155 (by decide) : (x1 - x1 / 10 * 10) = 4) (by decide +kernel) (by decide +kernel) ?_
                      first | refine fo_goL mi_k98 fz98_108_2_111 [(5, .ref 112), (4, .int vg132), (0, .ref 0), (1, .int x1), (2, .int x2), (3, .int x3)] [.int x3] (by rfl) ?_ | refine ft_go mi_k98 2 111 [(5, .ref 112), (4, .int vg132), (0, .ref 0), (1, .int x1), (2, .int x2), (3, .int x3)] [.int x3] ig127 ag127 qg127 rg127 (by rfl) ?_ | refine ko_steps mi_in98 2 _ (111, [(5, .ref 112), (4, .int vg132), (0, .ref 0), (1, .int x1), (2, .int x2), (3, .int x3)], [.int x3], (0, 0), ks ig127 ag127 qg127 rg127) (by rfl) ?_
                      by_cases w156 : x3.toInt = 0
                      ·
                        refine ft_swx mi_k98 (pc := 111) (v := 0) (t := 136) (kj_eq w156 (by decide) : x3 = 0) (by decide +kernel) ?_
                        first | refine fo_goS mi_k98 fz98_136_5_146 [.ref 112, .ref 1, .ref 49] (by rfl) ?_ | refine ft_go mi_k98 5 146 [(5, .ref 112), (4, .int vg132), (0, .ref 0), (1, .int x1), (2, .int x2), (3, .int x3)] [.ref 112, .ref 1, .ref 49] ig127 ag127 qg127 rg127 (by rfl) ?_ | refine ko_steps mi_in98 5 _ (146, [(5, .ref 112), (4, .int vg132), (0, .ref 0), (1, .int x1), (2, .int x2), (3, .int x3)], [.ref 112, .ref 1, .ref 49], (0, 0), ks ig127 ag127 qg127 rg127) (by rfl) ?_
                        refine ko_callI mi_k98.1 (pc := 146) (ls := [(5, .ref 112), (4, .int vg132), (0, .ref 0), (1, .int x1), (2, .int x2), (3, .int x3)]) (st := [.ref 112, .ref 1, .ref 49]) (h := ks ig127 ag127 qg127 rg127) (i := (.invokevirtual 224, 3, 74, 0, 9, 0, 264)) (mi_k98.2 _ _ (by rfl)) (ft_invS mi_pq74 (by rfl)) (cy := mi_c74) mi_pq74 rfl (kc74_49_1_112 hGg127.I hGg127.R ) (by decide) ?_
                        intro vg157 ig157 ag157 qg157 rg157 kg157 hg157
                        have hGg157 := kG_call hGg127 kg157 (by decide +kernel)
                        exact ft_ret mi_k98 (by rfl) (hP vg157 _ _ _ _ hGg157 trivial)
                      have w158 : ¬ (x3.toInt = 1) := (oz1194 c122 w156 z4.1 kn0)
                      have w159 : ¬ (x3.toInt = 2) := (oz1195 c122 w156 z4.1 kn0)
                      exact (oz1196 c122 w156 z4.1 kn0).elim
                    by_cases w160 : (x1 - x1 / 10 * 10).toInt = 5
                    ·
                      refine ft_alx mi_k98 (pc := 107) (v := 5) (p := 97) (z := 114) (kj_eq w160 (by decide) : (x1 - x1 / 10 * 10) = 5) (by decide +kernel) (by decide +kernel) ?_
                      first | refine fo_goL mi_k98 fz98_108_2_111 [(5, .ref 114), (4, .int vg132), (0, .ref 0), (1, .int x1), (2, .int x2), (3, .int x3)] [.int x3] (by rfl) ?_ | refine ft_go mi_k98 2 111 [(5, .ref 114), (4, .int vg132), (0, .ref 0), (1, .int x1), (2, .int x2), (3, .int x3)] [.int x3] ig127 ag127 qg127 rg127 (by rfl) ?_ | refine ko_steps mi_in98 2 _ (111, [(5, .ref 114), (4, .int vg132), (0, .ref 0), (1, .int x1), (2, .int x2), (3, .int x3)], [.int x3], (0, 0), ks ig127 ag127 qg127 rg127) (by rfl) ?_
                      by_cases w161 : x3.toInt = 0
                      ·
                        refine ft_swx mi_k98 (pc := 111) (v := 0) (t := 136) (kj_eq w161 (by decide) : x3 = 0) (by decide +kernel) ?_
                        first | refine fo_goS mi_k98 fz98_136_5_146 [.ref 114, .ref 1, .ref 49] (by rfl) ?_ | refine ft_go mi_k98 5 146 [(5, .ref 114), (4, .int vg132), (0, .ref 0), (1, .int x1), (2, .int x2), (3, .int x3)] [.ref 114, .ref 1, .ref 49] ig127 ag127 qg127 rg127 (by rfl) ?_ | refine ko_steps mi_in98 5 _ (146, [(5, .ref 114), (4, .int vg132), (0, .ref 0), (1, .int x1), (2, .int x2), (3, .int x3)], [.ref 114, .ref 1, .ref 49], (0, 0), ks ig127 ag127 qg127 rg127) (by rfl) ?_
                        refine ko_callI mi_k98.1 (pc := 146) (ls := [(5, .ref 114), (4, .int vg132), (0, .ref 0), (1, .int x1), (2, .int x2), (3, .int x3)]) (st := [.ref 114, .ref 1, .ref 49]) (h := ks ig127 ag127 qg127 rg127) (i := (.invokevirtual 224, 3, 74, 0, 9, 0, 264)) (mi_k98.2 _ _ (by rfl)) (ft_invS mi_pq74 (by rfl)) (cy := mi_c74) mi_pq74 rfl (kc74_49_1_114 hGg127.I hGg127.R ) (by decide) ?_
                        intro vg162 ig162 ag162 qg162 rg162 kg162 hg162
                        have hGg162 := kG_call hGg127 kg162 (by decide +kernel)
                        exact ft_ret mi_k98 (by rfl) (hP vg162 _ _ _ _ hGg162 trivial)
                      have w163 : ¬ (x3.toInt = 1) := (oz1194 c122 w161 z4.1 kn0)
                      have w164 : ¬ (x3.toInt = 2) := (oz1195 c122 w161 z4.1 kn0)
                      exact (oz1196 c122 w161 z4.1 kn0).elim
                    exact (oz1172 s131 w135 w140 w145 w150 w155 w160 z2.2.2).elim
                  ·
                    have c165 : vg132.toInt < (0 : Int32).toInt := kd_leF c; clear c
                    first | refine ft_goS mi_k98 1 98 [.int vg132] (by rfl) ?_ | refine ft_go mi_k98 1 98 [(4, .int vg132), (0, .ref 0), (1, .int x1), (2, .int x2), (3, .int x3)] [.int vg132] ig127 ag127 qg127 rg127 (by rfl) ?_ | refine ko_steps mi_in98 1 _ (98, [(4, .int vg132), (0, .ref 0), (1, .int x1), (2, .int x2), (3, .int x3)], [.int vg132], (0, 0), ks ig127 ag127 qg127 rg127) (by rfl) ?_
                    exact ft_ret mi_k98 (by rfl) (hP vg132 _ _ _ _ hGg127 trivial)
                ·
                  have c166 : x3.toInt = (1 : Int32).toInt := kd_neF c; clear c
                  exact (oz533 c122 c166 kn0 kn1).elim
              ·
                have c167 : vg127.toInt < (0 : Int32).toInt := kd_leF c; clear c
                first | refine ft_goS mi_k98 1 62 [.int vg127] (by rfl) ?_ | refine ft_go mi_k98 1 62 [(4, .int vg127), (0, .ref 0), (1, .int x1), (2, .int x2), (3, .int x3)] [.int vg127] ig127 ag127 qg127 rg127 (by rfl) ?_ | refine ko_steps mi_in98 1 _ (62, [(4, .int vg127), (0, .ref 0), (1, .int x1), (2, .int x2), (3, .int x3)], [.int vg127], (0, 0), ks ig127 ag127 qg127 rg127) (by rfl) ?_
                exact ft_ret mi_k98 (by rfl) (hP vg127 _ _ _ _ hGg127 trivial)
            ·
              have c168 : (2 : Int32).toInt ≤ x3.toInt := kd_ltF c; clear c
              exact (oz1197 c122 c168 kn0 kn2).elim
      ·
        have c169 : x2.toInt < (0 : Int32).toInt := kd_leF c; clear c
        first | refine ft_goS mi_k98 1 21 [.int (-1)] (by rfl) ?_ | refine ft_go mi_k98 1 21 [(0, .ref 0), (1, .int x1), (2, .int x2), (3, .int x3)] [.int (-1)] i a q r (by rfl) ?_ | refine ko_steps mi_in98 1 _ (21, [(0, .ref 0), (1, .int x1), (2, .int x2), (3, .int x3)], [.int (-1)], (0, 0), ks i a q r) (by rfl) ?_
        exact ft_ret mi_k98 (by rfl) (hP (-1) _ _ _ _ hG trivial)
    ·
      subst eg3
      first | refine ft_goS mi_k98 2 21 [.int (-1)] (by rfl) ?_ | refine ft_go mi_k98 2 21 [(0, .ref 0), (1, .int x1), (2, .int x2), (3, .int x3)] [.int (-1)] i a q r (by rfl) ?_ | refine ko_steps mi_in98 2 _ (21, [(0, .ref 0), (1, .int x1), (2, .int x2), (3, .int x3)], [.int (-1)], (0, 0), ks i a q r) (by rfl) ?_
      exact ft_ret mi_k98 (by rfl) (hP (-1) _ _ _ _ hG trivial)
  ·
    subst eg1
    first | refine ft_goS mi_k98 2 21 [.int (-1)] (by rfl) ?_ | refine ft_go mi_k98 2 21 [(0, .ref 0), (1, .int x1), (2, .int x2), (3, .int x3)] [.int (-1)] i a q r (by rfl) ?_ | refine ko_steps mi_in98 2 _ (21, [(0, .ref 0), (1, .int x1), (2, .int x2), (3, .int x3)], [.int (-1)], (0, 0), ks i a q r) (by rfl) ?_
    exact ft_ret mi_k98 (by rfl) (hP (-1) _ _ _ _ hG trivial)
def w77_49_1 : kW := ([645, 3200, 3206, 3207, 3208, 3209, 3214, 3215, 3216, 3586, 3781, 6405], [13, 51, 52, 53, 54, 55, 57, 58, 62, 63, 65, 66, 67, 68, 69, 70, 71, 72, 73, 79, 103], [], [1])
def w77_49_1_L3 : kW := ([645, 3200, 3206, 3207, 3208, 3209, 3214, 3215, 3216, 3586, 3781, 6405], [13, 51, 52, 53, 54, 55, 57, 58, 62, 63, 65, 66, 67, 68, 69, 70, 71, 72, 73, 79, 103], [], [1])
def w77_49_1_L110 : kW := ([], [79], [], [])
def w77_49_1_L118 : kW := ([], [79], [], [])
def w77_49_1_L23 : kW := ([645, 3209, 3214, 3215, 3216, 3586, 3781, 6405], [13, 51, 55, 57, 58, 62, 63, 65, 66, 67, 68, 69, 70, 71, 72, 73, 103], [], [])
set_option maxRecDepth 100000 in
theorem kc77_49_1 {i : Nat → Int32} {a : Nat → List Int32} {q : Nat → List Int64} {r : Nat → Nat} (hI : kI i a q) (hr : kr r) (x2 : Int32) (x3 : Int32) (x4 : Int32) (hp0 : ((1 : Int) ≤ x4.toInt) ∧ (x4.toInt ≤ 5)) : km 9 77 [.ref 49, .ref 1, .int x2, .int x3, .int x4] (ks i a q r) (kVN w77_49_1 i a q r (fun i1 a1 q1 r1 => True)) := by
  have hG := kG_self w77_49_1 hI hr
  refine km_ofN (q := (mi_h77, mi_c77)) rfl (by decide) (Nat.le_of_ble_eq_true rfl) ?_
  intro P hP
  first | refine ft_goL mi_k77 2 3 [(5, .int 0), (0, .ref 49), (1, .ref 1), (2, .int x2), (3, .int x3), (4, .int x4)] [] (by rfl) ?_ | refine ft_go mi_k77 2 3 [(5, .int 0), (0, .ref 49), (1, .ref 1), (2, .int x2), (3, .int x3), (4, .int x4)] [] i a q r (by rfl) ?_
  have lp1 : ∀ (nz : Nat) (i1 : Nat → Int32) (a1 : Nat → List Int32) (q1 : Nat → List Int64) (r1 : Nat → Nat) (l5_1 : Int32), kG w77_49_1_L3 i a q r i1 a1 q1 r1 → (0 : Int) ≤ l5_1.toInt → ((32 - l5_1.toInt)).toNat < nz → ko 9 (mi_h77, mi_c77) P (3, [(5, .int l5_1), (0, .ref 49), (1, .ref 1), (2, .int x2), (3, .int x3), (4, .int x4)], [], (0, 0), ks i1 a1 q1 r1) := by
    intro nz
    induction nz with
    | zero =>
      intro _ _ _ _ _ _ _ hm
      exact absurd hm (Nat.not_lt_zero _)
    | succ nz ih1 =>
      intro i1 a1 q1 r1 l5_1 hL1 p1_0 hm1
      have s2 : ((1 : Int) ≤ (1 <<< (x4 &&& 31)).toInt) ∧ ((1 <<< (x4 &&& 31)).toInt ≤ 256) := kd_shl1 (oz489 hp0.1) (oz1198 hp0.2)
      have s3 : (1 <<< (x4 &&& 31)).toInt ≤ 32 := kd_shl32 (oz489 hp0.1) (oz527 hp0.2)
      first | refine ft_goL mi_k77 4 9 [(5, .int l5_1), (0, .ref 49), (1, .ref 1), (2, .int x2), (3, .int x3), (4, .int x4)] [.int (1 <<< (x4 &&& 31)), .int l5_1] (by rfl) ?_ | refine ft_go mi_k77 4 9 [(5, .int l5_1), (0, .ref 49), (1, .ref 1), (2, .int x2), (3, .int x3), (4, .int x4)] [.int (1 <<< (x4 &&& 31)), .int l5_1] i1 a1 q1 r1 (by rfl) ?_
      refine ft_ifS mi_k77 (decide ((1 <<< (x4 &&& 31)) ≤ l5_1)) 104 12 [] (by rfl) (fun c => ?_) (fun c => ?_)
      ·
        have c4 : (1 <<< (x4 &&& 31)).toInt ≤ l5_1.toInt := kd_le c; clear c
        have hG5 := kG_call hG hL1 (by decide +kernel)
        have s6 : (x4 - 1).toInt = x4.toInt - (1 : Int32).toInt := kd_sub (oz341 hp0.1 kn1) (oz342 hp0.2 kn1)
        first | refine ft_goL mi_k77 4 110 [(5, .int (x4 - 1)), (0, .ref 49), (1, .ref 1), (2, .int x2), (3, .int x3), (4, .int x4)] [] (by rfl) ?_ | refine ft_go mi_k77 4 110 [(5, .int (x4 - 1)), (0, .ref 49), (1, .ref 1), (2, .int x2), (3, .int x3), (4, .int x4)] [] i1 a1 q1 r1 (by rfl) ?_
        have lp7 : ∀ (nz : Nat) (i7 : Nat → Int32) (a7 : Nat → List Int32) (q7 : Nat → List Int64) (r7 : Nat → Nat) (l5_7 : Int32), kG w77_49_1_L110 i1 a1 q1 r1 i7 a7 q7 r7 → l5_7.toInt ≤ 4 → (l5_7.toInt).toNat < nz → ko 9 (mi_h77, mi_c77) P (110, [(5, .int l5_7), (0, .ref 49), (1, .ref 1), (2, .int x2), (3, .int x3), (4, .int x4)], [], (0, 0), ks i7 a7 q7 r7) := by
          intro nz
          induction nz with
          | zero =>
            intro _ _ _ _ _ _ _ hm
            exact absurd hm (Nat.not_lt_zero _)
          | succ nz ih7 =>
            intro i7 a7 q7 r7 l5_7 hL7 p7_0 hm7
            first | refine ft_goL mi_k77 1 112 [(5, .int l5_7), (0, .ref 49), (1, .ref 1), (2, .int x2), (3, .int x3), (4, .int x4)] [.int l5_7] (by rfl) ?_ | refine ft_go mi_k77 1 112 [(5, .int l5_7), (0, .ref 49), (1, .ref 1), (2, .int x2), (3, .int x3), (4, .int x4)] [.int l5_7] i7 a7 q7 r7 (by rfl) ?_
            refine ft_ifS mi_k77 (decide (l5_7 ≤ 0)) 194 115 [] (by rfl) (fun c => ?_) (fun c => ?_)
            ·
              have c8 : l5_7.toInt ≤ (0 : Int32).toInt := kd_le c; clear c
              have hG9 := kG_call hG5 hL7 (by decide +kernel)
              exact ft_ret mi_k77 (by rfl) (hP  _ _ _ _ hG9 trivial)
            ·
              have c10 : (0 : Int32).toInt < l5_7.toInt := kd_leF c; clear c
              first | refine fo_goL mi_k77 fz77_115_2_118 [(6, .int 0), (5, .int l5_7), (0, .ref 49), (1, .ref 1), (2, .int x2), (3, .int x3), (4, .int x4)] [] (by rfl) ?_ | refine fo_goL mi_k77 fz77_182_2_118 [(6, .int 0), (5, .int l5_7), (0, .ref 49), (1, .ref 1), (2, .int x2), (3, .int x3), (4, .int x4)] [] (by rfl) ?_ | refine ft_go mi_k77 2 118 [(6, .int 0), (5, .int l5_7), (0, .ref 49), (1, .ref 1), (2, .int x2), (3, .int x3), (4, .int x4)] [] i7 a7 q7 r7 (by rfl) ?_
              have lp11 : ∀ (nz : Nat) (i11 : Nat → Int32) (a11 : Nat → List Int32) (q11 : Nat → List Int64) (r11 : Nat → Nat) (l6_11 : Int32), kG w77_49_1_L118 i7 a7 q7 r7 i11 a11 q11 r11 → (0 : Int) ≤ l6_11.toInt → ((1 : Int) ≤ l5_7.toInt) ∧ (l5_7.toInt ≤ 4) → ((16 - l6_11.toInt)).toNat < nz → ko 9 (mi_h77, mi_c77) P (118, [(6, .int l6_11), (5, .int l5_7), (0, .ref 49), (1, .ref 1), (2, .int x2), (3, .int x3), (4, .int x4)], [], (0, 0), ks i11 a11 q11 r11) := by
                intro nz
                induction nz with
                | zero =>
                  intro _ _ _ _ _ _ _ _ hm
                  exact absurd hm (Nat.not_lt_zero _)
                | succ nz ih11 =>
                  intro i11 a11 q11 r11 l6_11 hL11 p11_0 p11_1 hm11
                  have s12 : ((1 : Int) ≤ (1 <<< (l5_7 &&& 31)).toInt) ∧ ((1 <<< (l5_7 &&& 31)).toInt ≤ 256) := kd_shl1 (oz1199 c10 kn0) (oz1200 p7_0)
                  have s13 : (1 <<< (l5_7 &&& 31)).toInt ≤ 16 := kd_shl16 (oz1199 c10 kn0) (oz1201 p7_0)
                  first | refine ft_goL mi_k77 4 124 [(6, .int l6_11), (5, .int l5_7), (0, .ref 49), (1, .ref 1), (2, .int x2), (3, .int x3), (4, .int x4)] [.int (1 <<< (l5_7 &&& 31)), .int l6_11] (by rfl) ?_ | refine ft_go mi_k77 4 124 [(6, .int l6_11), (5, .int l5_7), (0, .ref 49), (1, .ref 1), (2, .int x2), (3, .int x3), (4, .int x4)] [.int (1 <<< (l5_7 &&& 31)), .int l6_11] i11 a11 q11 r11 (by rfl) ?_
                  refine ft_ifS mi_k77 (decide ((1 <<< (l5_7 &&& 31)) ≤ l6_11)) 188 127 [] (by rfl) (fun c => ?_) (fun c => ?_)
                  ·
                    have c14 : (1 <<< (l5_7 &&& 31)).toInt ≤ l6_11.toInt := kd_le c; clear c
                    have hG15 := kG_call hL7 hL11 (by decide +kernel)
                    have s16 : (l5_7 + (-1)).toInt = l5_7.toInt + ((-1) : Int32).toInt := kd_add (oz1202 c10 kn0 knm1) (oz1203 p7_0 knm1)
                    first | refine ft_goL mi_k77 2 110 [(5, .int (l5_7 + (-1))), (6, .int l6_11), (0, .ref 49), (1, .ref 1), (2, .int x2), (3, .int x3), (4, .int x4)] [] (by rfl) ?_ | refine ft_go mi_k77 2 110 [(5, .int (l5_7 + (-1))), (6, .int l6_11), (0, .ref 49), (1, .ref 1), (2, .int x2), (3, .int x3), (4, .int x4)] [] i11 a11 q11 r11 (by rfl) ?_
                    refine ko_perm [(5, .int (l5_7 + (-1))), (0, .ref 49), (1, .ref 1), (2, .int x2), (3, .int x3), (4, .int x4)] (List.forall_mem_cons.mpr ⟨(List.Mem.head _), (List.forall_mem_cons.mpr ⟨(List.Mem.tail _ (List.Mem.tail _ (List.Mem.head _))), (List.forall_mem_cons.mpr ⟨(List.Mem.tail _ (List.Mem.tail _ (List.Mem.tail _ (List.Mem.head _)))), (List.forall_mem_cons.mpr ⟨(List.Mem.tail _ (List.Mem.tail _ (List.Mem.tail _ (List.Mem.tail _ (List.Mem.head _))))), (List.forall_mem_cons.mpr ⟨(List.Mem.tail _ (List.Mem.tail _ (List.Mem.tail _ (List.Mem.tail _ (List.Mem.tail _ (List.Mem.head _)))))), (List.forall_mem_cons.mpr ⟨(List.Mem.tail _ (List.Mem.tail _ (List.Mem.tail _ (List.Mem.tail _ (List.Mem.tail _ (List.Mem.tail _ (List.Mem.head _))))))), (fun _ h => absurd h List.not_mem_nil)⟩)⟩)⟩)⟩)⟩)⟩) ?_
                    exact ih7 _ _ _ _ _ hG15 (oz1204 p7_0 s16 knm1) (kj_meas (oz1205 s16 knm1) (oz659 c10 kn0) hm7)
                  ·
                    have c17 : l6_11.toInt < (1 <<< (l5_7 &&& 31)).toInt := kd_leF c; clear c
                    have s18 : (2 * l6_11).toInt = 2 * l6_11.toInt := kd_cmul 2 kn2 (oz1206 p11_0) (oz1207 c17 s12.2)
                    first | refine fo_goS mi_k77 fz77_127_5_135 [.int (2 * l6_11), .ref 79] (by rfl) ?_ | refine ft_go mi_k77 5 135 [(6, .int l6_11), (5, .int l5_7), (0, .ref 49), (1, .ref 1), (2, .int x2), (3, .int x3), (4, .int x4)] [.int (2 * l6_11), .ref 79] i11 a11 q11 r11 (by rfl) ?_
                    refine ko_iald3 mi_k77.1 (n := 32) (c := 32) (ax := (0, 0, 0, 0, 0)) (mi_k77.2 _ _ (by rfl)) (by rfl) (ksG79 _ _ _ _) (hL11.I.2.1 79) rfl (oz1208 p11_0 s18) (oz1209 c17 s13 s18) ?_
                    have s19 : ((2 * l6_11) + 1).toInt = (2 * l6_11).toInt + (1 : Int32).toInt := kd_add (oz1210 p11_0 s18 kn1) (oz1211 c17 s12.2 s18 kn1)
                    first | refine fo_goL mi_k77 fz77_136_8_148 [(7, .int ((a11 79).getD (2 * l6_11).toNatClampNeg 0)), (6, .int l6_11), (5, .int l5_7), (0, .ref 49), (1, .ref 1), (2, .int x2), (3, .int x3), (4, .int x4)] [.int ((2 * l6_11) + 1), .ref 79] (by rfl) ?_ | refine ft_go mi_k77 8 148 [(7, .int ((a11 79).getD (2 * l6_11).toNatClampNeg 0)), (6, .int l6_11), (5, .int l5_7), (0, .ref 49), (1, .ref 1), (2, .int x2), (3, .int x3), (4, .int x4)] [.int ((2 * l6_11) + 1), .ref 79] i11 a11 q11 r11 (by rfl) ?_
                    refine ko_iald3 mi_k77.1 (n := 32) (c := 32) (ax := (0, 0, 0, 0, 0)) (mi_k77.2 _ _ (by rfl)) (by rfl) (ksG79 _ _ _ _) (hL11.I.2.1 79) rfl (oz1212 p11_0 s18 s19 kn1) (oz1213 c17 s13 s18 s19 kn1) ?_
                    have s20 : (l5_7 - l5_7 / 2 * 2).toInt = (l5_7.toInt % 2) := kd_rem 2 kn2 (by decide) (oz1199 c10 kn0)
                    first | refine fo_goL mi_k77 fz77_149_7_161 [(8, .int ((a11 79).getD ((2 * l6_11) + 1).toNatClampNeg 0)), (7, .int ((a11 79).getD (2 * l6_11).toNatClampNeg 0)), (6, .int l6_11), (5, .int l5_7), (0, .ref 49), (1, .ref 1), (2, .int x2), (3, .int x3), (4, .int x4)] [.int (l5_7 - l5_7 / 2 * 2), .int l6_11, .ref 79] (by rfl) ?_ | refine ft_go mi_k77 7 161 [(8, .int ((a11 79).getD ((2 * l6_11) + 1).toNatClampNeg 0)), (7, .int ((a11 79).getD (2 * l6_11).toNatClampNeg 0)), (6, .int l6_11), (5, .int l5_7), (0, .ref 49), (1, .ref 1), (2, .int x2), (3, .int x3), (4, .int x4)] [.int (l5_7 - l5_7 / 2 * 2), .int l6_11, .ref 79] i11 a11 q11 r11 (by rfl) ?_
                    refine ft_ifS mi_k77 ((l5_7 - l5_7 / 2 * 2) != 0) 174 164 [.int l6_11, .ref 79] (by rfl) (fun c => ?_) (fun c => ?_)
                    ·
                      have c21 : (l5_7 - l5_7 / 2 * 2).toInt ≠ (0 : Int32).toInt := kd_ne c; clear c
                      first | refine ft_goS mi_k77 2 178 [.int ((a11 79).getD ((2 * l6_11) + 1).toNatClampNeg 0), .int ((a11 79).getD (2 * l6_11).toNatClampNeg 0), .int l6_11, .ref 79] (by rfl) ?_ | refine ft_go mi_k77 2 178 [(8, .int ((a11 79).getD ((2 * l6_11) + 1).toNatClampNeg 0)), (7, .int ((a11 79).getD (2 * l6_11).toNatClampNeg 0)), (6, .int l6_11), (5, .int l5_7), (0, .ref 49), (1, .ref 1), (2, .int x2), (3, .int x3), (4, .int x4)] [.int ((a11 79).getD ((2 * l6_11) + 1).toNatClampNeg 0), .int ((a11 79).getD (2 * l6_11).toNatClampNeg 0), .int l6_11, .ref 79] i11 a11 q11 r11 (by rfl) ?_
                      have m23 : (((bif decide (((a11 79).getD ((2 * l6_11) + 1).toNatClampNeg 0) < ((a11 79).getD (2 * l6_11).toNatClampNeg 0)) then ((a11 79).getD ((2 * l6_11) + 1).toNatClampNeg 0) else ((a11 79).getD (2 * l6_11).toNatClampNeg 0)).toInt ≤ ((a11 79).getD (2 * l6_11).toNatClampNeg 0).toInt) ∧ ((bif decide (((a11 79).getD ((2 * l6_11) + 1).toNatClampNeg 0) < ((a11 79).getD (2 * l6_11).toNatClampNeg 0)) then ((a11 79).getD ((2 * l6_11) + 1).toNatClampNeg 0) else ((a11 79).getD (2 * l6_11).toNatClampNeg 0)).toInt ≤ ((a11 79).getD ((2 * l6_11) + 1).toNatClampNeg 0).toInt)) ∧ ((bif decide (((a11 79).getD ((2 * l6_11) + 1).toNatClampNeg 0) < ((a11 79).getD (2 * l6_11).toNatClampNeg 0)) then ((a11 79).getD ((2 * l6_11) + 1).toNatClampNeg 0) else ((a11 79).getD (2 * l6_11).toNatClampNeg 0)).toInt = ((a11 79).getD (2 * l6_11).toNatClampNeg 0).toInt ∨ (bif decide (((a11 79).getD ((2 * l6_11) + 1).toNatClampNeg 0) < ((a11 79).getD (2 * l6_11).toNatClampNeg 0)) then ((a11 79).getD ((2 * l6_11) + 1).toNatClampNeg 0) else ((a11 79).getD (2 * l6_11).toNatClampNeg 0)).toInt = ((a11 79).getD ((2 * l6_11) + 1).toNatClampNeg 0).toInt) := kd_min
                      first | refine ft_goS mi_k77 1 181 [.int (bif decide (((a11 79).getD ((2 * l6_11) + 1).toNatClampNeg 0) < ((a11 79).getD (2 * l6_11).toNatClampNeg 0)) then ((a11 79).getD ((2 * l6_11) + 1).toNatClampNeg 0) else ((a11 79).getD (2 * l6_11).toNatClampNeg 0)), .int l6_11, .ref 79] (by rfl) ?_ | refine ft_go mi_k77 1 181 [(8, .int ((a11 79).getD ((2 * l6_11) + 1).toNatClampNeg 0)), (7, .int ((a11 79).getD (2 * l6_11).toNatClampNeg 0)), (6, .int l6_11), (5, .int l5_7), (0, .ref 49), (1, .ref 1), (2, .int x2), (3, .int x3), (4, .int x4)] [.int (bif decide (((a11 79).getD ((2 * l6_11) + 1).toNatClampNeg 0) < ((a11 79).getD (2 * l6_11).toNatClampNeg 0)) then ((a11 79).getD ((2 * l6_11) + 1).toNatClampNeg 0) else ((a11 79).getD (2 * l6_11).toNatClampNeg 0)), .int l6_11, .ref 79] i11 a11 q11 r11 (by rfl) ?_
                      generalize (bif decide (((a11 79).getD ((2 * l6_11) + 1).toNatClampNeg 0) < ((a11 79).getD (2 * l6_11).toNatClampNeg 0)) then ((a11 79).getD ((2 * l6_11) + 1).toNatClampNeg 0) else ((a11 79).getD (2 * l6_11).toNatClampNeg 0)) = m22 at m23 ⊢
                      refine ko_iast3 mi_k77.1 (n := 32) (c := 32) (ax := (0, 0, 0, 0, 0)) (mi_k77.2 _ _ (by rfl)) (by rfl) (ksG79 _ _ _ _) (ksA79 _ _ _ _) (hL11.I.2.1 79) rfl (oz3 p11_0) (oz1214 c17 s13) ?_
                      intro a24 ea24 fa24
                      have hJ24 := kG_a3 hL11 79 rfl ea24 fa24 (kd_bd _)
                      have s25 : (l6_11 + 1).toInt = l6_11.toInt + (1 : Int32).toInt := kd_add (oz12 p11_0 kn1) (oz1215 c17 s12.2 kn1)
                      first | refine fo_goL mi_k77 fz77_115_2_118 [(6, .int (l6_11 + 1)), (8, .int ((a11 79).getD ((2 * l6_11) + 1).toNatClampNeg 0)), (7, .int ((a11 79).getD (2 * l6_11).toNatClampNeg 0)), (5, .int l5_7), (0, .ref 49), (1, .ref 1), (2, .int x2), (3, .int x3), (4, .int x4)] [] (by rfl) ?_ | refine fo_goL mi_k77 fz77_182_2_118 [(6, .int (l6_11 + 1)), (8, .int ((a11 79).getD ((2 * l6_11) + 1).toNatClampNeg 0)), (7, .int ((a11 79).getD (2 * l6_11).toNatClampNeg 0)), (5, .int l5_7), (0, .ref 49), (1, .ref 1), (2, .int x2), (3, .int x3), (4, .int x4)] [] (by rfl) ?_ | refine ft_go mi_k77 2 118 [(6, .int (l6_11 + 1)), (8, .int ((a11 79).getD ((2 * l6_11) + 1).toNatClampNeg 0)), (7, .int ((a11 79).getD (2 * l6_11).toNatClampNeg 0)), (5, .int l5_7), (0, .ref 49), (1, .ref 1), (2, .int x2), (3, .int x3), (4, .int x4)] [] i11 a24 q11 r11 (by rfl) ?_
                      refine ko_perm [(6, .int (l6_11 + 1)), (5, .int l5_7), (0, .ref 49), (1, .ref 1), (2, .int x2), (3, .int x3), (4, .int x4)] (List.forall_mem_cons.mpr ⟨(List.Mem.head _), (List.forall_mem_cons.mpr ⟨(List.Mem.tail _ (List.Mem.tail _ (List.Mem.tail _ (List.Mem.head _)))), (List.forall_mem_cons.mpr ⟨(List.Mem.tail _ (List.Mem.tail _ (List.Mem.tail _ (List.Mem.tail _ (List.Mem.head _))))), (List.forall_mem_cons.mpr ⟨(List.Mem.tail _ (List.Mem.tail _ (List.Mem.tail _ (List.Mem.tail _ (List.Mem.tail _ (List.Mem.head _)))))), (List.forall_mem_cons.mpr ⟨(List.Mem.tail _ (List.Mem.tail _ (List.Mem.tail _ (List.Mem.tail _ (List.Mem.tail _ (List.Mem.tail _ (List.Mem.head _))))))), (List.forall_mem_cons.mpr ⟨(List.Mem.tail _ (List.Mem.tail _ (List.Mem.tail _ (List.Mem.tail _ (List.Mem.tail _ (List.Mem.tail _ (List.Mem.tail _ (List.Mem.head _)))))))), (List.forall_mem_cons.mpr ⟨(List.Mem.tail _ (List.Mem.tail _ (List.Mem.tail _ (List.Mem.tail _ (List.Mem.tail _ (List.Mem.tail _ (List.Mem.tail _ (List.Mem.tail _ (List.Mem.head _))))))))), (fun _ h => absurd h List.not_mem_nil)⟩)⟩)⟩)⟩)⟩)⟩)⟩) ?_
                      exact ih11 _ _ _ _ _ hJ24 (oz14 p11_0 s25 kn1) (oz1216 c10 p7_0 kn0) (kj_meas (oz1217 s25 kn1) (oz1218 c17 s13) hm11)
                    ·
                      have c26 : (l5_7 - l5_7 / 2 * 2).toInt = (0 : Int32).toInt := kd_neF c; clear c
                      first | refine ft_goS mi_k77 2 168 [.int ((a11 79).getD ((2 * l6_11) + 1).toNatClampNeg 0), .int ((a11 79).getD (2 * l6_11).toNatClampNeg 0), .int l6_11, .ref 79] (by rfl) ?_ | refine ft_go mi_k77 2 168 [(8, .int ((a11 79).getD ((2 * l6_11) + 1).toNatClampNeg 0)), (7, .int ((a11 79).getD (2 * l6_11).toNatClampNeg 0)), (6, .int l6_11), (5, .int l5_7), (0, .ref 49), (1, .ref 1), (2, .int x2), (3, .int x3), (4, .int x4)] [.int ((a11 79).getD ((2 * l6_11) + 1).toNatClampNeg 0), .int ((a11 79).getD (2 * l6_11).toNatClampNeg 0), .int l6_11, .ref 79] i11 a11 q11 r11 (by rfl) ?_
                      have m28 : ((((a11 79).getD (2 * l6_11).toNatClampNeg 0).toInt ≤ (bif decide (((a11 79).getD (2 * l6_11).toNatClampNeg 0) < ((a11 79).getD ((2 * l6_11) + 1).toNatClampNeg 0)) then ((a11 79).getD ((2 * l6_11) + 1).toNatClampNeg 0) else ((a11 79).getD (2 * l6_11).toNatClampNeg 0)).toInt) ∧ (((a11 79).getD ((2 * l6_11) + 1).toNatClampNeg 0).toInt ≤ (bif decide (((a11 79).getD (2 * l6_11).toNatClampNeg 0) < ((a11 79).getD ((2 * l6_11) + 1).toNatClampNeg 0)) then ((a11 79).getD ((2 * l6_11) + 1).toNatClampNeg 0) else ((a11 79).getD (2 * l6_11).toNatClampNeg 0)).toInt)) ∧ ((bif decide (((a11 79).getD (2 * l6_11).toNatClampNeg 0) < ((a11 79).getD ((2 * l6_11) + 1).toNatClampNeg 0)) then ((a11 79).getD ((2 * l6_11) + 1).toNatClampNeg 0) else ((a11 79).getD (2 * l6_11).toNatClampNeg 0)).toInt = ((a11 79).getD (2 * l6_11).toNatClampNeg 0).toInt ∨ (bif decide (((a11 79).getD (2 * l6_11).toNatClampNeg 0) < ((a11 79).getD ((2 * l6_11) + 1).toNatClampNeg 0)) then ((a11 79).getD ((2 * l6_11) + 1).toNatClampNeg 0) else ((a11 79).getD (2 * l6_11).toNatClampNeg 0)).toInt = ((a11 79).getD ((2 * l6_11) + 1).toNatClampNeg 0).toInt) := kd_max
                      first | refine ft_goS mi_k77 1 171 [.int (bif decide (((a11 79).getD (2 * l6_11).toNatClampNeg 0) < ((a11 79).getD ((2 * l6_11) + 1).toNatClampNeg 0)) then ((a11 79).getD ((2 * l6_11) + 1).toNatClampNeg 0) else ((a11 79).getD (2 * l6_11).toNatClampNeg 0)), .int l6_11, .ref 79] (by rfl) ?_ | refine ft_go mi_k77 1 171 [(8, .int ((a11 79).getD ((2 * l6_11) + 1).toNatClampNeg 0)), (7, .int ((a11 79).getD (2 * l6_11).toNatClampNeg 0)), (6, .int l6_11), (5, .int l5_7), (0, .ref 49), (1, .ref 1), (2, .int x2), (3, .int x3), (4, .int x4)] [.int (bif decide (((a11 79).getD (2 * l6_11).toNatClampNeg 0) < ((a11 79).getD ((2 * l6_11) + 1).toNatClampNeg 0)) then ((a11 79).getD ((2 * l6_11) + 1).toNatClampNeg 0) else ((a11 79).getD (2 * l6_11).toNatClampNeg 0)), .int l6_11, .ref 79] i11 a11 q11 r11 (by rfl) ?_
                      generalize (bif decide (((a11 79).getD (2 * l6_11).toNatClampNeg 0) < ((a11 79).getD ((2 * l6_11) + 1).toNatClampNeg 0)) then ((a11 79).getD ((2 * l6_11) + 1).toNatClampNeg 0) else ((a11 79).getD (2 * l6_11).toNatClampNeg 0)) = m27 at m28 ⊢
                      first | refine ft_goS mi_k77 1 181 [.int m27, .int l6_11, .ref 79] (by rfl) ?_ | refine ft_go mi_k77 1 181 [(8, .int ((a11 79).getD ((2 * l6_11) + 1).toNatClampNeg 0)), (7, .int ((a11 79).getD (2 * l6_11).toNatClampNeg 0)), (6, .int l6_11), (5, .int l5_7), (0, .ref 49), (1, .ref 1), (2, .int x2), (3, .int x3), (4, .int x4)] [.int m27, .int l6_11, .ref 79] i11 a11 q11 r11 (by rfl) ?_
                      refine ko_iast3 mi_k77.1 (n := 32) (c := 32) (ax := (0, 0, 0, 0, 0)) (mi_k77.2 _ _ (by rfl)) (by rfl) (ksG79 _ _ _ _) (ksA79 _ _ _ _) (hL11.I.2.1 79) rfl (oz3 p11_0) (oz1214 c17 s13) ?_
                      intro a29 ea29 fa29
                      have hJ29 := kG_a3 hL11 79 rfl ea29 fa29 (kd_bd _)
                      have s30 : (l6_11 + 1).toInt = l6_11.toInt + (1 : Int32).toInt := kd_add (oz12 p11_0 kn1) (oz1215 c17 s12.2 kn1)
                      first | refine fo_goL mi_k77 fz77_115_2_118 [(6, .int (l6_11 + 1)), (8, .int ((a11 79).getD ((2 * l6_11) + 1).toNatClampNeg 0)), (7, .int ((a11 79).getD (2 * l6_11).toNatClampNeg 0)), (5, .int l5_7), (0, .ref 49), (1, .ref 1), (2, .int x2), (3, .int x3), (4, .int x4)] [] (by rfl) ?_ | refine fo_goL mi_k77 fz77_182_2_118 [(6, .int (l6_11 + 1)), (8, .int ((a11 79).getD ((2 * l6_11) + 1).toNatClampNeg 0)), (7, .int ((a11 79).getD (2 * l6_11).toNatClampNeg 0)), (5, .int l5_7), (0, .ref 49), (1, .ref 1), (2, .int x2), (3, .int x3), (4, .int x4)] [] (by rfl) ?_ | refine ft_go mi_k77 2 118 [(6, .int (l6_11 + 1)), (8, .int ((a11 79).getD ((2 * l6_11) + 1).toNatClampNeg 0)), (7, .int ((a11 79).getD (2 * l6_11).toNatClampNeg 0)), (5, .int l5_7), (0, .ref 49), (1, .ref 1), (2, .int x2), (3, .int x3), (4, .int x4)] [] i11 a29 q11 r11 (by rfl) ?_
                      refine ko_perm [(6, .int (l6_11 + 1)), (5, .int l5_7), (0, .ref 49), (1, .ref 1), (2, .int x2), (3, .int x3), (4, .int x4)] (List.forall_mem_cons.mpr ⟨(List.Mem.head _), (List.forall_mem_cons.mpr ⟨(List.Mem.tail _ (List.Mem.tail _ (List.Mem.tail _ (List.Mem.head _)))), (List.forall_mem_cons.mpr ⟨(List.Mem.tail _ (List.Mem.tail _ (List.Mem.tail _ (List.Mem.tail _ (List.Mem.head _))))), (List.forall_mem_cons.mpr ⟨(List.Mem.tail _ (List.Mem.tail _ (List.Mem.tail _ (List.Mem.tail _ (List.Mem.tail _ (List.Mem.head _)))))), (List.forall_mem_cons.mpr ⟨(List.Mem.tail _ (List.Mem.tail _ (List.Mem.tail _ (List.Mem.tail _ (List.Mem.tail _ (List.Mem.tail _ (List.Mem.head _))))))), (List.forall_mem_cons.mpr ⟨(List.Mem.tail _ (List.Mem.tail _ (List.Mem.tail _ (List.Mem.tail _ (List.Mem.tail _ (List.Mem.tail _ (List.Mem.tail _ (List.Mem.head _)))))))), (List.forall_mem_cons.mpr ⟨(List.Mem.tail _ (List.Mem.tail _ (List.Mem.tail _ (List.Mem.tail _ (List.Mem.tail _ (List.Mem.tail _ (List.Mem.tail _ (List.Mem.tail _ (List.Mem.head _))))))))), (fun _ h => absurd h List.not_mem_nil)⟩)⟩)⟩)⟩)⟩)⟩)⟩) ?_
                      exact ih11 _ _ _ _ _ hJ29 (oz14 p11_0 s30 kn1) (oz1216 c10 p7_0 kn0) (kj_meas (oz1217 s30 kn1) (oz1218 c17 s13) hm11)
              exact lp11 _ _ _ _ _ _ (kG_self _ hL7.I hL7.R) (oz46 kn0) (oz1216 c10 p7_0 kn0) (Nat.lt_succ_self _)
        exact lp7 _ _ _ _ _ _ (kG_self _ hG5.I hG5.R) (oz1219 hp0.2 s6 kn1) (Nat.lt_succ_self _)
      ·
        have c31 : l5_1.toInt < (1 <<< (x4 &&& 31)).toInt := kd_leF c; clear c
        first | refine ft_goS mi_k77 3 17 [.ref 1, .ref 50] (by rfl) ?_ | refine ft_go mi_k77 3 17 [(5, .int l5_1), (0, .ref 49), (1, .ref 1), (2, .int x2), (3, .int x3), (4, .int x4)] [.ref 1, .ref 50] i1 a1 q1 r1 (by rfl) ?_
        refine ko_callN mi_k77.1 (pc := 17) (ls := [(5, .int l5_1), (0, .ref 49), (1, .ref 1), (2, .int x2), (3, .int x3), (4, .int x4)]) (st := [.ref 1, .ref 50]) (h := ks i1 a1 q1 r1) (i := (.invokevirtual 56, 3, 34, 0, 9, 0, 212)) (mi_k77.2 _ _ (by rfl)) (ft_invS mi_pq34 (by rfl)) (cy := mi_c34) mi_pq34 rfl (kc34_50_1 hL1.I hL1.R ) (by decide) ?_
        intro ig32 ag32 qg32 rg32 kg32 hg32
        have hGg32 := kG_call hL1 kg32 (by decide +kernel)
        first | refine ft_goL mi_k77 2 23 [(6, .int 0), (5, .int l5_1), (0, .ref 49), (1, .ref 1), (2, .int x2), (3, .int x3), (4, .int x4)] [] (by rfl) ?_ | refine ft_go mi_k77 2 23 [(6, .int 0), (5, .int l5_1), (0, .ref 49), (1, .ref 1), (2, .int x2), (3, .int x3), (4, .int x4)] [] ig32 ag32 qg32 rg32 (by rfl) ?_
        have lp33 : ∀ (nz : Nat) (i33 : Nat → Int32) (a33 : Nat → List Int32) (q33 : Nat → List Int64) (r33 : Nat → Nat) (l6_33 : Int32), kG w77_49_1_L23 ig32 ag32 qg32 rg32 i33 a33 q33 r33 → ((0 : Int) ≤ l5_1.toInt) ∧ (l5_1.toInt ≤ 31) → (0 : Int) ≤ l6_33.toInt → ((x4.toInt - l6_33.toInt)).toNat < nz → ko 9 (mi_h77, mi_c77) P (23, [(6, .int l6_33), (5, .int l5_1), (0, .ref 49), (1, .ref 1), (2, .int x2), (3, .int x3), (4, .int x4)], [], (0, 0), ks i33 a33 q33 r33) := by
          intro nz
          induction nz with
          | zero =>
            intro _ _ _ _ _ _ _ _ hm
            exact absurd hm (Nat.not_lt_zero _)
          | succ nz ih33 =>
            intro i33 a33 q33 r33 l6_33 hL33 p33_0 p33_1 hm33
            first | refine ft_goL mi_k77 2 27 [(6, .int l6_33), (5, .int l5_1), (0, .ref 49), (1, .ref 1), (2, .int x2), (3, .int x3), (4, .int x4)] [.int x4, .int l6_33] (by rfl) ?_ | refine ft_go mi_k77 2 27 [(6, .int l6_33), (5, .int l5_1), (0, .ref 49), (1, .ref 1), (2, .int x2), (3, .int x3), (4, .int x4)] [.int x4, .int l6_33] i33 a33 q33 r33 (by rfl) ?_
            refine ft_ifS mi_k77 (decide (x4 ≤ l6_33)) 72 30 [] (by rfl) (fun c => ?_) (fun c => ?_)
            ·
              have c34 : x4.toInt ≤ l6_33.toInt := kd_le c; clear c
              have hG35 := kG_call hGg32 hL33 (by decide +kernel)
              first | refine fo_goS mi_k77 fz77_72_7_84 [.int 0, .int x2, .ref 50, .int l5_1, .ref 79] (by rfl) ?_ | refine ft_go mi_k77 7 84 [(6, .int l6_33), (5, .int l5_1), (0, .ref 49), (1, .ref 1), (2, .int x2), (3, .int x3), (4, .int x4)] [.int 0, .int x2, .ref 50, .int l5_1, .ref 79] i33 a33 q33 r33 (by rfl) ?_
              refine ko_callPI mi_k77.1 (pc := 84) (ls := [(6, .int l6_33), (5, .int l5_1), (0, .ref 49), (1, .ref 1), (2, .int x2), (3, .int x3), (4, .int x4)]) (st := [.int 0, .int x2, .ref 50, .int l5_1, .ref 79]) (h := ks i33 a33 q33 r33) (i := (.invokevirtual 85, 3, 27, 0, 9, 0, 240)) (mi_k77.2 _ _ (by rfl)) (ft_invS mi_pq27 (by rfl)) (cy := mi_c27) mi_pq27 rfl (kc27_50 hG35.I hG35.R x2 0) (by decide) ?_
              intro vg36 hg36
              first | refine ft_goS mi_k77 4 93 [.int 0, .int x3, .ref 50, .int vg36, .int l5_1, .ref 79] (by rfl) ?_ | refine ft_go mi_k77 4 93 [(6, .int l6_33), (5, .int l5_1), (0, .ref 49), (1, .ref 1), (2, .int x2), (3, .int x3), (4, .int x4)] [.int 0, .int x3, .ref 50, .int vg36, .int l5_1, .ref 79] i33 a33 q33 r33 (by rfl) ?_
              refine ko_callPI mi_k77.1 (pc := 93) (ls := [(6, .int l6_33), (5, .int l5_1), (0, .ref 49), (1, .ref 1), (2, .int x2), (3, .int x3), (4, .int x4)]) (st := [.int 0, .int x3, .ref 50, .int vg36, .int l5_1, .ref 79]) (h := ks i33 a33 q33 r33) (i := (.invokevirtual 85, 3, 27, 0, 9, 0, 240)) (mi_k77.2 _ _ (by rfl)) (ft_invS mi_pq27 (by rfl)) (cy := mi_c27) mi_pq27 rfl (kc27_50 hG35.I hG35.R x3 0) (by decide) ?_
              intro vg37 hg37
              have b38 : ((-2147483648 : Int) ≤ vg36.toInt) ∧ (vg36.toInt ≤ 2147483647) := kd_bd vg36
              have b39 : ((-2147483648 : Int) ≤ vg37.toInt) ∧ (vg37.toInt ≤ 2147483647) := kd_bd vg37
              first | refine ft_goS mi_k77 1 97 [.int (vg36 - vg37), .int l5_1, .ref 79] (by rfl) ?_ | refine ft_go mi_k77 1 97 [(6, .int l6_33), (5, .int l5_1), (0, .ref 49), (1, .ref 1), (2, .int x2), (3, .int x3), (4, .int x4)] [.int (vg36 - vg37), .int l5_1, .ref 79] i33 a33 q33 r33 (by rfl) ?_
              refine ko_iast3 mi_k77.1 (n := 32) (c := 32) (ax := (0, 0, 0, 0, 0)) (mi_k77.2 _ _ (by rfl)) (by rfl) (ksG79 _ _ _ _) (ksA79 _ _ _ _) (hG35.I.2.1 79) rfl (oz3 p1_0) (oz1220 p33_0.2) ?_
              intro a40 ea40 fa40
              have hJ40 := kG_a3 hG35 79 rfl ea40 fa40 (kd_bd _)
              have s41 : (l5_1 + 1).toInt = l5_1.toInt + (1 : Int32).toInt := kd_add (oz12 p1_0 kn1) (oz1221 p33_0.2 kn1)
              first | refine ft_goL mi_k77 2 3 [(5, .int (l5_1 + 1)), (6, .int l6_33), (0, .ref 49), (1, .ref 1), (2, .int x2), (3, .int x3), (4, .int x4)] [] (by rfl) ?_ | refine ft_go mi_k77 2 3 [(5, .int (l5_1 + 1)), (6, .int l6_33), (0, .ref 49), (1, .ref 1), (2, .int x2), (3, .int x3), (4, .int x4)] [] i33 a40 q33 r33 (by rfl) ?_
              refine ko_perm [(5, .int (l5_1 + 1)), (0, .ref 49), (1, .ref 1), (2, .int x2), (3, .int x3), (4, .int x4)] (List.forall_mem_cons.mpr ⟨(List.Mem.head _), (List.forall_mem_cons.mpr ⟨(List.Mem.tail _ (List.Mem.tail _ (List.Mem.head _))), (List.forall_mem_cons.mpr ⟨(List.Mem.tail _ (List.Mem.tail _ (List.Mem.tail _ (List.Mem.head _)))), (List.forall_mem_cons.mpr ⟨(List.Mem.tail _ (List.Mem.tail _ (List.Mem.tail _ (List.Mem.tail _ (List.Mem.head _))))), (List.forall_mem_cons.mpr ⟨(List.Mem.tail _ (List.Mem.tail _ (List.Mem.tail _ (List.Mem.tail _ (List.Mem.tail _ (List.Mem.head _)))))), (List.forall_mem_cons.mpr ⟨(List.Mem.tail _ (List.Mem.tail _ (List.Mem.tail _ (List.Mem.tail _ (List.Mem.tail _ (List.Mem.tail _ (List.Mem.head _))))))), (fun _ h => absurd h List.not_mem_nil)⟩)⟩)⟩)⟩)⟩)⟩) ?_
              exact ih1 _ _ _ _ _ hJ40 (oz14 p1_0 s41 kn1) (kj_meas (oz1186 s41 kn1) (oz1222 p33_0.2) hm1)
            ·
              have c42 : l6_33.toInt < x4.toInt := kd_leF c; clear c
              have s43 : (x4 - 1).toInt = x4.toInt - (1 : Int32).toInt := kd_sub (oz341 hp0.1 kn1) (oz342 hp0.2 kn1)
              have s44 : ((x4 - 1) - l6_33).toInt = (x4 - 1).toInt - l6_33.toInt := kd_sub (oz1223 c42 s43 kn1) (oz1224 hp0.2 p33_1 s43 kn1)
              first | refine ft_goS mi_k77 10 43 [.int 1, .int ((l5_1 >>> (((x4 - 1) - l6_33) &&& 31)) &&& 1)] (by rfl) ?_ | refine ft_go mi_k77 10 43 [(6, .int l6_33), (5, .int l5_1), (0, .ref 49), (1, .ref 1), (2, .int x2), (3, .int x3), (4, .int x4)] [.int 1, .int ((l5_1 >>> (((x4 - 1) - l6_33) &&& 31)) &&& 1)] i33 a33 q33 r33 (by rfl) ?_
              refine ft_ifS mi_k77 (((l5_1 >>> (((x4 - 1) - l6_33) &&& 31)) &&& 1) != 1) 66 46 [] (by rfl) (fun c => ?_) (fun c => ?_)
              ·
                have c45 : ((l5_1 >>> (((x4 - 1) - l6_33) &&& 31)) &&& 1).toInt ≠ (1 : Int32).toInt := kd_ne c; clear c
                have s46 : (l6_33 + 1).toInt = l6_33.toInt + (1 : Int32).toInt := kd_add (oz12 p33_1 kn1) (oz370 c42 hp0.2 kn1)
                first | refine ft_goL mi_k77 2 23 [(6, .int (l6_33 + 1)), (5, .int l5_1), (0, .ref 49), (1, .ref 1), (2, .int x2), (3, .int x3), (4, .int x4)] [] (by rfl) ?_ | refine ft_go mi_k77 2 23 [(6, .int (l6_33 + 1)), (5, .int l5_1), (0, .ref 49), (1, .ref 1), (2, .int x2), (3, .int x3), (4, .int x4)] [] i33 a33 q33 r33 (by rfl) ?_
                exact ih33 _ _ _ _ _ hL33 (oz1225 p1_0 p33_0.2) (oz14 p33_1 s46 kn1) (kj_meas (oz44 s46 kn1) (oz45 c42) hm33)
              ·
                have c47 : ((l5_1 >>> (((x4 - 1) - l6_33) &&& 31)) &&& 1).toInt = (1 : Int32).toInt := kd_neF c; clear c
                have s48 : (l6_33 - l6_33 / 2 * 2).toInt = (l6_33.toInt % 2) := kd_rem 2 kn2 (by decide) (oz3 p33_1)
                first | refine fo_goS mi_k77 fz77_46_5_54 [.int (l6_33 - l6_33 / 2 * 2), .ref 50] (by rfl) ?_ | refine ft_go mi_k77 5 54 [(6, .int l6_33), (5, .int l5_1), (0, .ref 49), (1, .ref 1), (2, .int x2), (3, .int x3), (4, .int x4)] [.int (l6_33 - l6_33 / 2 * 2), .ref 50] i33 a33 q33 r33 (by rfl) ?_
                refine ft_ifS mi_k77 ((l6_33 - l6_33 / 2 * 2) != 0) 61 57 [.ref 50] (by rfl) (fun c => ?_) (fun c => ?_)
                ·
                  have c49 : (l6_33 - l6_33 / 2 * 2).toInt ≠ (0 : Int32).toInt := kd_ne c; clear c
                  first | refine ft_goS mi_k77 1 62 [.int x3, .ref 50] (by rfl) ?_ | refine ft_go mi_k77 1 62 [(6, .int l6_33), (5, .int l5_1), (0, .ref 49), (1, .ref 1), (2, .int x2), (3, .int x3), (4, .int x4)] [.int x3, .ref 50] i33 a33 q33 r33 (by rfl) ?_
                  refine ko_callI mi_k77.1 (pc := 62) (ls := [(6, .int l6_33), (5, .int l5_1), (0, .ref 49), (1, .ref 1), (2, .int x2), (3, .int x3), (4, .int x4)]) (st := [.int x3, .ref 50]) (h := ks i33 a33 q33 r33) (i := (.invokevirtual 63, 3, 29, 0, 9, 0, 220)) (mi_k77.2 _ _ (by rfl)) (ft_invS mi_pq29 (by rfl)) (cy := mi_c29) mi_pq29 rfl (kc29_50 hL33.I hL33.R x3) (by decide) ?_
                  intro vg50 ig50 ag50 qg50 rg50 kg50 hg50
                  have hGg50 := kG_call hL33 kg50 (by decide +kernel)
                  have s51 : (l6_33 + 1).toInt = l6_33.toInt + (1 : Int32).toInt := kd_add (oz12 p33_1 kn1) (oz370 c42 hp0.2 kn1)
                  first | refine fo_goL mi_k77 fz77_65_3_23 [(6, .int (l6_33 + 1)), (5, .int l5_1), (0, .ref 49), (1, .ref 1), (2, .int x2), (3, .int x3), (4, .int x4)] [] (by rfl) ?_ | refine ft_goL mi_k77 3 23 [(6, .int (l6_33 + 1)), (5, .int l5_1), (0, .ref 49), (1, .ref 1), (2, .int x2), (3, .int x3), (4, .int x4)] [] (by rfl) ?_ | refine ft_go mi_k77 3 23 [(6, .int (l6_33 + 1)), (5, .int l5_1), (0, .ref 49), (1, .ref 1), (2, .int x2), (3, .int x3), (4, .int x4)] [] ig50 ag50 qg50 rg50 (by rfl) ?_
                  exact ih33 _ _ _ _ _ hGg50 (oz1225 p1_0 p33_0.2) (oz14 p33_1 s51 kn1) (kj_meas (oz44 s51 kn1) (oz45 c42) hm33)
                ·
                  have c52 : (l6_33 - l6_33 / 2 * 2).toInt = (0 : Int32).toInt := kd_neF c; clear c
                  first | refine ft_goS mi_k77 2 62 [.int x2, .ref 50] (by rfl) ?_ | refine ft_go mi_k77 2 62 [(6, .int l6_33), (5, .int l5_1), (0, .ref 49), (1, .ref 1), (2, .int x2), (3, .int x3), (4, .int x4)] [.int x2, .ref 50] i33 a33 q33 r33 (by rfl) ?_
                  refine ko_callI mi_k77.1 (pc := 62) (ls := [(6, .int l6_33), (5, .int l5_1), (0, .ref 49), (1, .ref 1), (2, .int x2), (3, .int x3), (4, .int x4)]) (st := [.int x2, .ref 50]) (h := ks i33 a33 q33 r33) (i := (.invokevirtual 63, 3, 29, 0, 9, 0, 220)) (mi_k77.2 _ _ (by rfl)) (ft_invS mi_pq29 (by rfl)) (cy := mi_c29) mi_pq29 rfl (kc29_50 hL33.I hL33.R x2) (by decide) ?_
                  intro vg53 ig53 ag53 qg53 rg53 kg53 hg53
                  have hGg53 := kG_call hL33 kg53 (by decide +kernel)
                  have s54 : (l6_33 + 1).toInt = l6_33.toInt + (1 : Int32).toInt := kd_add (oz12 p33_1 kn1) (oz370 c42 hp0.2 kn1)
                  first | refine fo_goL mi_k77 fz77_65_3_23 [(6, .int (l6_33 + 1)), (5, .int l5_1), (0, .ref 49), (1, .ref 1), (2, .int x2), (3, .int x3), (4, .int x4)] [] (by rfl) ?_ | refine ft_goL mi_k77 3 23 [(6, .int (l6_33 + 1)), (5, .int l5_1), (0, .ref 49), (1, .ref 1), (2, .int x2), (3, .int x3), (4, .int x4)] [] (by rfl) ?_ | refine ft_go mi_k77 3 23 [(6, .int (l6_33 + 1)), (5, .int l5_1), (0, .ref 49), (1, .ref 1), (2, .int x2), (3, .int x3), (4, .int x4)] [] ig53 ag53 qg53 rg53 (by rfl) ?_
                  exact ih33 _ _ _ _ _ hGg53 (oz1225 p1_0 p33_0.2) (oz14 p33_1 s54 kn1) (kj_meas (oz44 s54 kn1) (oz45 c42) hm33)
        exact lp33 _ _ _ _ _ _ (kG_self _ hGg32.I hGg32.R) (oz1226 c31 p1_0 s3) (oz46 kn0) (Nat.lt_succ_self _)
  exact lp1 _ _ _ _ _ _ (kG_self _ hG.I hG.R) (oz46 kn0) (Nat.lt_succ_self _)
def w100_0 : kW := ([645, 3200, 3206, 3207, 3208, 3209, 3214, 3215, 3216, 3586, 3781, 6405], [13, 51, 52, 53, 54, 55, 57, 58, 62, 63, 65, 66, 67, 68, 69, 70, 71, 72, 73, 79, 103], [], [1])
set_option maxRecDepth 100000 in
theorem kc100_0 {i : Nat → Int32} {a : Nat → List Int32} {q : Nat → List Int64} {r : Nat → Nat} (hI : kI i a q) (hr : kr r) (x1 : Int32) (x2 : Int32) (x3 : Int32) : km 11 100 [.ref 0, .int x1, .int x2, .int x3] (ks i a q r) (kVI w100_0 i a q r (fun v i1 a1 q1 r1 => True)) := by
  have hG := kG_self w100_0 hI hr
  refine km_ofI (q := (mi_h100, mi_c100)) rfl (by decide) (Nat.le_of_ble_eq_true rfl) ?_
  intro P hP
  first | refine ft_goL mi_k100 2 2 [(0, .ref 0), (1, .int x1), (2, .int x2), (3, .int x3)] [.int x1, .ref 0] (by rfl) ?_ | refine ft_go mi_k100 2 2 [(0, .ref 0), (1, .int x1), (2, .int x2), (3, .int x3)] [.int x1, .ref 0] i a q r (by rfl) ?_
  refine ko_callPI mi_k100.1 (pc := 2) (ls := [(0, .ref 0), (1, .int x1), (2, .int x2), (3, .int x3)]) (st := [.int x1, .ref 0]) (h := ks i a q r) (i := (.invokevirtual 200, 3, 124, 0, 9, 0, 254)) (mi_k100.2 _ _ (by rfl)) (ft_invS mi_pq124 (by rfl)) (cy := mi_c124) mi_pq124 rfl (kc124_0 hG.I hG.R x1) (by decide) ?_
  intro vg1 hg1
  rcases hg1 with ⟨eg1, hg1⟩ | ⟨eg1, hg1⟩
  ·
    subst eg1
    have z2 : ((0 : Int) ≤ x1.toInt) ∧ (((x1.toInt / 10) < (i 64).toInt) ∧ ((x1.toInt % 10) < (i 64).toInt)) ∧ ((x1.toInt / 10) ≠ (x1.toInt % 10)) := hg1
    first | refine ft_goS mi_k100 4 11 [.int 5, .int 1, .int x2] (by rfl) ?_ | refine ft_go mi_k100 4 11 [(0, .ref 0), (1, .int x1), (2, .int x2), (3, .int x3)] [.int 5, .int 1, .int x2] i a q r (by rfl) ?_
    refine ko_callPI mi_k100.1 (pc := 11) (ls := [(0, .ref 0), (1, .int x1), (2, .int x2), (3, .int x3)]) (st := [.int 5, .int 1, .int x2]) (h := ks i a q r) (i := (.invokestatic 74, 3, 120, 0, 9, 0, 152)) (mi_k100.2 _ _ (by rfl)) (ft_invS mi_pq120 (by rfl)) (cy := mi_c120) mi_pq120 rfl (kc120 hG.I hG.R x2 1 5) (by decide) ?_
    intro vg3 hg3
    rcases hg3 with ⟨eg3, hg3⟩ | ⟨eg3, hg3⟩
    ·
      subst eg3
      have z4 : ((1 : Int32).toInt ≤ x2.toInt) ∧ (x2.toInt ≤ (5 : Int32).toInt) := hg3
      first | refine ft_goS mi_k100 4 20 [.int 1, .int 0, .int x3] (by rfl) ?_ | refine ft_go mi_k100 4 20 [(0, .ref 0), (1, .int x1), (2, .int x2), (3, .int x3)] [.int 1, .int 0, .int x3] i a q r (by rfl) ?_
      refine ko_callPI mi_k100.1 (pc := 20) (ls := [(0, .ref 0), (1, .int x1), (2, .int x2), (3, .int x3)]) (st := [.int 1, .int 0, .int x3]) (h := ks i a q r) (i := (.invokestatic 74, 3, 120, 0, 9, 0, 152)) (mi_k100.2 _ _ (by rfl)) (ft_invS mi_pq120 (by rfl)) (cy := mi_c120) mi_pq120 rfl (kc120 hG.I hG.R x3 0 1) (by decide) ?_
      intro vg5 hg5
      rcases hg5 with ⟨eg5, hg5⟩ | ⟨eg5, hg5⟩
      ·
        subst eg5
        have s7 : (x1 / 10).toInt = (x1.toInt / 10) := kd_div 10 kn10 (by decide) (oz3 z2.1)
        have s8 : (x1 - x1 / 10 * 10).toInt = (x1.toInt % 10) := kd_rem 10 kn10 (by decide) (oz3 z2.1)
        first | refine fo_goS mi_k100 fz100_23_12_46 [.int x2, .int (x1 - x1 / 10 * 10), .int (x1 / 10), .ref 1, .ref 49] (by rfl) ?_ | refine ft_go mi_k100 12 46 [(0, .ref 0), (1, .int x1), (2, .int x2), (3, .int x3)] [.int x2, .int (x1 - x1 / 10 * 10), .int (x1 / 10), .ref 1, .ref 49] i a q r (by rfl) ?_
        refine ko_callN mi_k100.1 (pc := 46) (ls := [(0, .ref 0), (1, .int x1), (2, .int x2), (3, .int x3)]) (st := [.int x2, .int (x1 - x1 / 10 * 10), .int (x1 / 10), .ref 1, .ref 49]) (h := ks i a q r) (i := (.invokevirtual 239, 3, 77, 0, 9, 0, 274)) (mi_k100.2 _ _ (by rfl)) (ft_invS mi_pq77 (by rfl)) (cy := mi_c77) mi_pq77 rfl (kc77_49_1 hG.I hG.R (x1 / 10) (x1 - x1 / 10 * 10) x2 (oz1227 z4.1 z4.2 kn1 kn5)) (by decide) ?_
        intro ig9 ag9 qg9 rg9 kg9 hg9
        have hGg9 := kG_call hG kg9 (by decide +kernel)
        first | refine ft_goS mi_k100 4 57 [.int 0, .ref 79] (by rfl) ?_ | refine ft_go mi_k100 4 57 [(0, .ref 0), (1, .int x1), (2, .int x2), (3, .int x3)] [.int 0, .ref 79] ig9 ag9 qg9 rg9 (by rfl) ?_
        refine ko_iald3 mi_k100.1 (n := 32) (c := 32) (ax := (0, 0, 0, 0, 0)) (mi_k100.2 _ _ (by rfl)) (by rfl) (ksG79 _ _ _ _) (hGg9.I.2.1 79) rfl (oz46 kn0) (oz1228 kn0) ?_
        first | refine fo_goL mi_k100 fz100_58_5_68 [(4, .int ((ag9 79).getD (0 : Int32).toNatClampNeg 0)), (0, .ref 0), (1, .int x1), (2, .int x2), (3, .int x3)] [.int 1, .ref 79] (by rfl) ?_ | refine ft_go mi_k100 5 68 [(4, .int ((ag9 79).getD (0 : Int32).toNatClampNeg 0)), (0, .ref 0), (1, .int x1), (2, .int x2), (3, .int x3)] [.int 1, .ref 79] ig9 ag9 qg9 rg9 (by rfl) ?_
        refine ko_iald3 mi_k100.1 (n := 32) (c := 32) (ax := (0, 0, 0, 0, 0)) (mi_k100.2 _ _ (by rfl)) (by rfl) (ksG79 _ _ _ _) (hGg9.I.2.1 79) rfl (oz246 kn1) (oz1229 kn1) ?_
        first | refine ft_goL mi_k100 3 73 [(5, .int ((ag9 79).getD (1 : Int32).toNatClampNeg 0)), (4, .int ((ag9 79).getD (0 : Int32).toNatClampNeg 0)), (0, .ref 0), (1, .int x1), (2, .int x2), (3, .int x3)] [.int 1, .int x3] (by rfl) ?_ | refine ft_go mi_k100 3 73 [(5, .int ((ag9 79).getD (1 : Int32).toNatClampNeg 0)), (4, .int ((ag9 79).getD (0 : Int32).toNatClampNeg 0)), (0, .ref 0), (1, .int x1), (2, .int x2), (3, .int x3)] [.int 1, .int x3] ig9 ag9 qg9 rg9 (by rfl) ?_
        refine ft_ifS mi_k100 (x3 != 1) 89 76 [] (by rfl) (fun c => ?_) (fun c => ?_)
        ·
          have c10 : x3.toInt ≠ (1 : Int32).toInt := kd_ne c; clear c
          first | refine ft_goS mi_k100 2 93 [.int ((ag9 79).getD (0 : Int32).toNatClampNeg 0), .int ((ag9 79).getD (1 : Int32).toNatClampNeg 0)] (by rfl) ?_ | refine ft_go mi_k100 2 93 [(5, .int ((ag9 79).getD (1 : Int32).toNatClampNeg 0)), (4, .int ((ag9 79).getD (0 : Int32).toNatClampNeg 0)), (0, .ref 0), (1, .int x1), (2, .int x2), (3, .int x3)] [.int ((ag9 79).getD (0 : Int32).toNatClampNeg 0), .int ((ag9 79).getD (1 : Int32).toNatClampNeg 0)] ig9 ag9 qg9 rg9 (by rfl) ?_
          have m12 : ((((ag9 79).getD (1 : Int32).toNatClampNeg 0).toInt ≤ (bif decide (((ag9 79).getD (1 : Int32).toNatClampNeg 0) < ((ag9 79).getD (0 : Int32).toNatClampNeg 0)) then ((ag9 79).getD (0 : Int32).toNatClampNeg 0) else ((ag9 79).getD (1 : Int32).toNatClampNeg 0)).toInt) ∧ (((ag9 79).getD (0 : Int32).toNatClampNeg 0).toInt ≤ (bif decide (((ag9 79).getD (1 : Int32).toNatClampNeg 0) < ((ag9 79).getD (0 : Int32).toNatClampNeg 0)) then ((ag9 79).getD (0 : Int32).toNatClampNeg 0) else ((ag9 79).getD (1 : Int32).toNatClampNeg 0)).toInt)) ∧ ((bif decide (((ag9 79).getD (1 : Int32).toNatClampNeg 0) < ((ag9 79).getD (0 : Int32).toNatClampNeg 0)) then ((ag9 79).getD (0 : Int32).toNatClampNeg 0) else ((ag9 79).getD (1 : Int32).toNatClampNeg 0)).toInt = ((ag9 79).getD (1 : Int32).toNatClampNeg 0).toInt ∨ (bif decide (((ag9 79).getD (1 : Int32).toNatClampNeg 0) < ((ag9 79).getD (0 : Int32).toNatClampNeg 0)) then ((ag9 79).getD (0 : Int32).toNatClampNeg 0) else ((ag9 79).getD (1 : Int32).toNatClampNeg 0)).toInt = ((ag9 79).getD (0 : Int32).toNatClampNeg 0).toInt) := kd_max
          first | refine ft_goS mi_k100 1 96 [.int (bif decide (((ag9 79).getD (1 : Int32).toNatClampNeg 0) < ((ag9 79).getD (0 : Int32).toNatClampNeg 0)) then ((ag9 79).getD (0 : Int32).toNatClampNeg 0) else ((ag9 79).getD (1 : Int32).toNatClampNeg 0))] (by rfl) ?_ | refine ft_go mi_k100 1 96 [(5, .int ((ag9 79).getD (1 : Int32).toNatClampNeg 0)), (4, .int ((ag9 79).getD (0 : Int32).toNatClampNeg 0)), (0, .ref 0), (1, .int x1), (2, .int x2), (3, .int x3)] [.int (bif decide (((ag9 79).getD (1 : Int32).toNatClampNeg 0) < ((ag9 79).getD (0 : Int32).toNatClampNeg 0)) then ((ag9 79).getD (0 : Int32).toNatClampNeg 0) else ((ag9 79).getD (1 : Int32).toNatClampNeg 0))] ig9 ag9 qg9 rg9 (by rfl) ?_
          generalize (bif decide (((ag9 79).getD (1 : Int32).toNatClampNeg 0) < ((ag9 79).getD (0 : Int32).toNatClampNeg 0)) then ((ag9 79).getD (0 : Int32).toNatClampNeg 0) else ((ag9 79).getD (1 : Int32).toNatClampNeg 0)) = m11 at m12 ⊢
          exact ft_ret mi_k100 (by rfl) (hP m11 _ _ _ _ hGg9 trivial)
        ·
          have c13 : x3.toInt = (1 : Int32).toInt := kd_neF c; clear c
          first | refine ft_goS mi_k100 2 80 [.int ((ag9 79).getD (0 : Int32).toNatClampNeg 0), .int ((ag9 79).getD (1 : Int32).toNatClampNeg 0)] (by rfl) ?_ | refine ft_go mi_k100 2 80 [(5, .int ((ag9 79).getD (1 : Int32).toNatClampNeg 0)), (4, .int ((ag9 79).getD (0 : Int32).toNatClampNeg 0)), (0, .ref 0), (1, .int x1), (2, .int x2), (3, .int x3)] [.int ((ag9 79).getD (0 : Int32).toNatClampNeg 0), .int ((ag9 79).getD (1 : Int32).toNatClampNeg 0)] ig9 ag9 qg9 rg9 (by rfl) ?_
          refine ft_ifS mi_k100 (decide (((ag9 79).getD (1 : Int32).toNatClampNeg 0) ≤ ((ag9 79).getD (0 : Int32).toNatClampNeg 0))) 87 83 [] (by rfl) (fun c => ?_) (fun c => ?_)
          ·
            have c14 : ((ag9 79).getD (1 : Int32).toNatClampNeg 0).toInt ≤ ((ag9 79).getD (0 : Int32).toNatClampNeg 0).toInt := kd_le c; clear c
            first | refine ft_goS mi_k100 1 88 [.int 0] (by rfl) ?_ | refine ft_go mi_k100 1 88 [(5, .int ((ag9 79).getD (1 : Int32).toNatClampNeg 0)), (4, .int ((ag9 79).getD (0 : Int32).toNatClampNeg 0)), (0, .ref 0), (1, .int x1), (2, .int x2), (3, .int x3)] [.int 0] ig9 ag9 qg9 rg9 (by rfl) ?_
            exact ft_ret mi_k100 (by rfl) (hP 0 _ _ _ _ hGg9 trivial)
          ·
            have c15 : ((ag9 79).getD (0 : Int32).toNatClampNeg 0).toInt < ((ag9 79).getD (1 : Int32).toNatClampNeg 0).toInt := kd_leF c; clear c
            first | refine ft_goS mi_k100 2 88 [.int 1] (by rfl) ?_ | refine ft_go mi_k100 2 88 [(5, .int ((ag9 79).getD (1 : Int32).toNatClampNeg 0)), (4, .int ((ag9 79).getD (0 : Int32).toNatClampNeg 0)), (0, .ref 0), (1, .int x1), (2, .int x2), (3, .int x3)] [.int 1] ig9 ag9 qg9 rg9 (by rfl) ?_
            exact ft_ret mi_k100 (by rfl) (hP 1 _ _ _ _ hGg9 trivial)
      ·
        subst eg5
        first | refine ft_goS mi_k100 2 28 [.int (-2000000000)] (by rfl) ?_ | refine ft_go mi_k100 2 28 [(0, .ref 0), (1, .int x1), (2, .int x2), (3, .int x3)] [.int (-2000000000)] i a q r (by rfl) ?_
        exact ft_ret mi_k100 (by rfl) (hP (-2000000000) _ _ _ _ hG trivial)
    ·
      subst eg3
      first | refine ft_goS mi_k100 2 28 [.int (-2000000000)] (by rfl) ?_ | refine ft_go mi_k100 2 28 [(0, .ref 0), (1, .int x1), (2, .int x2), (3, .int x3)] [.int (-2000000000)] i a q r (by rfl) ?_
      exact ft_ret mi_k100 (by rfl) (hP (-2000000000) _ _ _ _ hG trivial)
  ·
    subst eg1
    first | refine ft_goS mi_k100 2 28 [.int (-2000000000)] (by rfl) ?_ | refine ft_go mi_k100 2 28 [(0, .ref 0), (1, .int x1), (2, .int x2), (3, .int x3)] [.int (-2000000000)] i a q r (by rfl) ?_
    exact ft_ret mi_k100 (by rfl) (hP (-2000000000) _ _ _ _ hG trivial)
end
section
theorem oz1233 {a0 a1 a2 : Int} (h0 : a0 ≤ 40) (h1 : a1 = a0 - a2) (h2 : a2 = 1) : a1 < 40 := by omega
theorem oz1234 {a0 a1 : Int} (h0 : a0 < a1) (h1 : a1 ≤ 40) : a0 < 40 := by omega
theorem oz1235 {a0 a1 a2 a3 a4 : Int} (h0 : a0 < a1) (h1 : a2 = a0) (h2 : a1 ≤ 40) (h3 : a3 = a2 + a4) (h4 : a4 = 1) : a3 ≤ 40 := by omega
theorem oz1236 {a0 a1 : Int} (h0 : a0 < a1) (h1 : a1 = 50) : a0 < 50 := by omega
theorem oz1237 {a0 a1 a2 a3 : Int} (h0 : a0 < a1) (h1 : a2 = a0 + a3) (h2 : a1 = 50) (h3 : a3 = 1) : a2 ≤ 50 := by omega
theorem oz1238 {a0 a1 a2 : Int} (h0 : a0 ≤ 50) (h1 : a1 = a0 + a2) (h2 : a2 = 1) : a1 - a2 ≤ 2147483647 := by omega
theorem oz1239 {a0 a1 a2 : Int} (h0 : a0 ≤ a1) (h1 : a1 ≤ a2) (h2 : a0 = 0) (h3 : a2 = 7) : ((0 : Int) ≤ a1) ∧ (a1 ≤ 7) := by omega
theorem oz1240 {a0 a1 a2 a3 : Int} (h0 : (0 : Int) ≤ a0) (h1 : a1 = a0 ∨ a1 = a2) (h2 : a2 = 24) (h3 : a3 = 1) : (-2147483648 : Int) ≤ a1 - a3 := by omega
theorem oz1241 {a0 : Int} (h0 : a0 = 1) : a0 ≤ 2 := by omega
theorem oz1242 {a0 : Int} (h0 : a0 = 0) : a0 ≤ 2 := by omega
theorem oz1244 {a0 a1 a2 : Int} (h0 : a0 < a1) (h1 : a2 ≤ a0) (h2 : a1 ≤ 50) (h3 : a2 = 50) : False := by omega
theorem oz1245 {a0 : Int} (h0 : ¬ (a0 = 0)) (h1 : ¬ (a0 = 1)) (h2 : ¬ (a0 = 2)) (h3 : ¬ (a0 = 3)) (h4 : ¬ (a0 = 4)) (h5 : ¬ (a0 = 5)) (h6 : (0 : Int) ≤ a0) (h7 : a0 ≤ 5) : False := by omega
theorem oz1246 {a0 : Int} (h0 : a0 = 2) : a0 ≤ 2 := by omega
theorem oz1247 {a0 a1 a2 a3 : Int} (h0 : a0 ≤ a1) (h1 : a2 = a3 ∨ a2 = a0) (h2 : a1 = 60) (h3 : a3 = 0) : a2 ≤ 60 := by omega
set_option maxRecDepth 100000 in
theorem kc112_0 {i : Nat → Int32} {a : Nat → List Int32} {q : Nat → List Int64} {r : Nat → Nat} (hI : kI i a q) (hr : kr r) (x1 : Int32) : km 3 112 [.ref 0, .int x1] (ks i a q r) (kPI (ks i a q r) (fun v => True)) := by
  have hG := kG_self kW0 hI hr
  refine km_ofPI (q := (mi_h112, mi_c112)) rfl (by decide) (Nat.le_of_ble_eq_true rfl) ?_
  intro P hP
  have fi_6019 : ((0 : Int) ≤ (i 6019).toInt) ∧ ((i 6019).toInt ≤ 1000) := hG.I.1 6019
  first | refine fo_goL mi_k112 fz112_0_6_11 [(0, .ref 0), (1, .int x1)] [.int 24, .int (i 6019), .int 0, .int x1] (by rfl) ?_ | refine ft_go mi_k112 6 11 [(0, .ref 0), (1, .int x1)] [.int 24, .int (i 6019), .int 0, .int x1] i a q r (by rfl) ?_
  have m2 : (((bif decide (24 < (i 6019)) then 24 else (i 6019)).toInt ≤ (i 6019).toInt) ∧ ((bif decide (24 < (i 6019)) then 24 else (i 6019)).toInt ≤ (24 : Int32).toInt)) ∧ ((bif decide (24 < (i 6019)) then 24 else (i 6019)).toInt = (i 6019).toInt ∨ (bif decide (24 < (i 6019)) then 24 else (i 6019)).toInt = (24 : Int32).toInt) := kd_min
  first | refine ft_goS mi_k112 1 14 [.int (bif decide (24 < (i 6019)) then 24 else (i 6019)), .int 0, .int x1] (by rfl) ?_ | refine ft_go mi_k112 1 14 [(0, .ref 0), (1, .int x1)] [.int (bif decide (24 < (i 6019)) then 24 else (i 6019)), .int 0, .int x1] i a q r (by rfl) ?_
  generalize (bif decide (24 < (i 6019)) then 24 else (i 6019)) = m1 at m2 ⊢
  have s3 : (m1 - 1).toInt = m1.toInt - (1 : Int32).toInt := kd_sub (oz1240 fi_6019.1 m2.2 kn24 kn1) (oz581 m2.1.2 kn24 kn1)
  first | refine ft_goS mi_k112 2 16 [.int (m1 - 1), .int 0, .int x1] (by rfl) ?_ | refine ft_go mi_k112 2 16 [(0, .ref 0), (1, .int x1)] [.int (m1 - 1), .int 0, .int x1] i a q r (by rfl) ?_
  refine ko_callPI mi_k112.1 (pc := 16) (ls := [(0, .ref 0), (1, .int x1)]) (st := [.int (m1 - 1), .int 0, .int x1]) (h := ks i a q r) (i := (.invokestatic 74, 3, 120, 0, 9, 0, 152)) (mi_k112.2 _ _ (by rfl)) (ft_invS mi_pq120 (by rfl)) (cy := mi_c120) mi_pq120 rfl (kc120 hG.I hG.R x1 0 (m1 - 1)) (by decide) ?_
  intro vg4 hg4
  rcases hg4 with ⟨eg4, hg4⟩ | ⟨eg4, hg4⟩
  ·
    subst eg4
    have z5 : ((0 : Int32).toInt ≤ x1.toInt) ∧ (x1.toInt ≤ (m1 - 1).toInt) := hg4
    first | refine fo_goS mi_k112 fz112_19_5_30 [.int x1, .ref 96] (by rfl) ?_ | refine ft_go mi_k112 5 30 [(0, .ref 0), (1, .int x1)] [.int x1, .ref 96] i a q r (by rfl) ?_
    refine ko_iald3 mi_k112.1 (n := 24) (c := 24) (ax := (0, 0, 0, 0, 0)) (mi_k112.2 _ _ (by rfl)) (by rfl) (ksG96 _ _ _ _) (hG.I.2.1 96) rfl (oz389 z5.1 kn0) (oz582 m2.1.2 s3 z5.2 kn24 kn1) ?_
    first | refine ft_goS mi_k112 1 35 [.int ((a 96).getD x1.toNatClampNeg 0)] (by rfl) ?_ | refine ft_go mi_k112 1 35 [(0, .ref 0), (1, .int x1)] [.int ((a 96).getD x1.toNatClampNeg 0)] i a q r (by rfl) ?_
    exact ft_ret mi_k112 (by rfl) (hP ((a 96).getD x1.toNatClampNeg 0) trivial)
  ·
    subst eg4
    first | refine ft_goS mi_k112 2 35 [.int (-1)] (by rfl) ?_ | refine ft_go mi_k112 2 35 [(0, .ref 0), (1, .int x1)] [.int (-1)] i a q r (by rfl) ?_
    exact ft_ret mi_k112 (by rfl) (hP (-1) trivial)
set_option maxRecDepth 100000 in
theorem kc8_94 {i : Nat → Int32} {a : Nat → List Int32} {q : Nat → List Int64} {r : Nat → Nat} (hI : kI i a q) (hr : kr r) (x1 : Int32) : km 1 8 [.ref 94, .int x1] (ks i a q r) (kPI (ks i a q r) (fun v => (v = 1 ∧ (((0 : Int) ≤ x1.toInt) ∧ (x1.toInt < (i 6017).toInt))) ∨ (v = 0 ∧ (¬ (((0 : Int) ≤ x1.toInt) ∧ (x1.toInt < (i 6017).toInt)))))) := by
  have hG := kG_self kW0 hI hr
  refine km_ofPI (q := (mi_h8, mi_c8)) rfl (by decide) (Nat.le_of_ble_eq_true rfl) ?_
  intro P hP
  first | refine ft_goL mi_k8 1 1 [(0, .ref 94), (1, .int x1)] [.int x1] (by rfl) ?_ | refine ft_go mi_k8 1 1 [(0, .ref 94), (1, .int x1)] [.int x1] i a q r (by rfl) ?_
  refine ft_ifS mi_k8 (decide (x1 < 0)) 22 4 [] (by rfl) (fun c => ?_) (fun c => ?_)
  ·
    have c1 : x1.toInt < (0 : Int32).toInt := kd_lt c; clear c
    first | refine ft_goS mi_k8 1 23 [.int 0] (by rfl) ?_ | refine ft_go mi_k8 1 23 [(0, .ref 94), (1, .int x1)] [.int 0] i a q r (by rfl) ?_
    exact ft_ret mi_k8 (by rfl) (hP 0 (Or.inr ⟨rfl, (oz963 c1 kn0)⟩))
  ·
    have c2 : (0 : Int32).toInt ≤ x1.toInt := kd_ltF c; clear c
    have fi_6017 : ((0 : Int) ≤ (i 6017).toInt) ∧ ((i 6017).toInt ≤ 50) := hG.I.1 6017
    first | refine ft_goS mi_k8 3 9 [.int (i 6017), .int x1] (by rfl) ?_ | refine ft_go mi_k8 3 9 [(0, .ref 94), (1, .int x1)] [.int (i 6017), .int x1] i a q r (by rfl) ?_
    refine ft_ifS mi_k8 (decide ((i 6017) ≤ x1)) 22 12 [] (by rfl) (fun c => ?_) (fun c => ?_)
    ·
      have c3 : (i 6017).toInt ≤ x1.toInt := kd_le c; clear c
      first | refine ft_goS mi_k8 1 23 [.int 0] (by rfl) ?_ | refine ft_go mi_k8 1 23 [(0, .ref 94), (1, .int x1)] [.int 0] i a q r (by rfl) ?_
      exact ft_ret mi_k8 (by rfl) (hP 0 (Or.inr ⟨rfl, (oz964 c3)⟩))
    ·
      have c4 : x1.toInt < (i 6017).toInt := kd_leF c; clear c
      first | refine ft_goS mi_k8 2 15 [.int 50, .int x1] (by rfl) ?_ | refine ft_go mi_k8 2 15 [(0, .ref 94), (1, .int x1)] [.int 50, .int x1] i a q r (by rfl) ?_
      refine ft_ifS mi_k8 (decide (50 ≤ x1)) 22 18 [] (by rfl) (fun c => ?_) (fun c => ?_)
      ·
        have c5 : (50 : Int32).toInt ≤ x1.toInt := kd_le c; clear c
        exact (oz1244 c4 c5 fi_6017.2 kn50).elim
      ·
        have c6 : x1.toInt < (50 : Int32).toInt := kd_leF c; clear c
        first | refine ft_goS mi_k8 2 23 [.int 1] (by rfl) ?_ | refine ft_go mi_k8 2 23 [(0, .ref 94), (1, .int x1)] [.int 1] i a q r (by rfl) ?_
        exact ft_ret mi_k8 (by rfl) (hP 1 (Or.inl ⟨rfl, (oz966 c2 c4 kn0)⟩))
end
section
theorem oz1248 {a0 : Int} (h0 : ¬ (a0 = 2)) (h1 : ¬ (a0 = 3)) (h2 : ¬ (a0 = 4)) (h3 : ¬ (a0 = 5)) (h4 : ¬ (a0 = 0)) (h5 : ¬ (a0 = 1)) (h6 : (0 : Int) ≤ a0) (h7 : a0 ≤ 5) : False := by omega
theorem oz1249 {a0 a1 a2 a3 a4 a5 : Int} (h0 : a0 ≤ 60) (h1 : a1 = a0 - a2) (h2 : (0 : Int) ≤ a3) (h3 : a3 ≤ 5) (h4 : a4 ≤ a5) (h5 : a5 ≤ a1) (h6 : a2 = 1) (h7 : a4 = 0) : (a4 < 0) ∨ ((a4 = 0) ∧ ((0 : Int) ≤ a3) ∧ (a3 ≤ 5) ∧ ((0 : Int) ≤ a5) ∧ (a5 ≤ 59)) := by omega
theorem oz1250 {a0 a1 a2 : Int} (h0 : a0 = (-13)) : (a0 < 0) ∨ ((a0 = 0) ∧ ((0 : Int) ≤ a1) ∧ (a1 ≤ 5) ∧ ((0 : Int) ≤ a2) ∧ (a2 ≤ 59)) := by omega
theorem oz1251 {a0 a1 a2 : Int} (h0 : a0 = (-12)) : (a0 < 0) ∨ ((a0 = 0) ∧ ((0 : Int) ≤ a1) ∧ (a1 ≤ 5) ∧ ((0 : Int) ≤ a2) ∧ (a2 ≤ 59)) := by omega
theorem oz1252 {a0 a1 a2 : Int} (h0 : a0 = (-11)) : (a0 < 0) ∨ ((a0 = 0) ∧ ((0 : Int) ≤ a1) ∧ (a1 ≤ 5) ∧ ((0 : Int) ≤ a2) ∧ (a2 ≤ 59)) := by omega
theorem oz1253 {a0 a1 a2 a3 a4 a5 : Int} (h0 : a0 ≤ 60) (h1 : a1 = a0 - a2) (h2 : a3 = 1) (h3 : a4 ≤ a5) (h4 : a5 ≤ a1) (h5 : a3 ≤ 5) (h6 : a2 = 1) (h7 : a4 = 0) : (a4 < 0) ∨ ((a4 = 0) ∧ ((0 : Int) ≤ a3) ∧ (a3 ≤ 5) ∧ ((0 : Int) ≤ a5) ∧ (a5 ≤ 59)) := by omega
theorem oz1254 {a0 a1 a2 a3 a4 a5 : Int} (h0 : a0 ≤ 60) (h1 : a1 = a0 - a2) (h2 : a3 = 2) (h3 : a3 ≤ 5) (h4 : a4 ≤ a5) (h5 : a5 ≤ a1) (h6 : a2 = 1) (h7 : a4 = 0) : (a4 < 0) ∨ ((a4 = 0) ∧ ((0 : Int) ≤ a3) ∧ (a3 ≤ 5) ∧ ((0 : Int) ≤ a5) ∧ (a5 ≤ 59)) := by omega
theorem oz1255 {a0 a1 a2 a3 a4 a5 : Int} (h0 : a0 ≤ 60) (h1 : a1 = a0 - a2) (h2 : a3 = 3) (h3 : a3 ≤ 5) (h4 : a4 ≤ a5) (h5 : a5 ≤ a1) (h6 : a2 = 1) (h7 : a4 = 0) : (a4 < 0) ∨ ((a4 = 0) ∧ ((0 : Int) ≤ a3) ∧ (a3 ≤ 5) ∧ ((0 : Int) ≤ a5) ∧ (a5 ≤ 59)) := by omega
theorem oz1256 {a0 a1 a2 a3 a4 a5 : Int} (h0 : a0 ≤ 60) (h1 : a1 = a0 - a2) (h2 : a3 = 4) (h3 : a3 ≤ 5) (h4 : a4 ≤ a5) (h5 : a5 ≤ a1) (h6 : a2 = 1) (h7 : a4 = 0) : (a4 < 0) ∨ ((a4 = 0) ∧ ((0 : Int) ≤ a3) ∧ (a3 ≤ 5) ∧ ((0 : Int) ≤ a5) ∧ (a5 ≤ 59)) := by omega
theorem oz1257 {a0 a1 a2 a3 a4 a5 : Int} (h0 : a0 ≤ 60) (h1 : a1 = a0 - a2) (h2 : a3 = 5) (h3 : a3 ≤ 5) (h4 : a4 ≤ a5) (h5 : a5 ≤ a1) (h6 : a2 = 1) (h7 : a4 = 0) : (a4 < 0) ∨ ((a4 = 0) ∧ ((0 : Int) ≤ a3) ∧ (a3 ≤ 5) ∧ ((0 : Int) ≤ a5) ∧ (a5 ≤ 59)) := by omega
theorem oz1258 {a0 a1 a2 : Int} (h0 : a0 = (-1)) : (a0 < 0) ∨ ((a0 = 0) ∧ ((0 : Int) ≤ a1) ∧ (a1 ≤ 5) ∧ ((0 : Int) ≤ a2) ∧ (a2 ≤ 59)) := by omega
theorem oz1261 {a0 a1 a2 a3 : Int} (h0 : a0 ≤ a1) (h1 : (a1 < 0) ∨ ((a1 = 0) ∧ ((0 : Int) ≤ a2) ∧ (a2 ≤ 5) ∧ ((0 : Int) ≤ a3) ∧ (a3 ≤ 59))) (h2 : a0 = 0) : (0 : Int) ≤ a3 := by omega
theorem oz1262 {a0 a1 a2 a3 : Int} (h0 : a0 ≤ a1) (h1 : (a1 < 0) ∨ ((a1 = 0) ∧ ((0 : Int) ≤ a2) ∧ (a2 ≤ 5) ∧ ((0 : Int) ≤ a3) ∧ (a3 ≤ 59))) (h2 : a0 = 0) : a3 < 60 := by omega
theorem oz1263 {a0 : Int} (h0 : a0 = 0) (h1 : ¬ (a0 = 0)) : False := by omega
theorem oz1270 {a0 a1 a2 a3 : Int} (h0 : a0 ≤ a1) (h1 : ¬ (a2 = 0)) (h2 : ¬ (a2 = 1)) (h3 : ¬ (a2 = 2)) (h4 : ¬ (a2 = 3)) (h5 : ¬ (a2 = 4)) (h6 : ¬ (a2 = 5)) (h7 : (a1 < 0) ∨ ((a1 = 0) ∧ ((0 : Int) ≤ a2) ∧ (a2 ≤ 5) ∧ ((0 : Int) ≤ a3) ∧ (a3 ≤ 59))) (h8 : a0 = 0) : False := by omega
theorem oz1271 {a0 a1 : Int} (h0 : a0 = a1) (h1 : a0 ≠ a1) (h2 : a0 ≤ 2) (h3 : a1 = 2) : False := by omega
theorem oz1272 {a0 a1 a2 a3 : Int} (h0 : a0 < a1) (h1 : a1 = 0) : ¬ (((0 : Int) ≤ a0) ∧ (a0 ≤ a2) ∧ ((0 : Int) ≤ a3) ∧ ((a3 + a0) ≤ a2)) := by omega
theorem oz1273 {a0 a1 a2 : Int} (h0 : a0 < a1) : ¬ (((0 : Int) ≤ a1) ∧ (a1 ≤ a0) ∧ ((0 : Int) ≤ a2) ∧ ((a2 + a1) ≤ a0)) := by omega
theorem oz1274 {a0 a1 a2 a3 : Int} (h0 : a0 < a1) (h1 : a1 = 0) : ¬ (((0 : Int) ≤ a2) ∧ (a2 ≤ a3) ∧ ((0 : Int) ≤ a0) ∧ ((a0 + a2) ≤ a3)) := by omega
theorem oz1275 {a0 a1 a2 : Int} (h0 : a0 ≤ a1) (h1 : a2 ≤ 60) (h2 : a0 = 0) : a2 - a1 ≤ 2147483647 := by omega
theorem oz1276 {a0 a1 a2 a3 : Int} (h0 : a0 < a1) (h1 : a0 = a2 - a3) : ¬ (((0 : Int) ≤ a3) ∧ (a3 ≤ a2) ∧ ((0 : Int) ≤ a1) ∧ ((a1 + a3) ≤ a2)) := by omega
theorem oz1277 {a0 a1 a2 a3 a4 : Int} (h0 : a0 ≤ a1) (h1 : a1 ≤ a2) (h2 : a0 ≤ a3) (h3 : a3 ≤ a4) (h4 : a4 = a2 - a1) (h5 : a0 = 0) : ((0 : Int) ≤ a1) ∧ (a1 ≤ a2) ∧ ((0 : Int) ≤ a3) ∧ ((a3 + a1) ≤ a2) := by omega
theorem oz1278 {a0 a1 a2 : Int} (h0 : a0 ≤ 60) (h1 : (a1 + a2) ≤ a0) : a1 + a2 ≤ 60 := by omega
theorem oz1279 {a0 : Int} (h0 : a0 ≠ a0) : False := by omega
theorem oz1280 {a0 a1 : Int} (h0 : a0 = a1) (h1 : a0 ≠ a1) (h2 : (0 : Int) ≤ a0) (h3 : a1 = 0) : False := by omega
theorem oz1281 {a0 a1 : Int} (h0 : a0 ≠ a1) (h1 : a0 = a1) (h2 : (0 : Int) ≤ a0) (h3 : a1 = 0) : False := by omega
theorem oz1282 {a0 : Int} (h0 : ¬ (a0 = 1)) (h1 : ¬ (a0 = 2)) (h2 : ¬ (a0 = 3)) (h3 : ¬ (a0 = 4)) (h4 : ¬ (a0 = 0)) (h5 : ¬ (a0 = 5)) (h6 : (0 : Int) ≤ a0) (h7 : a0 ≤ 5) : False := by omega
set_option maxRecDepth 100000 in
theorem kc128_0 {i : Nat → Int32} {a : Nat → List Int32} {q : Nat → List Int64} {r : Nat → Nat} (hI : kI i a q) (hr : kr r) (x1 : Int32) (x2 : Int32) : km 5 128 [.ref 0, .int x1, .int x2] (ks i a q r) (kPI (ks i a q r) (fun v => (v.toInt < 0) ∨ ((v.toInt = 0) ∧ ((0 : Int) ≤ x1.toInt) ∧ (x1.toInt ≤ 5) ∧ ((0 : Int) ≤ x2.toInt) ∧ (x2.toInt ≤ 59)))) := by
  have hG := kG_self kW0 hI hr
  refine km_ofPI (q := (mi_h128, mi_c128)) rfl (by decide) (Nat.le_of_ble_eq_true rfl) ?_
  intro P hP
  first | refine ft_goL mi_k128 1 1 [(0, .ref 0), (1, .int x1), (2, .int x2)] [.int x1] (by rfl) ?_ | refine ft_go mi_k128 1 1 [(0, .ref 0), (1, .int x1), (2, .int x2)] [.int x1] i a q r (by rfl) ?_ | refine ko_steps mi_in128 1 _ (1, [(0, .ref 0), (1, .int x1), (2, .int x2)], [.int x1], (0, 0), ks i a q r) (by rfl) ?_
  refine ko_callPI mi_k128.1 (pc := 1) (ls := [(0, .ref 0), (1, .int x1), (2, .int x2)]) (st := [.int x1]) (h := ks i a q r) (i := (.invokestatic 70, 3, 121, 0, 9, 0, 157)) (mi_k128.2 _ _ (by rfl)) (ft_invS mi_pq121 (by rfl)) (cy := mi_c121) mi_pq121 rfl (kc121 hG.I hG.R x1) (by decide) ?_
  intro vg1 hg1
  rcases hg1 with ⟨eg1, hg1⟩ | ⟨eg1, hg1⟩
  ·
    subst eg1
    have z2 : ((0 : Int) ≤ x1.toInt) ∧ (x1.toInt ≤ 5) := hg1
    first | refine fo_goS mi_k128 fz128_4_4_14 [.int x1, .ref 97] (by rfl) ?_ | refine ft_go mi_k128 4 14 [(0, .ref 0), (1, .int x1), (2, .int x2)] [.int x1, .ref 97] i a q r (by rfl) ?_ | refine ko_steps mi_in128 4 _ (14, [(0, .ref 0), (1, .int x1), (2, .int x2)], [.int x1, .ref 97], (0, 0), ks i a q r) (by rfl) ?_
    by_cases w3 : x1.toInt = 0
    ·
      refine ko_eq (x1 := (14, [(0, .ref 0), (1, .int x1), (2, .int x2)], [.int 0, .ref 97], (0, 0), ks i a q r)) (by rw [(kj_eq w3 (by decide) : x1 = 0)]) ?_
      first | refine ft_goL mi_k128 4 20 [(3, .ref 104), (0, .ref 0), (1, .int x1), (2, .int x2)] [.int (i 6656)] (by rfl) ?_ | refine ft_go mi_k128 4 20 [(3, .ref 104), (0, .ref 0), (1, .int x1), (2, .int x2)] [.int (i 6656)] i a q r (by rfl) ?_ | refine ko_steps mi_in128 4 _ (20, [(3, .ref 104), (0, .ref 0), (1, .int x1), (2, .int x2)], [.int (i 6656)], (0, 0), ks i a q r) (by rfl) ?_
      refine ft_ifS mi_k128 ((i 6656) != 0) 26 23 [] (by rfl) (fun c => ?_) (fun c => ?_)
      ·
        have c4 : (i 6656).toInt ≠ (0 : Int32).toInt := kd_ne c; clear c
        first | refine fo_goS mi_k128 fz128_26_3_31 [.int 2, .int (i 6656)] (by rfl) ?_ | refine ft_go mi_k128 3 31 [(3, .ref 104), (0, .ref 0), (1, .int x1), (2, .int x2)] [.int 2, .int (i 6656)] i a q r (by rfl) ?_ | refine ko_steps mi_in128 3 _ (31, [(3, .ref 104), (0, .ref 0), (1, .int x1), (2, .int x2)], [.int 2, .int (i 6656)], (0, 0), ks i a q r) (by rfl) ?_
        refine ft_ifS mi_k128 ((i 6656) == 2) 37 34 [] (by rfl) (fun c => ?_) (fun c => ?_)
        ·
          have c5 : (i 6656).toInt = (2 : Int32).toInt := kd_eq c; clear c
          have fi_6659 : ((0 : Int) ≤ (i 6659).toInt) ∧ ((i 6659).toInt ≤ 60) := hG.I.1 6659
          have s6 : ((i 6659) - 1).toInt = (i 6659).toInt - (1 : Int32).toInt := kd_sub (oz47 fi_6659.1 kn1) (oz602 fi_6659.2 kn1)
          first | refine fo_goS mi_k128 fz128_37_6_45 [.int ((i 6659) - 1), .int 0, .int x2] (by rfl) ?_ | refine ft_go mi_k128 6 45 [(3, .ref 104), (0, .ref 0), (1, .int x1), (2, .int x2)] [.int ((i 6659) - 1), .int 0, .int x2] i a q r (by rfl) ?_ | refine ko_steps mi_in128 6 _ (45, [(3, .ref 104), (0, .ref 0), (1, .int x1), (2, .int x2)], [.int ((i 6659) - 1), .int 0, .int x2], (0, 0), ks i a q r) (by rfl) ?_
          refine ko_callPI mi_k128.1 (pc := 45) (ls := [(3, .ref 104), (0, .ref 0), (1, .int x1), (2, .int x2)]) (st := [.int ((i 6659) - 1), .int 0, .int x2]) (h := ks i a q r) (i := (.invokestatic 74, 3, 120, 0, 9, 0, 152)) (mi_k128.2 _ _ (by rfl)) (ft_invS mi_pq120 (by rfl)) (cy := mi_c120) mi_pq120 rfl (kc120 hG.I hG.R x2 0 ((i 6659) - 1)) (by decide) ?_
          intro vg7 hg7
          rcases hg7 with ⟨eg7, hg7⟩ | ⟨eg7, hg7⟩
          ·
            subst eg7
            have z8 : ((0 : Int32).toInt ≤ x2.toInt) ∧ (x2.toInt ≤ ((i 6659) - 1).toInt) := hg7
            first | refine fo_goS mi_k128 fz128_48_3_57 [.int 0] (by rfl) ?_ | refine ft_goS mi_k128 3 57 [.int 0] (by rfl) ?_ | refine ft_go mi_k128 3 57 [(3, .ref 104), (0, .ref 0), (1, .int x1), (2, .int x2)] [.int 0] i a q r (by rfl) ?_ | refine ko_steps mi_in128 3 _ (57, [(3, .ref 104), (0, .ref 0), (1, .int x1), (2, .int x2)], [.int 0], (0, 0), ks i a q r) (by rfl) ?_
            exact ft_ret mi_k128 (by rfl) (hP 0 (oz1249 fi_6659.2 s6 z2.1 z2.2 z8.1 z8.2 kn1 kn0))
          ·
            subst eg7
            first | refine fo_goS mi_k128 fz128_51_2_57 [.int (-13)] (by rfl) ?_ | refine fo_goS mi_k128 fz128_48_2_57 [.int (-13)] (by rfl) ?_ | refine ft_go mi_k128 2 57 [(3, .ref 104), (0, .ref 0), (1, .int x1), (2, .int x2)] [.int (-13)] i a q r (by rfl) ?_ | refine ko_steps mi_in128 2 _ (57, [(3, .ref 104), (0, .ref 0), (1, .int x1), (2, .int x2)], [.int (-13)], (0, 0), ks i a q r) (by rfl) ?_
            exact ft_ret mi_k128 (by rfl) (hP (-13) (oz1250 knm13))
        ·
          have c10 : (i 6656).toInt ≠ (2 : Int32).toInt := kd_eqF c; clear c
          first | refine fo_goS mi_k128 fz128_34_1_36 [.int (-12)] (by rfl) ?_ | refine ft_go mi_k128 1 36 [(3, .ref 104), (0, .ref 0), (1, .int x1), (2, .int x2)] [.int (-12)] i a q r (by rfl) ?_ | refine ko_steps mi_in128 1 _ (36, [(3, .ref 104), (0, .ref 0), (1, .int x1), (2, .int x2)], [.int (-12)], (0, 0), ks i a q r) (by rfl) ?_
          exact ft_ret mi_k128 (by rfl) (hP (-12) (oz1251 knm12))
      ·
        have c11 : (i 6656).toInt = (0 : Int32).toInt := kd_neF c; clear c
        first | refine fo_goS mi_k128 fz128_23_1_25 [.int (-11)] (by rfl) ?_ | refine ft_go mi_k128 1 25 [(3, .ref 104), (0, .ref 0), (1, .int x1), (2, .int x2)] [.int (-11)] i a q r (by rfl) ?_ | refine ko_steps mi_in128 1 _ (25, [(3, .ref 104), (0, .ref 0), (1, .int x1), (2, .int x2)], [.int (-11)], (0, 0), ks i a q r) (by rfl) ?_
        exact ft_ret mi_k128 (by rfl) (hP (-11) (oz1252 knm11))
    by_cases w12 : x1.toInt = 1
    ·
      refine ko_eq (x1 := (14, [(0, .ref 0), (1, .int x1), (2, .int x2)], [.int 1, .ref 97], (0, 0), ks i a q r)) (by rw [(kj_eq w12 (by decide) : x1 = 1)]) ?_
      first | refine ft_goL mi_k128 4 20 [(3, .ref 106), (0, .ref 0), (1, .int x1), (2, .int x2)] [.int (i 6784)] (by rfl) ?_ | refine ft_go mi_k128 4 20 [(3, .ref 106), (0, .ref 0), (1, .int x1), (2, .int x2)] [.int (i 6784)] i a q r (by rfl) ?_ | refine ko_steps mi_in128 4 _ (20, [(3, .ref 106), (0, .ref 0), (1, .int x1), (2, .int x2)], [.int (i 6784)], (0, 0), ks i a q r) (by rfl) ?_
      refine ft_ifS mi_k128 ((i 6784) != 0) 26 23 [] (by rfl) (fun c => ?_) (fun c => ?_)
      ·
        have c13 : (i 6784).toInt ≠ (0 : Int32).toInt := kd_ne c; clear c
        first | refine fo_goS mi_k128 fz128_26_3_31 [.int 2, .int (i 6784)] (by rfl) ?_ | refine ft_go mi_k128 3 31 [(3, .ref 106), (0, .ref 0), (1, .int x1), (2, .int x2)] [.int 2, .int (i 6784)] i a q r (by rfl) ?_ | refine ko_steps mi_in128 3 _ (31, [(3, .ref 106), (0, .ref 0), (1, .int x1), (2, .int x2)], [.int 2, .int (i 6784)], (0, 0), ks i a q r) (by rfl) ?_
        refine ft_ifS mi_k128 ((i 6784) == 2) 37 34 [] (by rfl) (fun c => ?_) (fun c => ?_)
        ·
          have c14 : (i 6784).toInt = (2 : Int32).toInt := kd_eq c; clear c
          have fi_6787 : ((0 : Int) ≤ (i 6787).toInt) ∧ ((i 6787).toInt ≤ 60) := hG.I.1 6787
          have s15 : ((i 6787) - 1).toInt = (i 6787).toInt - (1 : Int32).toInt := kd_sub (oz47 fi_6787.1 kn1) (oz602 fi_6787.2 kn1)
          first | refine fo_goS mi_k128 fz128_37_6_45 [.int ((i 6787) - 1), .int 0, .int x2] (by rfl) ?_ | refine ft_go mi_k128 6 45 [(3, .ref 106), (0, .ref 0), (1, .int x1), (2, .int x2)] [.int ((i 6787) - 1), .int 0, .int x2] i a q r (by rfl) ?_ | refine ko_steps mi_in128 6 _ (45, [(3, .ref 106), (0, .ref 0), (1, .int x1), (2, .int x2)], [.int ((i 6787) - 1), .int 0, .int x2], (0, 0), ks i a q r) (by rfl) ?_
          refine ko_callPI mi_k128.1 (pc := 45) (ls := [(3, .ref 106), (0, .ref 0), (1, .int x1), (2, .int x2)]) (st := [.int ((i 6787) - 1), .int 0, .int x2]) (h := ks i a q r) (i := (.invokestatic 74, 3, 120, 0, 9, 0, 152)) (mi_k128.2 _ _ (by rfl)) (ft_invS mi_pq120 (by rfl)) (cy := mi_c120) mi_pq120 rfl (kc120 hG.I hG.R x2 0 ((i 6787) - 1)) (by decide) ?_
          intro vg16 hg16
          rcases hg16 with ⟨eg16, hg16⟩ | ⟨eg16, hg16⟩
          ·
            subst eg16
            have z17 : ((0 : Int32).toInt ≤ x2.toInt) ∧ (x2.toInt ≤ ((i 6787) - 1).toInt) := hg16
            first | refine fo_goS mi_k128 fz128_48_3_57 [.int 0] (by rfl) ?_ | refine ft_goS mi_k128 3 57 [.int 0] (by rfl) ?_ | refine ft_go mi_k128 3 57 [(3, .ref 106), (0, .ref 0), (1, .int x1), (2, .int x2)] [.int 0] i a q r (by rfl) ?_ | refine ko_steps mi_in128 3 _ (57, [(3, .ref 106), (0, .ref 0), (1, .int x1), (2, .int x2)], [.int 0], (0, 0), ks i a q r) (by rfl) ?_
            exact ft_ret mi_k128 (by rfl) (hP 0 (oz1253 fi_6787.2 s15 w12 z17.1 z17.2 z2.2 kn1 kn0))
          ·
            subst eg16
            first | refine fo_goS mi_k128 fz128_51_2_57 [.int (-13)] (by rfl) ?_ | refine fo_goS mi_k128 fz128_48_2_57 [.int (-13)] (by rfl) ?_ | refine ft_go mi_k128 2 57 [(3, .ref 106), (0, .ref 0), (1, .int x1), (2, .int x2)] [.int (-13)] i a q r (by rfl) ?_ | refine ko_steps mi_in128 2 _ (57, [(3, .ref 106), (0, .ref 0), (1, .int x1), (2, .int x2)], [.int (-13)], (0, 0), ks i a q r) (by rfl) ?_
            exact ft_ret mi_k128 (by rfl) (hP (-13) (oz1250 knm13))
        ·
          have c19 : (i 6784).toInt ≠ (2 : Int32).toInt := kd_eqF c; clear c
          first | refine fo_goS mi_k128 fz128_34_1_36 [.int (-12)] (by rfl) ?_ | refine ft_go mi_k128 1 36 [(3, .ref 106), (0, .ref 0), (1, .int x1), (2, .int x2)] [.int (-12)] i a q r (by rfl) ?_ | refine ko_steps mi_in128 1 _ (36, [(3, .ref 106), (0, .ref 0), (1, .int x1), (2, .int x2)], [.int (-12)], (0, 0), ks i a q r) (by rfl) ?_
          exact ft_ret mi_k128 (by rfl) (hP (-12) (oz1251 knm12))
      ·
        have c20 : (i 6784).toInt = (0 : Int32).toInt := kd_neF c; clear c
        first | refine fo_goS mi_k128 fz128_23_1_25 [.int (-11)] (by rfl) ?_ | refine ft_go mi_k128 1 25 [(3, .ref 106), (0, .ref 0), (1, .int x1), (2, .int x2)] [.int (-11)] i a q r (by rfl) ?_ | refine ko_steps mi_in128 1 _ (25, [(3, .ref 106), (0, .ref 0), (1, .int x1), (2, .int x2)], [.int (-11)], (0, 0), ks i a q r) (by rfl) ?_
        exact ft_ret mi_k128 (by rfl) (hP (-11) (oz1252 knm11))
    by_cases w21 : x1.toInt = 2
    ·
      refine ko_eq (x1 := (14, [(0, .ref 0), (1, .int x1), (2, .int x2)], [.int 2, .ref 97], (0, 0), ks i a q r)) (by rw [(kj_eq w21 (by decide) : x1 = 2)]) ?_
      first | refine ft_goL mi_k128 4 20 [(3, .ref 108), (0, .ref 0), (1, .int x1), (2, .int x2)] [.int (i 6912)] (by rfl) ?_ | refine ft_go mi_k128 4 20 [(3, .ref 108), (0, .ref 0), (1, .int x1), (2, .int x2)] [.int (i 6912)] i a q r (by rfl) ?_ | refine ko_steps mi_in128 4 _ (20, [(3, .ref 108), (0, .ref 0), (1, .int x1), (2, .int x2)], [.int (i 6912)], (0, 0), ks i a q r) (by rfl) ?_
      refine ft_ifS mi_k128 ((i 6912) != 0) 26 23 [] (by rfl) (fun c => ?_) (fun c => ?_)
      ·
        have c22 : (i 6912).toInt ≠ (0 : Int32).toInt := kd_ne c; clear c
        first | refine fo_goS mi_k128 fz128_26_3_31 [.int 2, .int (i 6912)] (by rfl) ?_ | refine ft_go mi_k128 3 31 [(3, .ref 108), (0, .ref 0), (1, .int x1), (2, .int x2)] [.int 2, .int (i 6912)] i a q r (by rfl) ?_ | refine ko_steps mi_in128 3 _ (31, [(3, .ref 108), (0, .ref 0), (1, .int x1), (2, .int x2)], [.int 2, .int (i 6912)], (0, 0), ks i a q r) (by rfl) ?_
        refine ft_ifS mi_k128 ((i 6912) == 2) 37 34 [] (by rfl) (fun c => ?_) (fun c => ?_)
        ·
          have c23 : (i 6912).toInt = (2 : Int32).toInt := kd_eq c; clear c
          have fi_6915 : ((0 : Int) ≤ (i 6915).toInt) ∧ ((i 6915).toInt ≤ 60) := hG.I.1 6915
          have s24 : ((i 6915) - 1).toInt = (i 6915).toInt - (1 : Int32).toInt := kd_sub (oz47 fi_6915.1 kn1) (oz602 fi_6915.2 kn1)
          first | refine fo_goS mi_k128 fz128_37_6_45 [.int ((i 6915) - 1), .int 0, .int x2] (by rfl) ?_ | refine ft_go mi_k128 6 45 [(3, .ref 108), (0, .ref 0), (1, .int x1), (2, .int x2)] [.int ((i 6915) - 1), .int 0, .int x2] i a q r (by rfl) ?_ | refine ko_steps mi_in128 6 _ (45, [(3, .ref 108), (0, .ref 0), (1, .int x1), (2, .int x2)], [.int ((i 6915) - 1), .int 0, .int x2], (0, 0), ks i a q r) (by rfl) ?_
          refine ko_callPI mi_k128.1 (pc := 45) (ls := [(3, .ref 108), (0, .ref 0), (1, .int x1), (2, .int x2)]) (st := [.int ((i 6915) - 1), .int 0, .int x2]) (h := ks i a q r) (i := (.invokestatic 74, 3, 120, 0, 9, 0, 152)) (mi_k128.2 _ _ (by rfl)) (ft_invS mi_pq120 (by rfl)) (cy := mi_c120) mi_pq120 rfl (kc120 hG.I hG.R x2 0 ((i 6915) - 1)) (by decide) ?_
          intro vg25 hg25
          rcases hg25 with ⟨eg25, hg25⟩ | ⟨eg25, hg25⟩
          ·
            subst eg25
            have z26 : ((0 : Int32).toInt ≤ x2.toInt) ∧ (x2.toInt ≤ ((i 6915) - 1).toInt) := hg25
            first | refine fo_goS mi_k128 fz128_48_3_57 [.int 0] (by rfl) ?_ | refine ft_goS mi_k128 3 57 [.int 0] (by rfl) ?_ | refine ft_go mi_k128 3 57 [(3, .ref 108), (0, .ref 0), (1, .int x1), (2, .int x2)] [.int 0] i a q r (by rfl) ?_ | refine ko_steps mi_in128 3 _ (57, [(3, .ref 108), (0, .ref 0), (1, .int x1), (2, .int x2)], [.int 0], (0, 0), ks i a q r) (by rfl) ?_
            exact ft_ret mi_k128 (by rfl) (hP 0 (oz1254 fi_6915.2 s24 w21 z2.2 z26.1 z26.2 kn1 kn0))
          ·
            subst eg25
            first | refine fo_goS mi_k128 fz128_51_2_57 [.int (-13)] (by rfl) ?_ | refine fo_goS mi_k128 fz128_48_2_57 [.int (-13)] (by rfl) ?_ | refine ft_go mi_k128 2 57 [(3, .ref 108), (0, .ref 0), (1, .int x1), (2, .int x2)] [.int (-13)] i a q r (by rfl) ?_ | refine ko_steps mi_in128 2 _ (57, [(3, .ref 108), (0, .ref 0), (1, .int x1), (2, .int x2)], [.int (-13)], (0, 0), ks i a q r) (by rfl) ?_
            exact ft_ret mi_k128 (by rfl) (hP (-13) (oz1250 knm13))
        ·
          have c28 : (i 6912).toInt ≠ (2 : Int32).toInt := kd_eqF c; clear c
          first | refine fo_goS mi_k128 fz128_34_1_36 [.int (-12)] (by rfl) ?_ | refine ft_go mi_k128 1 36 [(3, .ref 108), (0, .ref 0), (1, .int x1), (2, .int x2)] [.int (-12)] i a q r (by rfl) ?_ | refine ko_steps mi_in128 1 _ (36, [(3, .ref 108), (0, .ref 0), (1, .int x1), (2, .int x2)], [.int (-12)], (0, 0), ks i a q r) (by rfl) ?_
          exact ft_ret mi_k128 (by rfl) (hP (-12) (oz1251 knm12))
      ·
        have c29 : (i 6912).toInt = (0 : Int32).toInt := kd_neF c; clear c
        first | refine fo_goS mi_k128 fz128_23_1_25 [.int (-11)] (by rfl) ?_ | refine ft_go mi_k128 1 25 [(3, .ref 108), (0, .ref 0), (1, .int x1), (2, .int x2)] [.int (-11)] i a q r (by rfl) ?_ | refine ko_steps mi_in128 1 _ (25, [(3, .ref 108), (0, .ref 0), (1, .int x1), (2, .int x2)], [.int (-11)], (0, 0), ks i a q r) (by rfl) ?_
        exact ft_ret mi_k128 (by rfl) (hP (-11) (oz1252 knm11))
    by_cases w30 : x1.toInt = 3
    ·
      refine ko_eq (x1 := (14, [(0, .ref 0), (1, .int x1), (2, .int x2)], [.int 3, .ref 97], (0, 0), ks i a q r)) (by rw [(kj_eq w30 (by decide) : x1 = 3)]) ?_
      first | refine ft_goL mi_k128 4 20 [(3, .ref 110), (0, .ref 0), (1, .int x1), (2, .int x2)] [.int (i 7040)] (by rfl) ?_ | refine ft_go mi_k128 4 20 [(3, .ref 110), (0, .ref 0), (1, .int x1), (2, .int x2)] [.int (i 7040)] i a q r (by rfl) ?_ | refine ko_steps mi_in128 4 _ (20, [(3, .ref 110), (0, .ref 0), (1, .int x1), (2, .int x2)], [.int (i 7040)], (0, 0), ks i a q r) (by rfl) ?_
      refine ft_ifS mi_k128 ((i 7040) != 0) 26 23 [] (by rfl) (fun c => ?_) (fun c => ?_)
      ·
        have c31 : (i 7040).toInt ≠ (0 : Int32).toInt := kd_ne c; clear c
        first | refine fo_goS mi_k128 fz128_26_3_31 [.int 2, .int (i 7040)] (by rfl) ?_ | refine ft_go mi_k128 3 31 [(3, .ref 110), (0, .ref 0), (1, .int x1), (2, .int x2)] [.int 2, .int (i 7040)] i a q r (by rfl) ?_ | refine ko_steps mi_in128 3 _ (31, [(3, .ref 110), (0, .ref 0), (1, .int x1), (2, .int x2)], [.int 2, .int (i 7040)], (0, 0), ks i a q r) (by rfl) ?_
        refine ft_ifS mi_k128 ((i 7040) == 2) 37 34 [] (by rfl) (fun c => ?_) (fun c => ?_)
        ·
          have c32 : (i 7040).toInt = (2 : Int32).toInt := kd_eq c; clear c
          have fi_7043 : ((0 : Int) ≤ (i 7043).toInt) ∧ ((i 7043).toInt ≤ 60) := hG.I.1 7043
          have s33 : ((i 7043) - 1).toInt = (i 7043).toInt - (1 : Int32).toInt := kd_sub (oz47 fi_7043.1 kn1) (oz602 fi_7043.2 kn1)
          first | refine fo_goS mi_k128 fz128_37_6_45 [.int ((i 7043) - 1), .int 0, .int x2] (by rfl) ?_ | refine ft_go mi_k128 6 45 [(3, .ref 110), (0, .ref 0), (1, .int x1), (2, .int x2)] [.int ((i 7043) - 1), .int 0, .int x2] i a q r (by rfl) ?_ | refine ko_steps mi_in128 6 _ (45, [(3, .ref 110), (0, .ref 0), (1, .int x1), (2, .int x2)], [.int ((i 7043) - 1), .int 0, .int x2], (0, 0), ks i a q r) (by rfl) ?_
          refine ko_callPI mi_k128.1 (pc := 45) (ls := [(3, .ref 110), (0, .ref 0), (1, .int x1), (2, .int x2)]) (st := [.int ((i 7043) - 1), .int 0, .int x2]) (h := ks i a q r) (i := (.invokestatic 74, 3, 120, 0, 9, 0, 152)) (mi_k128.2 _ _ (by rfl)) (ft_invS mi_pq120 (by rfl)) (cy := mi_c120) mi_pq120 rfl (kc120 hG.I hG.R x2 0 ((i 7043) - 1)) (by decide) ?_
          intro vg34 hg34
          rcases hg34 with ⟨eg34, hg34⟩ | ⟨eg34, hg34⟩
          ·
            subst eg34
            have z35 : ((0 : Int32).toInt ≤ x2.toInt) ∧ (x2.toInt ≤ ((i 7043) - 1).toInt) := hg34
            first | refine fo_goS mi_k128 fz128_48_3_57 [.int 0] (by rfl) ?_ | refine ft_goS mi_k128 3 57 [.int 0] (by rfl) ?_ | refine ft_go mi_k128 3 57 [(3, .ref 110), (0, .ref 0), (1, .int x1), (2, .int x2)] [.int 0] i a q r (by rfl) ?_ | refine ko_steps mi_in128 3 _ (57, [(3, .ref 110), (0, .ref 0), (1, .int x1), (2, .int x2)], [.int 0], (0, 0), ks i a q r) (by rfl) ?_
            exact ft_ret mi_k128 (by rfl) (hP 0 (oz1255 fi_7043.2 s33 w30 z2.2 z35.1 z35.2 kn1 kn0))
          ·
            subst eg34
            first | refine fo_goS mi_k128 fz128_51_2_57 [.int (-13)] (by rfl) ?_ | refine fo_goS mi_k128 fz128_48_2_57 [.int (-13)] (by rfl) ?_ | refine ft_go mi_k128 2 57 [(3, .ref 110), (0, .ref 0), (1, .int x1), (2, .int x2)] [.int (-13)] i a q r (by rfl) ?_ | refine ko_steps mi_in128 2 _ (57, [(3, .ref 110), (0, .ref 0), (1, .int x1), (2, .int x2)], [.int (-13)], (0, 0), ks i a q r) (by rfl) ?_
            exact ft_ret mi_k128 (by rfl) (hP (-13) (oz1250 knm13))
        ·
          have c37 : (i 7040).toInt ≠ (2 : Int32).toInt := kd_eqF c; clear c
          first | refine fo_goS mi_k128 fz128_34_1_36 [.int (-12)] (by rfl) ?_ | refine ft_go mi_k128 1 36 [(3, .ref 110), (0, .ref 0), (1, .int x1), (2, .int x2)] [.int (-12)] i a q r (by rfl) ?_ | refine ko_steps mi_in128 1 _ (36, [(3, .ref 110), (0, .ref 0), (1, .int x1), (2, .int x2)], [.int (-12)], (0, 0), ks i a q r) (by rfl) ?_
          exact ft_ret mi_k128 (by rfl) (hP (-12) (oz1251 knm12))
      ·
        have c38 : (i 7040).toInt = (0 : Int32).toInt := kd_neF c; clear c
        first | refine fo_goS mi_k128 fz128_23_1_25 [.int (-11)] (by rfl) ?_ | refine ft_go mi_k128 1 25 [(3, .ref 110), (0, .ref 0), (1, .int x1), (2, .int x2)] [.int (-11)] i a q r (by rfl) ?_ | refine ko_steps mi_in128 1 _ (25, [(3, .ref 110), (0, .ref 0), (1, .int x1), (2, .int x2)], [.int (-11)], (0, 0), ks i a q r) (by rfl) ?_
        exact ft_ret mi_k128 (by rfl) (hP (-11) (oz1252 knm11))
    by_cases w39 : x1.toInt = 4
    ·
      refine ko_eq (x1 := (14, [(0, .ref 0), (1, .int x1), (2, .int x2)], [.int 4, .ref 97], (0, 0), ks i a q r)) (by rw [(kj_eq w39 (by decide) : x1 = 4)]) ?_
      first | refine ft_goL mi_k128 4 20 [(3, .ref 112), (0, .ref 0), (1, .int x1), (2, .int x2)] [.int (i 7168)] (by rfl) ?_ | refine ft_go mi_k128 4 20 [(3, .ref 112), (0, .ref 0), (1, .int x1), (2, .int x2)] [.int (i 7168)] i a q r (by rfl) ?_ | refine ko_steps mi_in128 4 _ (20, [(3, .ref 112), (0, .ref 0), (1, .int x1), (2, .int x2)], [.int (i 7168)], (0, 0), ks i a q r) (by rfl) ?_
      refine ft_ifS mi_k128 ((i 7168) != 0) 26 23 [] (by rfl) (fun c => ?_) (fun c => ?_)
      ·
        have c40 : (i 7168).toInt ≠ (0 : Int32).toInt := kd_ne c; clear c
        first | refine fo_goS mi_k128 fz128_26_3_31 [.int 2, .int (i 7168)] (by rfl) ?_ | refine ft_go mi_k128 3 31 [(3, .ref 112), (0, .ref 0), (1, .int x1), (2, .int x2)] [.int 2, .int (i 7168)] i a q r (by rfl) ?_ | refine ko_steps mi_in128 3 _ (31, [(3, .ref 112), (0, .ref 0), (1, .int x1), (2, .int x2)], [.int 2, .int (i 7168)], (0, 0), ks i a q r) (by rfl) ?_
        refine ft_ifS mi_k128 ((i 7168) == 2) 37 34 [] (by rfl) (fun c => ?_) (fun c => ?_)
        ·
          have c41 : (i 7168).toInt = (2 : Int32).toInt := kd_eq c; clear c
          have fi_7171 : ((0 : Int) ≤ (i 7171).toInt) ∧ ((i 7171).toInt ≤ 60) := hG.I.1 7171
          have s42 : ((i 7171) - 1).toInt = (i 7171).toInt - (1 : Int32).toInt := kd_sub (oz47 fi_7171.1 kn1) (oz602 fi_7171.2 kn1)
          first | refine fo_goS mi_k128 fz128_37_6_45 [.int ((i 7171) - 1), .int 0, .int x2] (by rfl) ?_ | refine ft_go mi_k128 6 45 [(3, .ref 112), (0, .ref 0), (1, .int x1), (2, .int x2)] [.int ((i 7171) - 1), .int 0, .int x2] i a q r (by rfl) ?_ | refine ko_steps mi_in128 6 _ (45, [(3, .ref 112), (0, .ref 0), (1, .int x1), (2, .int x2)], [.int ((i 7171) - 1), .int 0, .int x2], (0, 0), ks i a q r) (by rfl) ?_
          refine ko_callPI mi_k128.1 (pc := 45) (ls := [(3, .ref 112), (0, .ref 0), (1, .int x1), (2, .int x2)]) (st := [.int ((i 7171) - 1), .int 0, .int x2]) (h := ks i a q r) (i := (.invokestatic 74, 3, 120, 0, 9, 0, 152)) (mi_k128.2 _ _ (by rfl)) (ft_invS mi_pq120 (by rfl)) (cy := mi_c120) mi_pq120 rfl (kc120 hG.I hG.R x2 0 ((i 7171) - 1)) (by decide) ?_
          intro vg43 hg43
          rcases hg43 with ⟨eg43, hg43⟩ | ⟨eg43, hg43⟩
          ·
            subst eg43
            have z44 : ((0 : Int32).toInt ≤ x2.toInt) ∧ (x2.toInt ≤ ((i 7171) - 1).toInt) := hg43
            first | refine fo_goS mi_k128 fz128_48_3_57 [.int 0] (by rfl) ?_ | refine ft_goS mi_k128 3 57 [.int 0] (by rfl) ?_ | refine ft_go mi_k128 3 57 [(3, .ref 112), (0, .ref 0), (1, .int x1), (2, .int x2)] [.int 0] i a q r (by rfl) ?_ | refine ko_steps mi_in128 3 _ (57, [(3, .ref 112), (0, .ref 0), (1, .int x1), (2, .int x2)], [.int 0], (0, 0), ks i a q r) (by rfl) ?_
            exact ft_ret mi_k128 (by rfl) (hP 0 (oz1256 fi_7171.2 s42 w39 z2.2 z44.1 z44.2 kn1 kn0))
          ·
            subst eg43
            first | refine fo_goS mi_k128 fz128_51_2_57 [.int (-13)] (by rfl) ?_ | refine fo_goS mi_k128 fz128_48_2_57 [.int (-13)] (by rfl) ?_ | refine ft_go mi_k128 2 57 [(3, .ref 112), (0, .ref 0), (1, .int x1), (2, .int x2)] [.int (-13)] i a q r (by rfl) ?_ | refine ko_steps mi_in128 2 _ (57, [(3, .ref 112), (0, .ref 0), (1, .int x1), (2, .int x2)], [.int (-13)], (0, 0), ks i a q r) (by rfl) ?_
            exact ft_ret mi_k128 (by rfl) (hP (-13) (oz1250 knm13))
        ·
          have c46 : (i 7168).toInt ≠ (2 : Int32).toInt := kd_eqF c; clear c
          first | refine fo_goS mi_k128 fz128_34_1_36 [.int (-12)] (by rfl) ?_ | refine ft_go mi_k128 1 36 [(3, .ref 112), (0, .ref 0), (1, .int x1), (2, .int x2)] [.int (-12)] i a q r (by rfl) ?_ | refine ko_steps mi_in128 1 _ (36, [(3, .ref 112), (0, .ref 0), (1, .int x1), (2, .int x2)], [.int (-12)], (0, 0), ks i a q r) (by rfl) ?_
          exact ft_ret mi_k128 (by rfl) (hP (-12) (oz1251 knm12))
      ·
        have c47 : (i 7168).toInt = (0 : Int32).toInt := kd_neF c; clear c
        first | refine fo_goS mi_k128 fz128_23_1_25 [.int (-11)] (by rfl) ?_ | refine ft_go mi_k128 1 25 [(3, .ref 112), (0, .ref 0), (1, .int x1), (2, .int x2)] [.int (-11)] i a q r (by rfl) ?_ | refine ko_steps mi_in128 1 _ (25, [(3, .ref 112), (0, .ref 0), (1, .int x1), (2, .int x2)], [.int (-11)], (0, 0), ks i a q r) (by rfl) ?_
        exact ft_ret mi_k128 (by rfl) (hP (-11) (oz1252 knm11))
    by_cases w48 : x1.toInt = 5
    ·
      refine ko_eq (x1 := (14, [(0, .ref 0), (1, .int x1), (2, .int x2)], [.int 5, .ref 97], (0, 0), ks i a q r)) (by rw [(kj_eq w48 (by decide) : x1 = 5)]) ?_
      first | refine ft_goL mi_k128 4 20 [(3, .ref 114), (0, .ref 0), (1, .int x1), (2, .int x2)] [.int (i 7296)] (by rfl) ?_ | refine ft_go mi_k128 4 20 [(3, .ref 114), (0, .ref 0), (1, .int x1), (2, .int x2)] [.int (i 7296)] i a q r (by rfl) ?_ | refine ko_steps mi_in128 4 _ (20, [(3, .ref 114), (0, .ref 0), (1, .int x1), (2, .int x2)], [.int (i 7296)], (0, 0), ks i a q r) (by rfl) ?_
      refine ft_ifS mi_k128 ((i 7296) != 0) 26 23 [] (by rfl) (fun c => ?_) (fun c => ?_)
      ·
        have c49 : (i 7296).toInt ≠ (0 : Int32).toInt := kd_ne c; clear c
        first | refine fo_goS mi_k128 fz128_26_3_31 [.int 2, .int (i 7296)] (by rfl) ?_ | refine ft_go mi_k128 3 31 [(3, .ref 114), (0, .ref 0), (1, .int x1), (2, .int x2)] [.int 2, .int (i 7296)] i a q r (by rfl) ?_ | refine ko_steps mi_in128 3 _ (31, [(3, .ref 114), (0, .ref 0), (1, .int x1), (2, .int x2)], [.int 2, .int (i 7296)], (0, 0), ks i a q r) (by rfl) ?_
        refine ft_ifS mi_k128 ((i 7296) == 2) 37 34 [] (by rfl) (fun c => ?_) (fun c => ?_)
        ·
          have c50 : (i 7296).toInt = (2 : Int32).toInt := kd_eq c; clear c
          have fi_7299 : ((0 : Int) ≤ (i 7299).toInt) ∧ ((i 7299).toInt ≤ 60) := hG.I.1 7299
          have s51 : ((i 7299) - 1).toInt = (i 7299).toInt - (1 : Int32).toInt := kd_sub (oz47 fi_7299.1 kn1) (oz602 fi_7299.2 kn1)
          first | refine fo_goS mi_k128 fz128_37_6_45 [.int ((i 7299) - 1), .int 0, .int x2] (by rfl) ?_ | refine ft_go mi_k128 6 45 [(3, .ref 114), (0, .ref 0), (1, .int x1), (2, .int x2)] [.int ((i 7299) - 1), .int 0, .int x2] i a q r (by rfl) ?_ | refine ko_steps mi_in128 6 _ (45, [(3, .ref 114), (0, .ref 0), (1, .int x1), (2, .int x2)], [.int ((i 7299) - 1), .int 0, .int x2], (0, 0), ks i a q r) (by rfl) ?_
          refine ko_callPI mi_k128.1 (pc := 45) (ls := [(3, .ref 114), (0, .ref 0), (1, .int x1), (2, .int x2)]) (st := [.int ((i 7299) - 1), .int 0, .int x2]) (h := ks i a q r) (i := (.invokestatic 74, 3, 120, 0, 9, 0, 152)) (mi_k128.2 _ _ (by rfl)) (ft_invS mi_pq120 (by rfl)) (cy := mi_c120) mi_pq120 rfl (kc120 hG.I hG.R x2 0 ((i 7299) - 1)) (by decide) ?_
          intro vg52 hg52
          rcases hg52 with ⟨eg52, hg52⟩ | ⟨eg52, hg52⟩
          ·
            subst eg52
            have z53 : ((0 : Int32).toInt ≤ x2.toInt) ∧ (x2.toInt ≤ ((i 7299) - 1).toInt) := hg52
            first | refine fo_goS mi_k128 fz128_48_3_57 [.int 0] (by rfl) ?_ | refine ft_goS mi_k128 3 57 [.int 0] (by rfl) ?_ | refine ft_go mi_k128 3 57 [(3, .ref 114), (0, .ref 0), (1, .int x1), (2, .int x2)] [.int 0] i a q r (by rfl) ?_ | refine ko_steps mi_in128 3 _ (57, [(3, .ref 114), (0, .ref 0), (1, .int x1), (2, .int x2)], [.int 0], (0, 0), ks i a q r) (by rfl) ?_
            exact ft_ret mi_k128 (by rfl) (hP 0 (oz1257 fi_7299.2 s51 w48 z2.2 z53.1 z53.2 kn1 kn0))
          ·
            subst eg52
            first | refine fo_goS mi_k128 fz128_51_2_57 [.int (-13)] (by rfl) ?_ | refine fo_goS mi_k128 fz128_48_2_57 [.int (-13)] (by rfl) ?_ | refine ft_go mi_k128 2 57 [(3, .ref 114), (0, .ref 0), (1, .int x1), (2, .int x2)] [.int (-13)] i a q r (by rfl) ?_ | refine ko_steps mi_in128 2 _ (57, [(3, .ref 114), (0, .ref 0), (1, .int x1), (2, .int x2)], [.int (-13)], (0, 0), ks i a q r) (by rfl) ?_
            exact ft_ret mi_k128 (by rfl) (hP (-13) (oz1250 knm13))
        ·
          have c55 : (i 7296).toInt ≠ (2 : Int32).toInt := kd_eqF c; clear c
          first | refine fo_goS mi_k128 fz128_34_1_36 [.int (-12)] (by rfl) ?_ | refine ft_go mi_k128 1 36 [(3, .ref 114), (0, .ref 0), (1, .int x1), (2, .int x2)] [.int (-12)] i a q r (by rfl) ?_ | refine ko_steps mi_in128 1 _ (36, [(3, .ref 114), (0, .ref 0), (1, .int x1), (2, .int x2)], [.int (-12)], (0, 0), ks i a q r) (by rfl) ?_
          exact ft_ret mi_k128 (by rfl) (hP (-12) (oz1251 knm12))
      ·
        have c56 : (i 7296).toInt = (0 : Int32).toInt := kd_neF c; clear c
        first | refine fo_goS mi_k128 fz128_23_1_25 [.int (-11)] (by rfl) ?_ | refine ft_go mi_k128 1 25 [(3, .ref 114), (0, .ref 0), (1, .int x1), (2, .int x2)] [.int (-11)] i a q r (by rfl) ?_ | refine ko_steps mi_in128 1 _ (25, [(3, .ref 114), (0, .ref 0), (1, .int x1), (2, .int x2)], [.int (-11)], (0, 0), ks i a q r) (by rfl) ?_
        exact ft_ret mi_k128 (by rfl) (hP (-11) (oz1252 knm11))
    exact (oz1008 w12 w21 w3 w30 w39 w48 z2.1 z2.2).elim
  ·
    subst eg1
    first | refine ft_goS mi_k128 2 8 [.int (-1)] (by rfl) ?_ | refine ft_go mi_k128 2 8 [(0, .ref 0), (1, .int x1), (2, .int x2)] [.int (-1)] i a q r (by rfl) ?_ | refine ko_steps mi_in128 2 _ (8, [(0, .ref 0), (1, .int x1), (2, .int x2)], [.int (-1)], (0, 0), ks i a q r) (by rfl) ?_
    exact ft_ret mi_k128 (by rfl) (hP (-1) (oz1258 knm1))
set_option maxRecDepth 100000 in
theorem kc116_0 {i : Nat → Int32} {a : Nat → List Int32} {q : Nat → List Int64} {r : Nat → Nat} (hI : kI i a q) (hr : kr r) (x1 : Int32) (x2 : Int32) : km 7 116 [.ref 0, .int x1, .int x2] (ks i a q r) (kPL (ks i a q r) (fun v => True)) := by
  have hG := kG_self kW0 hI hr
  refine km_ofPL (q := (mi_h116, mi_c116)) rfl (by decide) (Nat.le_of_ble_eq_true rfl) ?_
  intro P hP
  first | refine ft_goL mi_k116 3 3 [(0, .ref 0), (1, .int x1), (2, .int x2)] [.int x2, .int x1, .ref 0] (by rfl) ?_ | refine ft_go mi_k116 3 3 [(0, .ref 0), (1, .int x1), (2, .int x2)] [.int x2, .int x1, .ref 0] i a q r (by rfl) ?_ | refine ko_steps mi_in116 3 _ (3, [(0, .ref 0), (1, .int x1), (2, .int x2)], [.int x2, .int x1, .ref 0], (0, 0), ks i a q r) (by rfl) ?_
  refine ko_callPI mi_k116.1 (pc := 3) (ls := [(0, .ref 0), (1, .int x1), (2, .int x2)]) (st := [.int x2, .int x1, .ref 0]) (h := ks i a q r) (i := (.invokevirtual 312, 3, 128, 0, 9, 0, 311)) (mi_k116.2 _ _ (by rfl)) (ft_invS mi_pq128 (by rfl)) (cy := mi_c128) mi_pq128 rfl (kc128_0 hG.I hG.R x1 x2) (by decide) ?_
  intro vg1 hg1
  have z2 : (vg1.toInt < 0) ∨ ((vg1.toInt = 0) ∧ ((0 : Int) ≤ x1.toInt) ∧ (x1.toInt ≤ 5) ∧ ((0 : Int) ≤ x2.toInt) ∧ (x2.toInt ≤ 59)) := hg1
  refine ft_ifS mi_k116 (decide (0 ≤ vg1)) 15 9 [] (by rfl) (fun c => ?_) (fun c => ?_)
  ·
    have c3 : (0 : Int32).toInt ≤ vg1.toInt := kd_le c; clear c
    first | refine ft_goS mi_k116 3 20 [.int x1, .ref 97] (by rfl) ?_ | refine ft_go mi_k116 3 20 [(0, .ref 0), (1, .int x1), (2, .int x2)] [.int x1, .ref 97] i a q r (by rfl) ?_ | refine ko_steps mi_in116 3 _ (20, [(0, .ref 0), (1, .int x1), (2, .int x2)], [.int x1, .ref 97], (0, 0), ks i a q r) (by rfl) ?_
    by_cases w4 : x1.toInt = 0
    ·
      refine ft_alx mi_k116 (pc := 20) (v := 0) (p := 97) (z := 104) (kj_eq w4 (by decide) : x1 = 0) (by decide +kernel) (by decide +kernel) ?_
      first | refine fo_goS mi_k116 fz116_21_2_25 [.int x2, .ref 105] (by rfl) ?_ | refine ft_go mi_k116 2 25 [(0, .ref 0), (1, .int x1), (2, .int x2)] [.int x2, .ref 105] i a q r (by rfl) ?_ | refine ko_steps mi_in116 2 _ (25, [(0, .ref 0), (1, .int x1), (2, .int x2)], [.int x2, .ref 105], (0, 0), ks i a q r) (by rfl) ?_
      refine ko_lald2 mi_k116.1 (l := q 105) (n := 60) (c := 60) (ax := (0, 0, 0, 0, 0)) (mi_k116.2 _ _ (by rfl)) (by rfl) (by rfl) (hG.I.2.2.2 105) rfl (oz1261 c3 z2 kn0) (oz1262 c3 z2 kn0) ?_
      exact ft_ret mi_k116 (by rfl) (hP ((q 105).getD x2.toNatClampNeg 0) trivial)
    by_cases w5 : x1.toInt = 1
    ·
      refine ft_alx mi_k116 (pc := 20) (v := 1) (p := 97) (z := 106) (kj_eq w5 (by decide) : x1 = 1) (by decide +kernel) (by decide +kernel) ?_
      first | refine fo_goS mi_k116 fz116_21_2_25 [.int x2, .ref 107] (by rfl) ?_ | refine ft_go mi_k116 2 25 [(0, .ref 0), (1, .int x1), (2, .int x2)] [.int x2, .ref 107] i a q r (by rfl) ?_ | refine ko_steps mi_in116 2 _ (25, [(0, .ref 0), (1, .int x1), (2, .int x2)], [.int x2, .ref 107], (0, 0), ks i a q r) (by rfl) ?_
      refine ko_lald2 mi_k116.1 (l := q 107) (n := 60) (c := 60) (ax := (0, 0, 0, 0, 0)) (mi_k116.2 _ _ (by rfl)) (by rfl) (by rfl) (hG.I.2.2.2 107) rfl (oz1261 c3 z2 kn0) (oz1262 c3 z2 kn0) ?_
      exact ft_ret mi_k116 (by rfl) (hP ((q 107).getD x2.toNatClampNeg 0) trivial)
    by_cases w6 : x1.toInt = 2
    ·
      refine ft_alx mi_k116 (pc := 20) (v := 2) (p := 97) (z := 108) (kj_eq w6 (by decide) : x1 = 2) (by decide +kernel) (by decide +kernel) ?_
      first | refine fo_goS mi_k116 fz116_21_2_25 [.int x2, .ref 109] (by rfl) ?_ | refine ft_go mi_k116 2 25 [(0, .ref 0), (1, .int x1), (2, .int x2)] [.int x2, .ref 109] i a q r (by rfl) ?_ | refine ko_steps mi_in116 2 _ (25, [(0, .ref 0), (1, .int x1), (2, .int x2)], [.int x2, .ref 109], (0, 0), ks i a q r) (by rfl) ?_
      refine ko_lald2 mi_k116.1 (l := q 109) (n := 60) (c := 60) (ax := (0, 0, 0, 0, 0)) (mi_k116.2 _ _ (by rfl)) (by rfl) (by rfl) (hG.I.2.2.2 109) rfl (oz1261 c3 z2 kn0) (oz1262 c3 z2 kn0) ?_
      exact ft_ret mi_k116 (by rfl) (hP ((q 109).getD x2.toNatClampNeg 0) trivial)
    by_cases w7 : x1.toInt = 3
    ·
      refine ft_alx mi_k116 (pc := 20) (v := 3) (p := 97) (z := 110) (kj_eq w7 (by decide) : x1 = 3) (by decide +kernel) (by decide +kernel) ?_
      first | refine fo_goS mi_k116 fz116_21_2_25 [.int x2, .ref 111] (by rfl) ?_ | refine ft_go mi_k116 2 25 [(0, .ref 0), (1, .int x1), (2, .int x2)] [.int x2, .ref 111] i a q r (by rfl) ?_ | refine ko_steps mi_in116 2 _ (25, [(0, .ref 0), (1, .int x1), (2, .int x2)], [.int x2, .ref 111], (0, 0), ks i a q r) (by rfl) ?_
      refine ko_lald2 mi_k116.1 (l := q 111) (n := 60) (c := 60) (ax := (0, 0, 0, 0, 0)) (mi_k116.2 _ _ (by rfl)) (by rfl) (by rfl) (hG.I.2.2.2 111) rfl (oz1261 c3 z2 kn0) (oz1262 c3 z2 kn0) ?_
      exact ft_ret mi_k116 (by rfl) (hP ((q 111).getD x2.toNatClampNeg 0) trivial)
    by_cases w8 : x1.toInt = 4
    ·
      refine ft_alx mi_k116 (pc := 20) (v := 4) (p := 97) (z := 112) (kj_eq w8 (by decide) : x1 = 4) (by decide +kernel) (by decide +kernel) ?_
      first | refine fo_goS mi_k116 fz116_21_2_25 [.int x2, .ref 113] (by rfl) ?_ | refine ft_go mi_k116 2 25 [(0, .ref 0), (1, .int x1), (2, .int x2)] [.int x2, .ref 113] i a q r (by rfl) ?_ | refine ko_steps mi_in116 2 _ (25, [(0, .ref 0), (1, .int x1), (2, .int x2)], [.int x2, .ref 113], (0, 0), ks i a q r) (by rfl) ?_
      refine ko_lald2 mi_k116.1 (l := q 113) (n := 60) (c := 60) (ax := (0, 0, 0, 0, 0)) (mi_k116.2 _ _ (by rfl)) (by rfl) (by rfl) (hG.I.2.2.2 113) rfl (oz1261 c3 z2 kn0) (oz1262 c3 z2 kn0) ?_
      exact ft_ret mi_k116 (by rfl) (hP ((q 113).getD x2.toNatClampNeg 0) trivial)
    by_cases w9 : x1.toInt = 5
    ·
      refine ft_alx mi_k116 (pc := 20) (v := 5) (p := 97) (z := 114) (kj_eq w9 (by decide) : x1 = 5) (by decide +kernel) (by decide +kernel) ?_
      first | refine fo_goS mi_k116 fz116_21_2_25 [.int x2, .ref 115] (by rfl) ?_ | refine ft_go mi_k116 2 25 [(0, .ref 0), (1, .int x1), (2, .int x2)] [.int x2, .ref 115] i a q r (by rfl) ?_ | refine ko_steps mi_in116 2 _ (25, [(0, .ref 0), (1, .int x1), (2, .int x2)], [.int x2, .ref 115], (0, 0), ks i a q r) (by rfl) ?_
      refine ko_lald2 mi_k116.1 (l := q 115) (n := 60) (c := 60) (ax := (0, 0, 0, 0, 0)) (mi_k116.2 _ _ (by rfl)) (by rfl) (by rfl) (hG.I.2.2.2 115) rfl (oz1261 c3 z2 kn0) (oz1262 c3 z2 kn0) ?_
      exact ft_ret mi_k116 (by rfl) (hP ((q 115).getD x2.toNatClampNeg 0) trivial)
    exact (oz1270 c3 w4 w5 w6 w7 w8 w9 z2 kn0).elim
  ·
    have c10 : vg1.toInt < (0 : Int32).toInt := kd_leF c; clear c
    first | refine ft_goS mi_k116 2 26 [.long (-9223372036854775808)] (by rfl) ?_ | refine ft_go mi_k116 2 26 [(0, .ref 0), (1, .int x1), (2, .int x2)] [.long (-9223372036854775808)] i a q r (by rfl) ?_ | refine ko_steps mi_in116 2 _ (26, [(0, .ref 0), (1, .int x1), (2, .int x2)], [.long (-9223372036854775808)], (0, 0), ks i a q r) (by rfl) ?_
    exact ft_ret mi_k116 (by rfl) (hP (-9223372036854775808) trivial)
set_option maxRecDepth 100000 in
theorem kc37_104 {i : Nat → Int32} {a : Nat → List Int32} {q : Nat → List Int64} {r : Nat → Nat} (hI : kI i a q) (hr : kr r) (x1 : Int32) (x2 : Int32) : km 1 37 [.ref 104, .int x1, .int x2] (ks i a q r) (kPI (ks i a q r) (fun v => (v = 1 ∧ (((0 : Int) ≤ x2.toInt) ∧ (x2.toInt ≤ (i 6659).toInt) ∧ ((0 : Int) ≤ x1.toInt) ∧ ((x1.toInt + x2.toInt) ≤ (i 6659).toInt))) ∨ (v = 0 ∧ (¬ (((0 : Int) ≤ x2.toInt) ∧ (x2.toInt ≤ (i 6659).toInt) ∧ ((0 : Int) ≤ x1.toInt) ∧ ((x1.toInt + x2.toInt) ≤ (i 6659).toInt)))))) := by
  have hG := kG_self kW0 hI hr
  refine km_ofPI (q := (mi_h37, mi_c37)) rfl (by decide) (Nat.le_of_ble_eq_true rfl) ?_
  intro P hP
  first | refine fo_goL mi_k37 fz37_0_1_1 [(0, .ref 104), (1, .int x1), (2, .int x2)] [.int x2] (by rfl) ?_ | refine ft_go mi_k37 1 1 [(0, .ref 104), (1, .int x1), (2, .int x2)] [.int x2] i a q r (by rfl) ?_
  refine ft_ifS mi_k37 (decide (x2 < 0)) 30 4 [] (by rfl) (fun c => ?_) (fun c => ?_)
  ·
    have c1 : x2.toInt < (0 : Int32).toInt := kd_lt c; clear c
    first | refine fo_goS mi_k37 fz37_27_1_31 [.int 0] (by rfl) ?_ | refine fo_goS mi_k37 fz37_30_1_31 [.int 0] (by rfl) ?_ | refine ft_go mi_k37 1 31 [(0, .ref 104), (1, .int x1), (2, .int x2)] [.int 0] i a q r (by rfl) ?_
    exact ft_ret mi_k37 (by rfl) (hP 0 (Or.inr ⟨rfl, (oz1272 c1 kn0)⟩))
  ·
    have c2 : (0 : Int32).toInt ≤ x2.toInt := kd_ltF c; clear c
    have fi_6659 : ((0 : Int) ≤ (i 6659).toInt) ∧ ((i 6659).toInt ≤ 60) := hG.I.1 6659
    first | refine fo_goS mi_k37 fz37_4_3_9 [.int (i 6659), .int x2] (by rfl) ?_ | refine ft_go mi_k37 3 9 [(0, .ref 104), (1, .int x1), (2, .int x2)] [.int (i 6659), .int x2] i a q r (by rfl) ?_
    refine ft_ifS mi_k37 (decide ((i 6659) < x2)) 30 12 [] (by rfl) (fun c => ?_) (fun c => ?_)
    ·
      have c3 : (i 6659).toInt < x2.toInt := kd_lt c; clear c
      first | refine fo_goS mi_k37 fz37_27_1_31 [.int 0] (by rfl) ?_ | refine fo_goS mi_k37 fz37_30_1_31 [.int 0] (by rfl) ?_ | refine ft_go mi_k37 1 31 [(0, .ref 104), (1, .int x1), (2, .int x2)] [.int 0] i a q r (by rfl) ?_
      exact ft_ret mi_k37 (by rfl) (hP 0 (Or.inr ⟨rfl, (oz1273 c3)⟩))
    ·
      have c4 : x2.toInt ≤ (i 6659).toInt := kd_ltF c; clear c
      first | refine fo_goS mi_k37 fz37_12_1_13 [.int x1] (by rfl) ?_ | refine ft_go mi_k37 1 13 [(0, .ref 104), (1, .int x1), (2, .int x2)] [.int x1] i a q r (by rfl) ?_
      refine ft_ifS mi_k37 (decide (x1 < 0)) 30 16 [] (by rfl) (fun c => ?_) (fun c => ?_)
      ·
        have c5 : x1.toInt < (0 : Int32).toInt := kd_lt c; clear c
        first | refine fo_goS mi_k37 fz37_27_1_31 [.int 0] (by rfl) ?_ | refine fo_goS mi_k37 fz37_30_1_31 [.int 0] (by rfl) ?_ | refine ft_go mi_k37 1 31 [(0, .ref 104), (1, .int x1), (2, .int x2)] [.int 0] i a q r (by rfl) ?_
        exact ft_ret mi_k37 (by rfl) (hP 0 (Or.inr ⟨rfl, (oz1274 c5 kn0)⟩))
      ·
        have c6 : (0 : Int32).toInt ≤ x1.toInt := kd_ltF c; clear c
        have s7 : ((i 6659) - x2).toInt = (i 6659).toInt - x2.toInt := kd_sub (oz551 c4) (oz1275 c2 fi_6659.2 kn0)
        first | refine fo_goS mi_k37 fz37_16_5_23 [.int ((i 6659) - x2), .int x1] (by rfl) ?_ | refine ft_go mi_k37 5 23 [(0, .ref 104), (1, .int x1), (2, .int x2)] [.int ((i 6659) - x2), .int x1] i a q r (by rfl) ?_
        refine ft_ifS mi_k37 (decide (((i 6659) - x2) < x1)) 30 26 [] (by rfl) (fun c => ?_) (fun c => ?_)
        ·
          have c8 : ((i 6659) - x2).toInt < x1.toInt := kd_lt c; clear c
          first | refine fo_goS mi_k37 fz37_27_1_31 [.int 0] (by rfl) ?_ | refine fo_goS mi_k37 fz37_30_1_31 [.int 0] (by rfl) ?_ | refine ft_go mi_k37 1 31 [(0, .ref 104), (1, .int x1), (2, .int x2)] [.int 0] i a q r (by rfl) ?_
          exact ft_ret mi_k37 (by rfl) (hP 0 (Or.inr ⟨rfl, (oz1276 c8 s7)⟩))
        ·
          have c9 : x1.toInt ≤ ((i 6659) - x2).toInt := kd_ltF c; clear c
          first | refine fo_goS mi_k37 fz37_26_2_31 [.int 1] (by rfl) ?_ | refine fo_goS mi_k37 fz37_1_2_31 [.int 1] (by rfl) ?_ | refine fo_goS mi_k37 fz37_13_2_31 [.int 1] (by rfl) ?_ | refine ft_goS mi_k37 2 31 [.int 1] (by rfl) ?_ | refine ft_go mi_k37 2 31 [(0, .ref 104), (1, .int x1), (2, .int x2)] [.int 1] i a q r (by rfl) ?_
          exact ft_ret mi_k37 (by rfl) (hP 1 (Or.inl ⟨rfl, (oz1277 c2 c4 c6 c9 s7 kn0)⟩))
set_option maxRecDepth 100000 in
theorem kc37_106 {i : Nat → Int32} {a : Nat → List Int32} {q : Nat → List Int64} {r : Nat → Nat} (hI : kI i a q) (hr : kr r) (x1 : Int32) (x2 : Int32) : km 1 37 [.ref 106, .int x1, .int x2] (ks i a q r) (kPI (ks i a q r) (fun v => (v = 1 ∧ (((0 : Int) ≤ x2.toInt) ∧ (x2.toInt ≤ (i 6787).toInt) ∧ ((0 : Int) ≤ x1.toInt) ∧ ((x1.toInt + x2.toInt) ≤ (i 6787).toInt))) ∨ (v = 0 ∧ (¬ (((0 : Int) ≤ x2.toInt) ∧ (x2.toInt ≤ (i 6787).toInt) ∧ ((0 : Int) ≤ x1.toInt) ∧ ((x1.toInt + x2.toInt) ≤ (i 6787).toInt)))))) := by
  have hG := kG_self kW0 hI hr
  refine km_ofPI (q := (mi_h37, mi_c37)) rfl (by decide) (Nat.le_of_ble_eq_true rfl) ?_
  intro P hP
  first | refine fo_goL mi_k37 fz37_0_1_1 [(0, .ref 106), (1, .int x1), (2, .int x2)] [.int x2] (by rfl) ?_ | refine ft_go mi_k37 1 1 [(0, .ref 106), (1, .int x1), (2, .int x2)] [.int x2] i a q r (by rfl) ?_
  refine ft_ifS mi_k37 (decide (x2 < 0)) 30 4 [] (by rfl) (fun c => ?_) (fun c => ?_)
  ·
    have c1 : x2.toInt < (0 : Int32).toInt := kd_lt c; clear c
    first | refine fo_goS mi_k37 fz37_27_1_31 [.int 0] (by rfl) ?_ | refine fo_goS mi_k37 fz37_30_1_31 [.int 0] (by rfl) ?_ | refine ft_go mi_k37 1 31 [(0, .ref 106), (1, .int x1), (2, .int x2)] [.int 0] i a q r (by rfl) ?_
    exact ft_ret mi_k37 (by rfl) (hP 0 (Or.inr ⟨rfl, (oz1272 c1 kn0)⟩))
  ·
    have c2 : (0 : Int32).toInt ≤ x2.toInt := kd_ltF c; clear c
    have fi_6787 : ((0 : Int) ≤ (i 6787).toInt) ∧ ((i 6787).toInt ≤ 60) := hG.I.1 6787
    first | refine fo_goS mi_k37 fz37_4_3_9 [.int (i 6787), .int x2] (by rfl) ?_ | refine ft_go mi_k37 3 9 [(0, .ref 106), (1, .int x1), (2, .int x2)] [.int (i 6787), .int x2] i a q r (by rfl) ?_
    refine ft_ifS mi_k37 (decide ((i 6787) < x2)) 30 12 [] (by rfl) (fun c => ?_) (fun c => ?_)
    ·
      have c3 : (i 6787).toInt < x2.toInt := kd_lt c; clear c
      first | refine fo_goS mi_k37 fz37_27_1_31 [.int 0] (by rfl) ?_ | refine fo_goS mi_k37 fz37_30_1_31 [.int 0] (by rfl) ?_ | refine ft_go mi_k37 1 31 [(0, .ref 106), (1, .int x1), (2, .int x2)] [.int 0] i a q r (by rfl) ?_
      exact ft_ret mi_k37 (by rfl) (hP 0 (Or.inr ⟨rfl, (oz1273 c3)⟩))
    ·
      have c4 : x2.toInt ≤ (i 6787).toInt := kd_ltF c; clear c
      first | refine fo_goS mi_k37 fz37_12_1_13 [.int x1] (by rfl) ?_ | refine ft_go mi_k37 1 13 [(0, .ref 106), (1, .int x1), (2, .int x2)] [.int x1] i a q r (by rfl) ?_
      refine ft_ifS mi_k37 (decide (x1 < 0)) 30 16 [] (by rfl) (fun c => ?_) (fun c => ?_)
      ·
        have c5 : x1.toInt < (0 : Int32).toInt := kd_lt c; clear c
        first | refine fo_goS mi_k37 fz37_27_1_31 [.int 0] (by rfl) ?_ | refine fo_goS mi_k37 fz37_30_1_31 [.int 0] (by rfl) ?_ | refine ft_go mi_k37 1 31 [(0, .ref 106), (1, .int x1), (2, .int x2)] [.int 0] i a q r (by rfl) ?_
        exact ft_ret mi_k37 (by rfl) (hP 0 (Or.inr ⟨rfl, (oz1274 c5 kn0)⟩))
      ·
        have c6 : (0 : Int32).toInt ≤ x1.toInt := kd_ltF c; clear c
        have s7 : ((i 6787) - x2).toInt = (i 6787).toInt - x2.toInt := kd_sub (oz551 c4) (oz1275 c2 fi_6787.2 kn0)
        first | refine fo_goS mi_k37 fz37_16_5_23 [.int ((i 6787) - x2), .int x1] (by rfl) ?_ | refine ft_go mi_k37 5 23 [(0, .ref 106), (1, .int x1), (2, .int x2)] [.int ((i 6787) - x2), .int x1] i a q r (by rfl) ?_
        refine ft_ifS mi_k37 (decide (((i 6787) - x2) < x1)) 30 26 [] (by rfl) (fun c => ?_) (fun c => ?_)
        ·
          have c8 : ((i 6787) - x2).toInt < x1.toInt := kd_lt c; clear c
          first | refine fo_goS mi_k37 fz37_27_1_31 [.int 0] (by rfl) ?_ | refine fo_goS mi_k37 fz37_30_1_31 [.int 0] (by rfl) ?_ | refine ft_go mi_k37 1 31 [(0, .ref 106), (1, .int x1), (2, .int x2)] [.int 0] i a q r (by rfl) ?_
          exact ft_ret mi_k37 (by rfl) (hP 0 (Or.inr ⟨rfl, (oz1276 c8 s7)⟩))
        ·
          have c9 : x1.toInt ≤ ((i 6787) - x2).toInt := kd_ltF c; clear c
          first | refine fo_goS mi_k37 fz37_26_2_31 [.int 1] (by rfl) ?_ | refine fo_goS mi_k37 fz37_1_2_31 [.int 1] (by rfl) ?_ | refine fo_goS mi_k37 fz37_13_2_31 [.int 1] (by rfl) ?_ | refine ft_goS mi_k37 2 31 [.int 1] (by rfl) ?_ | refine ft_go mi_k37 2 31 [(0, .ref 106), (1, .int x1), (2, .int x2)] [.int 1] i a q r (by rfl) ?_
          exact ft_ret mi_k37 (by rfl) (hP 1 (Or.inl ⟨rfl, (oz1277 c2 c4 c6 c9 s7 kn0)⟩))
set_option maxRecDepth 100000 in
theorem kc37_108 {i : Nat → Int32} {a : Nat → List Int32} {q : Nat → List Int64} {r : Nat → Nat} (hI : kI i a q) (hr : kr r) (x1 : Int32) (x2 : Int32) : km 1 37 [.ref 108, .int x1, .int x2] (ks i a q r) (kPI (ks i a q r) (fun v => (v = 1 ∧ (((0 : Int) ≤ x2.toInt) ∧ (x2.toInt ≤ (i 6915).toInt) ∧ ((0 : Int) ≤ x1.toInt) ∧ ((x1.toInt + x2.toInt) ≤ (i 6915).toInt))) ∨ (v = 0 ∧ (¬ (((0 : Int) ≤ x2.toInt) ∧ (x2.toInt ≤ (i 6915).toInt) ∧ ((0 : Int) ≤ x1.toInt) ∧ ((x1.toInt + x2.toInt) ≤ (i 6915).toInt)))))) := by
  have hG := kG_self kW0 hI hr
  refine km_ofPI (q := (mi_h37, mi_c37)) rfl (by decide) (Nat.le_of_ble_eq_true rfl) ?_
  intro P hP
  first | refine fo_goL mi_k37 fz37_0_1_1 [(0, .ref 108), (1, .int x1), (2, .int x2)] [.int x2] (by rfl) ?_ | refine ft_go mi_k37 1 1 [(0, .ref 108), (1, .int x1), (2, .int x2)] [.int x2] i a q r (by rfl) ?_
  refine ft_ifS mi_k37 (decide (x2 < 0)) 30 4 [] (by rfl) (fun c => ?_) (fun c => ?_)
  ·
    have c1 : x2.toInt < (0 : Int32).toInt := kd_lt c; clear c
    first | refine fo_goS mi_k37 fz37_27_1_31 [.int 0] (by rfl) ?_ | refine fo_goS mi_k37 fz37_30_1_31 [.int 0] (by rfl) ?_ | refine ft_go mi_k37 1 31 [(0, .ref 108), (1, .int x1), (2, .int x2)] [.int 0] i a q r (by rfl) ?_
    exact ft_ret mi_k37 (by rfl) (hP 0 (Or.inr ⟨rfl, (oz1272 c1 kn0)⟩))
  ·
    have c2 : (0 : Int32).toInt ≤ x2.toInt := kd_ltF c; clear c
    have fi_6915 : ((0 : Int) ≤ (i 6915).toInt) ∧ ((i 6915).toInt ≤ 60) := hG.I.1 6915
    first | refine fo_goS mi_k37 fz37_4_3_9 [.int (i 6915), .int x2] (by rfl) ?_ | refine ft_go mi_k37 3 9 [(0, .ref 108), (1, .int x1), (2, .int x2)] [.int (i 6915), .int x2] i a q r (by rfl) ?_
    refine ft_ifS mi_k37 (decide ((i 6915) < x2)) 30 12 [] (by rfl) (fun c => ?_) (fun c => ?_)
    ·
      have c3 : (i 6915).toInt < x2.toInt := kd_lt c; clear c
      first | refine fo_goS mi_k37 fz37_27_1_31 [.int 0] (by rfl) ?_ | refine fo_goS mi_k37 fz37_30_1_31 [.int 0] (by rfl) ?_ | refine ft_go mi_k37 1 31 [(0, .ref 108), (1, .int x1), (2, .int x2)] [.int 0] i a q r (by rfl) ?_
      exact ft_ret mi_k37 (by rfl) (hP 0 (Or.inr ⟨rfl, (oz1273 c3)⟩))
    ·
      have c4 : x2.toInt ≤ (i 6915).toInt := kd_ltF c; clear c
      first | refine fo_goS mi_k37 fz37_12_1_13 [.int x1] (by rfl) ?_ | refine ft_go mi_k37 1 13 [(0, .ref 108), (1, .int x1), (2, .int x2)] [.int x1] i a q r (by rfl) ?_
      refine ft_ifS mi_k37 (decide (x1 < 0)) 30 16 [] (by rfl) (fun c => ?_) (fun c => ?_)
      ·
        have c5 : x1.toInt < (0 : Int32).toInt := kd_lt c; clear c
        first | refine fo_goS mi_k37 fz37_27_1_31 [.int 0] (by rfl) ?_ | refine fo_goS mi_k37 fz37_30_1_31 [.int 0] (by rfl) ?_ | refine ft_go mi_k37 1 31 [(0, .ref 108), (1, .int x1), (2, .int x2)] [.int 0] i a q r (by rfl) ?_
        exact ft_ret mi_k37 (by rfl) (hP 0 (Or.inr ⟨rfl, (oz1274 c5 kn0)⟩))
      ·
        have c6 : (0 : Int32).toInt ≤ x1.toInt := kd_ltF c; clear c
        have s7 : ((i 6915) - x2).toInt = (i 6915).toInt - x2.toInt := kd_sub (oz551 c4) (oz1275 c2 fi_6915.2 kn0)
        first | refine fo_goS mi_k37 fz37_16_5_23 [.int ((i 6915) - x2), .int x1] (by rfl) ?_ | refine ft_go mi_k37 5 23 [(0, .ref 108), (1, .int x1), (2, .int x2)] [.int ((i 6915) - x2), .int x1] i a q r (by rfl) ?_
        refine ft_ifS mi_k37 (decide (((i 6915) - x2) < x1)) 30 26 [] (by rfl) (fun c => ?_) (fun c => ?_)
        ·
          have c8 : ((i 6915) - x2).toInt < x1.toInt := kd_lt c; clear c
          first | refine fo_goS mi_k37 fz37_27_1_31 [.int 0] (by rfl) ?_ | refine fo_goS mi_k37 fz37_30_1_31 [.int 0] (by rfl) ?_ | refine ft_go mi_k37 1 31 [(0, .ref 108), (1, .int x1), (2, .int x2)] [.int 0] i a q r (by rfl) ?_
          exact ft_ret mi_k37 (by rfl) (hP 0 (Or.inr ⟨rfl, (oz1276 c8 s7)⟩))
        ·
          have c9 : x1.toInt ≤ ((i 6915) - x2).toInt := kd_ltF c; clear c
          first | refine fo_goS mi_k37 fz37_26_2_31 [.int 1] (by rfl) ?_ | refine fo_goS mi_k37 fz37_1_2_31 [.int 1] (by rfl) ?_ | refine fo_goS mi_k37 fz37_13_2_31 [.int 1] (by rfl) ?_ | refine ft_goS mi_k37 2 31 [.int 1] (by rfl) ?_ | refine ft_go mi_k37 2 31 [(0, .ref 108), (1, .int x1), (2, .int x2)] [.int 1] i a q r (by rfl) ?_
          exact ft_ret mi_k37 (by rfl) (hP 1 (Or.inl ⟨rfl, (oz1277 c2 c4 c6 c9 s7 kn0)⟩))
set_option maxRecDepth 100000 in
theorem kc37_110 {i : Nat → Int32} {a : Nat → List Int32} {q : Nat → List Int64} {r : Nat → Nat} (hI : kI i a q) (hr : kr r) (x1 : Int32) (x2 : Int32) : km 1 37 [.ref 110, .int x1, .int x2] (ks i a q r) (kPI (ks i a q r) (fun v => (v = 1 ∧ (((0 : Int) ≤ x2.toInt) ∧ (x2.toInt ≤ (i 7043).toInt) ∧ ((0 : Int) ≤ x1.toInt) ∧ ((x1.toInt + x2.toInt) ≤ (i 7043).toInt))) ∨ (v = 0 ∧ (¬ (((0 : Int) ≤ x2.toInt) ∧ (x2.toInt ≤ (i 7043).toInt) ∧ ((0 : Int) ≤ x1.toInt) ∧ ((x1.toInt + x2.toInt) ≤ (i 7043).toInt)))))) := by
  have hG := kG_self kW0 hI hr
  refine km_ofPI (q := (mi_h37, mi_c37)) rfl (by decide) (Nat.le_of_ble_eq_true rfl) ?_
  intro P hP
  first | refine fo_goL mi_k37 fz37_0_1_1 [(0, .ref 110), (1, .int x1), (2, .int x2)] [.int x2] (by rfl) ?_ | refine ft_go mi_k37 1 1 [(0, .ref 110), (1, .int x1), (2, .int x2)] [.int x2] i a q r (by rfl) ?_
  refine ft_ifS mi_k37 (decide (x2 < 0)) 30 4 [] (by rfl) (fun c => ?_) (fun c => ?_)
  ·
    have c1 : x2.toInt < (0 : Int32).toInt := kd_lt c; clear c
    first | refine fo_goS mi_k37 fz37_27_1_31 [.int 0] (by rfl) ?_ | refine fo_goS mi_k37 fz37_30_1_31 [.int 0] (by rfl) ?_ | refine ft_go mi_k37 1 31 [(0, .ref 110), (1, .int x1), (2, .int x2)] [.int 0] i a q r (by rfl) ?_
    exact ft_ret mi_k37 (by rfl) (hP 0 (Or.inr ⟨rfl, (oz1272 c1 kn0)⟩))
  ·
    have c2 : (0 : Int32).toInt ≤ x2.toInt := kd_ltF c; clear c
    have fi_7043 : ((0 : Int) ≤ (i 7043).toInt) ∧ ((i 7043).toInt ≤ 60) := hG.I.1 7043
    first | refine fo_goS mi_k37 fz37_4_3_9 [.int (i 7043), .int x2] (by rfl) ?_ | refine ft_go mi_k37 3 9 [(0, .ref 110), (1, .int x1), (2, .int x2)] [.int (i 7043), .int x2] i a q r (by rfl) ?_
    refine ft_ifS mi_k37 (decide ((i 7043) < x2)) 30 12 [] (by rfl) (fun c => ?_) (fun c => ?_)
    ·
      have c3 : (i 7043).toInt < x2.toInt := kd_lt c; clear c
      first | refine fo_goS mi_k37 fz37_27_1_31 [.int 0] (by rfl) ?_ | refine fo_goS mi_k37 fz37_30_1_31 [.int 0] (by rfl) ?_ | refine ft_go mi_k37 1 31 [(0, .ref 110), (1, .int x1), (2, .int x2)] [.int 0] i a q r (by rfl) ?_
      exact ft_ret mi_k37 (by rfl) (hP 0 (Or.inr ⟨rfl, (oz1273 c3)⟩))
    ·
      have c4 : x2.toInt ≤ (i 7043).toInt := kd_ltF c; clear c
      first | refine fo_goS mi_k37 fz37_12_1_13 [.int x1] (by rfl) ?_ | refine ft_go mi_k37 1 13 [(0, .ref 110), (1, .int x1), (2, .int x2)] [.int x1] i a q r (by rfl) ?_
      refine ft_ifS mi_k37 (decide (x1 < 0)) 30 16 [] (by rfl) (fun c => ?_) (fun c => ?_)
      ·
        have c5 : x1.toInt < (0 : Int32).toInt := kd_lt c; clear c
        first | refine fo_goS mi_k37 fz37_27_1_31 [.int 0] (by rfl) ?_ | refine fo_goS mi_k37 fz37_30_1_31 [.int 0] (by rfl) ?_ | refine ft_go mi_k37 1 31 [(0, .ref 110), (1, .int x1), (2, .int x2)] [.int 0] i a q r (by rfl) ?_
        exact ft_ret mi_k37 (by rfl) (hP 0 (Or.inr ⟨rfl, (oz1274 c5 kn0)⟩))
      ·
        have c6 : (0 : Int32).toInt ≤ x1.toInt := kd_ltF c; clear c
        have s7 : ((i 7043) - x2).toInt = (i 7043).toInt - x2.toInt := kd_sub (oz551 c4) (oz1275 c2 fi_7043.2 kn0)
        first | refine fo_goS mi_k37 fz37_16_5_23 [.int ((i 7043) - x2), .int x1] (by rfl) ?_ | refine ft_go mi_k37 5 23 [(0, .ref 110), (1, .int x1), (2, .int x2)] [.int ((i 7043) - x2), .int x1] i a q r (by rfl) ?_
        refine ft_ifS mi_k37 (decide (((i 7043) - x2) < x1)) 30 26 [] (by rfl) (fun c => ?_) (fun c => ?_)
        ·
          have c8 : ((i 7043) - x2).toInt < x1.toInt := kd_lt c; clear c
          first | refine fo_goS mi_k37 fz37_27_1_31 [.int 0] (by rfl) ?_ | refine fo_goS mi_k37 fz37_30_1_31 [.int 0] (by rfl) ?_ | refine ft_go mi_k37 1 31 [(0, .ref 110), (1, .int x1), (2, .int x2)] [.int 0] i a q r (by rfl) ?_
          exact ft_ret mi_k37 (by rfl) (hP 0 (Or.inr ⟨rfl, (oz1276 c8 s7)⟩))
        ·
          have c9 : x1.toInt ≤ ((i 7043) - x2).toInt := kd_ltF c; clear c
          first | refine fo_goS mi_k37 fz37_26_2_31 [.int 1] (by rfl) ?_ | refine fo_goS mi_k37 fz37_1_2_31 [.int 1] (by rfl) ?_ | refine fo_goS mi_k37 fz37_13_2_31 [.int 1] (by rfl) ?_ | refine ft_goS mi_k37 2 31 [.int 1] (by rfl) ?_ | refine ft_go mi_k37 2 31 [(0, .ref 110), (1, .int x1), (2, .int x2)] [.int 1] i a q r (by rfl) ?_
          exact ft_ret mi_k37 (by rfl) (hP 1 (Or.inl ⟨rfl, (oz1277 c2 c4 c6 c9 s7 kn0)⟩))
set_option maxRecDepth 100000 in
theorem kc37_112 {i : Nat → Int32} {a : Nat → List Int32} {q : Nat → List Int64} {r : Nat → Nat} (hI : kI i a q) (hr : kr r) (x1 : Int32) (x2 : Int32) : km 1 37 [.ref 112, .int x1, .int x2] (ks i a q r) (kPI (ks i a q r) (fun v => (v = 1 ∧ (((0 : Int) ≤ x2.toInt) ∧ (x2.toInt ≤ (i 7171).toInt) ∧ ((0 : Int) ≤ x1.toInt) ∧ ((x1.toInt + x2.toInt) ≤ (i 7171).toInt))) ∨ (v = 0 ∧ (¬ (((0 : Int) ≤ x2.toInt) ∧ (x2.toInt ≤ (i 7171).toInt) ∧ ((0 : Int) ≤ x1.toInt) ∧ ((x1.toInt + x2.toInt) ≤ (i 7171).toInt)))))) := by
  have hG := kG_self kW0 hI hr
  refine km_ofPI (q := (mi_h37, mi_c37)) rfl (by decide) (Nat.le_of_ble_eq_true rfl) ?_
  intro P hP
  first | refine fo_goL mi_k37 fz37_0_1_1 [(0, .ref 112), (1, .int x1), (2, .int x2)] [.int x2] (by rfl) ?_ | refine ft_go mi_k37 1 1 [(0, .ref 112), (1, .int x1), (2, .int x2)] [.int x2] i a q r (by rfl) ?_
  refine ft_ifS mi_k37 (decide (x2 < 0)) 30 4 [] (by rfl) (fun c => ?_) (fun c => ?_)
  ·
    have c1 : x2.toInt < (0 : Int32).toInt := kd_lt c; clear c
    first | refine fo_goS mi_k37 fz37_27_1_31 [.int 0] (by rfl) ?_ | refine fo_goS mi_k37 fz37_30_1_31 [.int 0] (by rfl) ?_ | refine ft_go mi_k37 1 31 [(0, .ref 112), (1, .int x1), (2, .int x2)] [.int 0] i a q r (by rfl) ?_
    exact ft_ret mi_k37 (by rfl) (hP 0 (Or.inr ⟨rfl, (oz1272 c1 kn0)⟩))
  ·
    have c2 : (0 : Int32).toInt ≤ x2.toInt := kd_ltF c; clear c
    have fi_7171 : ((0 : Int) ≤ (i 7171).toInt) ∧ ((i 7171).toInt ≤ 60) := hG.I.1 7171
    first | refine fo_goS mi_k37 fz37_4_3_9 [.int (i 7171), .int x2] (by rfl) ?_ | refine ft_go mi_k37 3 9 [(0, .ref 112), (1, .int x1), (2, .int x2)] [.int (i 7171), .int x2] i a q r (by rfl) ?_
    refine ft_ifS mi_k37 (decide ((i 7171) < x2)) 30 12 [] (by rfl) (fun c => ?_) (fun c => ?_)
    ·
      have c3 : (i 7171).toInt < x2.toInt := kd_lt c; clear c
      first | refine fo_goS mi_k37 fz37_27_1_31 [.int 0] (by rfl) ?_ | refine fo_goS mi_k37 fz37_30_1_31 [.int 0] (by rfl) ?_ | refine ft_go mi_k37 1 31 [(0, .ref 112), (1, .int x1), (2, .int x2)] [.int 0] i a q r (by rfl) ?_
      exact ft_ret mi_k37 (by rfl) (hP 0 (Or.inr ⟨rfl, (oz1273 c3)⟩))
    ·
      have c4 : x2.toInt ≤ (i 7171).toInt := kd_ltF c; clear c
      first | refine fo_goS mi_k37 fz37_12_1_13 [.int x1] (by rfl) ?_ | refine ft_go mi_k37 1 13 [(0, .ref 112), (1, .int x1), (2, .int x2)] [.int x1] i a q r (by rfl) ?_
      refine ft_ifS mi_k37 (decide (x1 < 0)) 30 16 [] (by rfl) (fun c => ?_) (fun c => ?_)
      ·
        have c5 : x1.toInt < (0 : Int32).toInt := kd_lt c; clear c
        first | refine fo_goS mi_k37 fz37_27_1_31 [.int 0] (by rfl) ?_ | refine fo_goS mi_k37 fz37_30_1_31 [.int 0] (by rfl) ?_ | refine ft_go mi_k37 1 31 [(0, .ref 112), (1, .int x1), (2, .int x2)] [.int 0] i a q r (by rfl) ?_
        exact ft_ret mi_k37 (by rfl) (hP 0 (Or.inr ⟨rfl, (oz1274 c5 kn0)⟩))
      ·
        have c6 : (0 : Int32).toInt ≤ x1.toInt := kd_ltF c; clear c
        have s7 : ((i 7171) - x2).toInt = (i 7171).toInt - x2.toInt := kd_sub (oz551 c4) (oz1275 c2 fi_7171.2 kn0)
        first | refine fo_goS mi_k37 fz37_16_5_23 [.int ((i 7171) - x2), .int x1] (by rfl) ?_ | refine ft_go mi_k37 5 23 [(0, .ref 112), (1, .int x1), (2, .int x2)] [.int ((i 7171) - x2), .int x1] i a q r (by rfl) ?_
        refine ft_ifS mi_k37 (decide (((i 7171) - x2) < x1)) 30 26 [] (by rfl) (fun c => ?_) (fun c => ?_)
        ·
          have c8 : ((i 7171) - x2).toInt < x1.toInt := kd_lt c; clear c
          first | refine fo_goS mi_k37 fz37_27_1_31 [.int 0] (by rfl) ?_ | refine fo_goS mi_k37 fz37_30_1_31 [.int 0] (by rfl) ?_ | refine ft_go mi_k37 1 31 [(0, .ref 112), (1, .int x1), (2, .int x2)] [.int 0] i a q r (by rfl) ?_
          exact ft_ret mi_k37 (by rfl) (hP 0 (Or.inr ⟨rfl, (oz1276 c8 s7)⟩))
        ·
          have c9 : x1.toInt ≤ ((i 7171) - x2).toInt := kd_ltF c; clear c
          first | refine fo_goS mi_k37 fz37_26_2_31 [.int 1] (by rfl) ?_ | refine fo_goS mi_k37 fz37_1_2_31 [.int 1] (by rfl) ?_ | refine fo_goS mi_k37 fz37_13_2_31 [.int 1] (by rfl) ?_ | refine ft_goS mi_k37 2 31 [.int 1] (by rfl) ?_ | refine ft_go mi_k37 2 31 [(0, .ref 112), (1, .int x1), (2, .int x2)] [.int 1] i a q r (by rfl) ?_
          exact ft_ret mi_k37 (by rfl) (hP 1 (Or.inl ⟨rfl, (oz1277 c2 c4 c6 c9 s7 kn0)⟩))
set_option maxRecDepth 100000 in
theorem kc37_114 {i : Nat → Int32} {a : Nat → List Int32} {q : Nat → List Int64} {r : Nat → Nat} (hI : kI i a q) (hr : kr r) (x1 : Int32) (x2 : Int32) : km 1 37 [.ref 114, .int x1, .int x2] (ks i a q r) (kPI (ks i a q r) (fun v => (v = 1 ∧ (((0 : Int) ≤ x2.toInt) ∧ (x2.toInt ≤ (i 7299).toInt) ∧ ((0 : Int) ≤ x1.toInt) ∧ ((x1.toInt + x2.toInt) ≤ (i 7299).toInt))) ∨ (v = 0 ∧ (¬ (((0 : Int) ≤ x2.toInt) ∧ (x2.toInt ≤ (i 7299).toInt) ∧ ((0 : Int) ≤ x1.toInt) ∧ ((x1.toInt + x2.toInt) ≤ (i 7299).toInt)))))) := by
  have hG := kG_self kW0 hI hr
  refine km_ofPI (q := (mi_h37, mi_c37)) rfl (by decide) (Nat.le_of_ble_eq_true rfl) ?_
  intro P hP
  first | refine fo_goL mi_k37 fz37_0_1_1 [(0, .ref 114), (1, .int x1), (2, .int x2)] [.int x2] (by rfl) ?_ | refine ft_go mi_k37 1 1 [(0, .ref 114), (1, .int x1), (2, .int x2)] [.int x2] i a q r (by rfl) ?_
  refine ft_ifS mi_k37 (decide (x2 < 0)) 30 4 [] (by rfl) (fun c => ?_) (fun c => ?_)
  ·
    have c1 : x2.toInt < (0 : Int32).toInt := kd_lt c; clear c
    first | refine fo_goS mi_k37 fz37_27_1_31 [.int 0] (by rfl) ?_ | refine fo_goS mi_k37 fz37_30_1_31 [.int 0] (by rfl) ?_ | refine ft_go mi_k37 1 31 [(0, .ref 114), (1, .int x1), (2, .int x2)] [.int 0] i a q r (by rfl) ?_
    exact ft_ret mi_k37 (by rfl) (hP 0 (Or.inr ⟨rfl, (oz1272 c1 kn0)⟩))
  ·
    have c2 : (0 : Int32).toInt ≤ x2.toInt := kd_ltF c; clear c
    have fi_7299 : ((0 : Int) ≤ (i 7299).toInt) ∧ ((i 7299).toInt ≤ 60) := hG.I.1 7299
    first | refine fo_goS mi_k37 fz37_4_3_9 [.int (i 7299), .int x2] (by rfl) ?_ | refine ft_go mi_k37 3 9 [(0, .ref 114), (1, .int x1), (2, .int x2)] [.int (i 7299), .int x2] i a q r (by rfl) ?_
    refine ft_ifS mi_k37 (decide ((i 7299) < x2)) 30 12 [] (by rfl) (fun c => ?_) (fun c => ?_)
    ·
      have c3 : (i 7299).toInt < x2.toInt := kd_lt c; clear c
      first | refine fo_goS mi_k37 fz37_27_1_31 [.int 0] (by rfl) ?_ | refine fo_goS mi_k37 fz37_30_1_31 [.int 0] (by rfl) ?_ | refine ft_go mi_k37 1 31 [(0, .ref 114), (1, .int x1), (2, .int x2)] [.int 0] i a q r (by rfl) ?_
      exact ft_ret mi_k37 (by rfl) (hP 0 (Or.inr ⟨rfl, (oz1273 c3)⟩))
    ·
      have c4 : x2.toInt ≤ (i 7299).toInt := kd_ltF c; clear c
      first | refine fo_goS mi_k37 fz37_12_1_13 [.int x1] (by rfl) ?_ | refine ft_go mi_k37 1 13 [(0, .ref 114), (1, .int x1), (2, .int x2)] [.int x1] i a q r (by rfl) ?_
      refine ft_ifS mi_k37 (decide (x1 < 0)) 30 16 [] (by rfl) (fun c => ?_) (fun c => ?_)
      ·
        have c5 : x1.toInt < (0 : Int32).toInt := kd_lt c; clear c
        first | refine fo_goS mi_k37 fz37_27_1_31 [.int 0] (by rfl) ?_ | refine fo_goS mi_k37 fz37_30_1_31 [.int 0] (by rfl) ?_ | refine ft_go mi_k37 1 31 [(0, .ref 114), (1, .int x1), (2, .int x2)] [.int 0] i a q r (by rfl) ?_
        exact ft_ret mi_k37 (by rfl) (hP 0 (Or.inr ⟨rfl, (oz1274 c5 kn0)⟩))
      ·
        have c6 : (0 : Int32).toInt ≤ x1.toInt := kd_ltF c; clear c
        have s7 : ((i 7299) - x2).toInt = (i 7299).toInt - x2.toInt := kd_sub (oz551 c4) (oz1275 c2 fi_7299.2 kn0)
        first | refine fo_goS mi_k37 fz37_16_5_23 [.int ((i 7299) - x2), .int x1] (by rfl) ?_ | refine ft_go mi_k37 5 23 [(0, .ref 114), (1, .int x1), (2, .int x2)] [.int ((i 7299) - x2), .int x1] i a q r (by rfl) ?_
        refine ft_ifS mi_k37 (decide (((i 7299) - x2) < x1)) 30 26 [] (by rfl) (fun c => ?_) (fun c => ?_)
        ·
          have c8 : ((i 7299) - x2).toInt < x1.toInt := kd_lt c; clear c
          first | refine fo_goS mi_k37 fz37_27_1_31 [.int 0] (by rfl) ?_ | refine fo_goS mi_k37 fz37_30_1_31 [.int 0] (by rfl) ?_ | refine ft_go mi_k37 1 31 [(0, .ref 114), (1, .int x1), (2, .int x2)] [.int 0] i a q r (by rfl) ?_
          exact ft_ret mi_k37 (by rfl) (hP 0 (Or.inr ⟨rfl, (oz1276 c8 s7)⟩))
        ·
          have c9 : x1.toInt ≤ ((i 7299) - x2).toInt := kd_ltF c; clear c
          first | refine fo_goS mi_k37 fz37_26_2_31 [.int 1] (by rfl) ?_ | refine fo_goS mi_k37 fz37_1_2_31 [.int 1] (by rfl) ?_ | refine fo_goS mi_k37 fz37_13_2_31 [.int 1] (by rfl) ?_ | refine ft_goS mi_k37 2 31 [.int 1] (by rfl) ?_ | refine ft_go mi_k37 2 31 [(0, .ref 114), (1, .int x1), (2, .int x2)] [.int 1] i a q r (by rfl) ?_
          exact ft_ret mi_k37 (by rfl) (hP 1 (Or.inl ⟨rfl, (oz1277 c2 c4 c6 c9 s7 kn0)⟩))
end
section
theorem oz1283 {a0 a1 : Int} (h0 : a0 ≤ 50) (h1 : a1 < a0) : a1 < 50 := by omega
theorem oz1284 {a0 a1 : Int} (h0 : a0 ≤ 120) (h1 : (2 * a1) ≤ a0) : a1 < 61 := by omega
theorem oz1285 {a0 a1 a2 : Int} (h0 : a0 = a1) (h1 : a2 ≤ 120) (h2 : (2 * a1) ≤ a2) : a0 < 61 := by omega
theorem oz1286 {a0 : Int} (h0 : a0 = 63) : (0 : Int) ≤ a0 := by omega
theorem oz1287 {a0 a1 a2 a3 : Int} (h0 : a0 = a1) (h1 : a2 = a0) (h2 : a3 ≤ 120) (h3 : (2 * a1) ≤ a3) : a2 < 61 := by omega
theorem oz1288 {a0 a1 : Int} (h0 : a0 ≤ 61) (h1 : a1 = 1) : a0 + a1 ≤ 2147483647 := by omega
theorem oz1293 {a0 : Int} (h0 : a0 ≤ 200) : a0 ≤ 200 := by omega
theorem oz1294 {a0 a1 a2 a3 a4 a5 : Int} (h0 : a0 = a1) (h1 : a2 = a0) (h2 : a3 ≤ 120) (h3 : (2 * a1) ≤ a3) (h4 : a4 = a2 + a5) (h5 : a5 = 1) : a4 ≤ 61 := by omega
theorem oz1297 {a0 : Int} (h0 : a0 = 0) : a0 ≤ 120 := by omega
theorem oz1298 {a0 : Int} (h0 : a0 = 0) : a0 ≤ 200 := by omega
theorem oz1299 {a0 : Int} (h0 : a0 = 0) : a0 ≤ 61 := by omega
theorem oz1300 {a0 a1 : Int} (h0 : (0 : Int) ≤ a0) (h1 : a1 = 0) : (a1 = 0) ∧ (a1 ≤ a1) ∧ (a1 ≤ a0) := by omega
theorem oz1301 {a0 : Int} (h0 : a0 = 0) : (2 * a0) ≤ a0 := by omega
theorem oz1302 {a0 a1 : Int} (h0 : a0 ≤ 120) (h1 : a1 = (-100)) : (-2147483648 : Int) ≤ a1 - a0 := by omega
theorem oz1304 {a0 : Int} (h0 : a0 = 59) : (0 : Int) ≤ a0 := by omega
theorem oz1318 {a0 a1 a2 : Int} (h0 : a0 ≤ a1) (h1 : a0 = a2) : a2 ≤ a1 := by omega
theorem oz1319 {a0 a1 a2 a3 : Int} (h0 : a0 ≤ a1) (h1 : a2 = a3) (h2 : a0 = a2) : a3 ≤ a1 := by omega
theorem oz1320 {a0 a1 a2 a3 : Int} (h0 : a0 < a1) (h1 : (0 : Int) ≤ a0) (h2 : a2 = a0 + a3) (h3 : a3 = 1) : ((0 : Int) ≤ a2) ∧ (a2 ≤ a1) := by omega
theorem oz1321 {a0 a1 : Int} (h0 : (0 : Int) ≤ a0) (h1 : a1 = 0) : ((0 : Int) ≤ a1) ∧ (a1 ≤ a0) := by omega
theorem oz1322 {a0 a1 : Int} (h0 : a0 < a1) (h1 : a1 ≤ 60) : a0 < 61 := by omega
theorem oz1324 {a0 a1 : Int} (h0 : (0 : Int) ≤ a0) (h1 : a1 = (-100)) : a1 - a0 ≤ 2147483647 := by omega
theorem oz1327 {a0 a1 a2 a3 a4 a5 a6 a7 : Int} (h0 : a0 ≠ a1) (h1 : a2 = a3) (h2 : a4 ≤ 120) (h3 : (0 : Int) ≤ a0) (h4 : a0 ≤ 1) (h5 : ((a0 = 1) → ((a5 = 0) ∧ (a6 ≤ a4) ∧ (a4 ≤ a7) ∧ ((2 * a3) ≤ (a4 + 1))))) (h6 : a1 = 0) : a2 ≤ 60 := by omega
theorem oz1328 {a0 : Int} (h0 : a0 = 0) : a0 ≤ 1 := by omega
theorem oz1329 {a0 : Int} (h0 : (0 : Int) ≤ a0) : (a0 = (-1)) ∨ ((0 : Int) ≤ a0) := by omega
theorem oz1330 {a0 : Int} (h0 : a0 = (-1)) : (a0 = (-1)) ∨ ((0 : Int) ≤ a0) := by omega
theorem oz1331 {a0 : Int} (h0 : a0 = 0) : a0 ≤ 1000 := by omega
theorem oz1332 {a0 a1 a2 : Int} (h0 : a0 ≤ a1) (h1 : a0 = 24) (h2 : a2 = 1) : (-2147483648 : Int) ≤ a1 + a2 := by omega
theorem oz1333 {a0 a1 a2 a3 : Int} (h0 : a0 ≤ a1) (h1 : a2 = a1 + a3) (h2 : a0 = 24) (h3 : a3 = 1) : (0 : Int) ≤ a2 := by omega
theorem oz1334 {a0 a1 a2 : Int} (h0 : (a0 + 1) ≤ 900) (h1 : a1 = a0 + a2) (h2 : a2 = 1) : a1 ≤ 1000 := by omega
theorem oz1335 {a0 a1 : Int} (h0 : (a0 + 1) ≤ 39) (h1 : a1 = 1) : a0 + a1 ≤ 2147483647 := by omega
theorem oz1336 {a0 : Int} (h0 : a0 ≤ 49) : a0 < 50 := by omega
theorem oz1337 {a0 : Int} (h0 : a0 = 0) (h1 : (0 : Int) ≤ a0) : a0 = 0 := by omega
theorem oz1338 {a0 : Int}  : a0 = (a0 + 0) := by omega
theorem oz1339 {a0 : Int} (h0 : (0 : Int) ≤ a0) (h1 : a0 ≤ 49) : ((0 : Int) ≤ a0) ∧ (a0 ≤ 49) := by omega
theorem oz1340 {a0 a1 a2 : Int} (h0 : (0 : Int) ≤ a0) (h1 : (a0 + 1) ≤ 39) (h2 : a1 = a0 + a2) (h3 : a2 = 1) : ((0 : Int) ≤ a1) ∧ ((a1 + 0) ≤ 39) := by omega
theorem oz1341 {a0 a1 a2 a3 : Int} (h0 : a0 ≤ a1) (h1 : (a1 + 1) ≤ 900) (h2 : a2 = a1 + a3) (h3 : a0 = 24) (h4 : a3 = 1) : ((0 : Int) ≤ a2) ∧ ((a2 + 0) ≤ 900) := by omega
theorem oz1342 {a0 a1 a2 a3 : Int} (h0 : a0 = a1) (h1 : a1 = a2 + a3) (h2 : a3 = 1) : a0 = (a2 + 1) := by omega
theorem oz1343 {a0 a1 : Int} (h0 : a0 < a1) (h1 : a1 = 24) : a0 < 24 := by omega
theorem oz1344 {a0 a1 : Int} (h0 : a0 = 0) (h1 : (0 : Int) ≤ a1) (h2 : a1 = a0) : a1 = 0 := by omega
theorem oz1345 {a0 a1 a2 : Int} (h0 : (0 : Int) ≤ a0) (h1 : (a0 + 1) ≤ 900) (h2 : a1 = a0 + a2) (h3 : a2 = 1) : ((0 : Int) ≤ a1) ∧ ((a1 + 0) ≤ 900) := by omega
theorem oz1346 {a0 a1 : Int} (h0 : a0 ≤ a1) (h1 : (a1 + 1) ≤ 39) (h2 : a0 = 40) : False := by omega
theorem oz1347 {a0 a1 : Int} (h0 : a0 ≤ 50) (h1 : (0 : Int) ≤ a1) (h2 : a1 < a0) : ((0 : Int) ≤ a1) ∧ (a1 ≤ 49) := by omega
theorem oz1348 {a0 : Int} (h0 : (0 : Int) ≤ a0) (h1 : a0 = 0) : a0 = 0 := by omega
theorem oz1349 {a0 : Int} (h0 : a0 = 0) : ((0 : Int) ≤ a0) ∧ ((a0 + 1) ≤ 39) := by omega
theorem oz1350 {a0 : Int} (h0 : a0 = 0) : ((0 : Int) ≤ a0) ∧ ((a0 + 1) ≤ 900) := by omega
theorem oz1351 {a0 a1 a2 : Int} (h0 : (a0 + 2) ≤ 900) (h1 : a1 = a0 + a2) (h2 : a2 = 1) : a1 ≤ 1000 := by omega
theorem oz1352 {a0 a1 : Int} (h0 : (a0 + 2) ≤ 39) (h1 : a1 = 1) : a0 + a1 ≤ 2147483647 := by omega
theorem oz1353 {a0 : Int} (h0 : (0 : Int) ≤ a0) (h1 : (a0 + 1) ≤ 39) : ((0 : Int) ≤ a0) ∧ ((a0 + 1) ≤ 39) := by omega
theorem oz1354 {a0 : Int} (h0 : (0 : Int) ≤ a0) (h1 : (a0 + 1) ≤ 900) : ((0 : Int) ≤ a0) ∧ ((a0 + 1) ≤ 900) := by omega
theorem oz1355 {a0 a1 : Int} (h0 : a0 = (a1 + 1)) : a0 = (a1 + 1) := by omega
theorem oz1356 {a0 a1 a2 : Int} (h0 : (0 : Int) ≤ a0) (h1 : (a0 + 2) ≤ 39) (h2 : a1 = a0 + a2) (h3 : a2 = 1) : ((0 : Int) ≤ a1) ∧ ((a1 + 1) ≤ 39) := by omega
theorem oz1357 {a0 a1 a2 a3 : Int} (h0 : a0 ≤ a1) (h1 : (a1 + 2) ≤ 900) (h2 : a2 = a1 + a3) (h3 : a0 = 24) (h4 : a3 = 1) : ((0 : Int) ≤ a2) ∧ ((a2 + 1) ≤ 900) := by omega
theorem oz1358 {a0 a1 a2 a3 : Int} (h0 : a0 = a1 + a2) (h1 : a3 = (a0 + 1)) (h2 : a2 = 1) : a3 = (a1 + 2) := by omega
theorem oz1359 {a0 a1 a2 : Int} (h0 : (0 : Int) ≤ a0) (h1 : (a0 + 2) ≤ 900) (h2 : a1 = a0 + a2) (h3 : a2 = 1) : ((0 : Int) ≤ a1) ∧ ((a1 + 1) ≤ 900) := by omega
theorem oz1360 {a0 a1 : Int} (h0 : a0 ≤ a1) (h1 : (a1 + 2) ≤ 39) (h2 : a0 = 40) : False := by omega
theorem oz1361 {a0 : Int} (h0 : a0 = 0) : ((0 : Int) ≤ a0) ∧ ((a0 + 2) ≤ 39) := by omega
theorem oz1362 {a0 : Int} (h0 : a0 = 0) : ((0 : Int) ≤ a0) ∧ ((a0 + 2) ≤ 900) := by omega
theorem oz1365 {a0 a1 a2 : Int} (h0 : (a0 + 4) ≤ 900) (h1 : a1 = a0 + a2) (h2 : a2 = 1) : a1 ≤ 1000 := by omega
theorem oz1366 {a0 a1 : Int} (h0 : (a0 + 3) ≤ 39) (h1 : a1 = 1) : a0 + a1 ≤ 2147483647 := by omega
theorem oz1367 {a0 : Int} (h0 : (0 : Int) ≤ a0) (h1 : (a0 + 2) ≤ 39) : ((0 : Int) ≤ a0) ∧ ((a0 + 2) ≤ 39) := by omega
theorem oz1368 {a0 : Int} (h0 : (0 : Int) ≤ a0) (h1 : (a0 + 3) ≤ 900) : ((0 : Int) ≤ a0) ∧ ((a0 + 2) ≤ 900) := by omega
theorem oz1369 {a0 : Int} (h0 : (0 : Int) ≤ a0) (h1 : (a0 + 2) ≤ 39) : ((0 : Int) ≤ a0) ∧ ((a0 + 1) ≤ 39) := by omega
theorem oz1370 {a0 a1 : Int} (h0 : (0 : Int) ≤ a0) (h1 : (a1 + 3) ≤ 900) (h2 : a0 = (a1 + 2)) : ((0 : Int) ≤ a0) ∧ ((a0 + 1) ≤ 900) := by omega
theorem oz1371 {a0 a1 a2 : Int} (h0 : a0 = (a1 + 2)) (h1 : a2 = (a0 + 1)) : a2 = (a1 + 3) := by omega
theorem oz1372 {a0 a1 a2 : Int} (h0 : (0 : Int) ≤ a0) (h1 : (a0 + 3) ≤ 39) (h2 : a1 = a0 + a2) (h3 : a2 = 1) : ((0 : Int) ≤ a1) ∧ ((a1 + 2) ≤ 39) := by omega
theorem oz1373 {a0 a1 a2 a3 : Int} (h0 : a0 ≤ a1) (h1 : (a1 + 4) ≤ 900) (h2 : a2 = a1 + a3) (h3 : a0 = 24) (h4 : a3 = 1) : ((0 : Int) ≤ a2) ∧ ((a2 + 3) ≤ 900) := by omega
theorem oz1374 {a0 a1 a2 a3 : Int} (h0 : a0 = a1 + a2) (h1 : a3 = (a0 + 3)) (h2 : a2 = 1) : a3 = (a1 + 4) := by omega
theorem oz1375 {a0 a1 a2 : Int} (h0 : (0 : Int) ≤ a0) (h1 : (a0 + 4) ≤ 900) (h2 : a1 = a0 + a2) (h3 : a2 = 1) : ((0 : Int) ≤ a1) ∧ ((a1 + 3) ≤ 900) := by omega
theorem oz1376 {a0 a1 : Int} (h0 : a0 ≤ a1) (h1 : (a1 + 3) ≤ 39) (h2 : a0 = 40) : False := by omega
theorem oz1377 {a0 : Int} (h0 : a0 = 0) : ((0 : Int) ≤ a0) ∧ ((a0 + 3) ≤ 39) := by omega
theorem oz1378 {a0 : Int} (h0 : a0 = 0) : ((0 : Int) ≤ a0) ∧ ((a0 + 4) ≤ 900) := by omega
theorem oz1379 {a0 a1 a2 : Int} (h0 : a0 ≤ a1) (h1 : a1 < a2) (h2 : ¬ (a1 = 1)) (h3 : ¬ (a1 = 2)) (h4 : ¬ (a1 = 3)) (h5 : ¬ (a1 = 0)) (h6 : a0 = 0) (h7 : a2 = 4) : False := by omega
theorem oz1381 {a0 : Int} (h0 : a0 = 1) : a0 = 1 := by omega
theorem oz1382 {a0 : Int} (h0 : a0 = 1) : a0 < 8 := by omega
theorem oz1383 {a0 a1 : Int} (h0 : a0 = 1) (h1 : a1 = a0) : a1 = 1 := by omega
theorem oz1385 {a0 a1 a2 : Int} (h0 : (a0 + 3) ≤ 900) (h1 : a1 = a0 + a2) (h2 : a2 = 1) : a1 ≤ 1000 := by omega
theorem oz1386 {a0 : Int} (h0 : (0 : Int) ≤ a0) (h1 : (a0 + 2) ≤ 900) : ((0 : Int) ≤ a0) ∧ ((a0 + 2) ≤ 900) := by omega
theorem oz1387 {a0 a1 : Int} (h0 : a0 = (a1 + 2)) : a0 = (a1 + 2) := by omega
theorem oz1388 {a0 a1 a2 a3 : Int} (h0 : a0 ≤ a1) (h1 : (a1 + 3) ≤ 900) (h2 : a2 = a1 + a3) (h3 : a0 = 24) (h4 : a3 = 1) : ((0 : Int) ≤ a2) ∧ ((a2 + 2) ≤ 900) := by omega
theorem oz1389 {a0 a1 a2 a3 : Int} (h0 : a0 = a1 + a2) (h1 : a3 = (a0 + 2)) (h2 : a2 = 1) : a3 = (a1 + 3) := by omega
theorem oz1390 {a0 a1 a2 : Int} (h0 : (0 : Int) ≤ a0) (h1 : (a0 + 3) ≤ 900) (h2 : a1 = a0 + a2) (h3 : a2 = 1) : ((0 : Int) ≤ a1) ∧ ((a1 + 2) ≤ 900) := by omega
theorem oz1391 {a0 : Int} (h0 : a0 = 0) : ((0 : Int) ≤ a0) ∧ ((a0 + 3) ≤ 900) := by omega
theorem oz1394 {a0 a1 a2 : Int} (h0 : (a0 + 5) ≤ 900) (h1 : a1 = a0 + a2) (h2 : a2 = 1) : a1 ≤ 1000 := by omega
theorem oz1395 {a0 a1 : Int} (h0 : (a0 + 4) ≤ 39) (h1 : a1 = 1) : a0 + a1 ≤ 2147483647 := by omega
theorem oz1396 {a0 : Int} (h0 : (0 : Int) ≤ a0) (h1 : (a0 + 3) ≤ 39) : ((0 : Int) ≤ a0) ∧ ((a0 + 3) ≤ 39) := by omega
theorem oz1397 {a0 : Int} (h0 : (0 : Int) ≤ a0) (h1 : (a0 + 4) ≤ 900) : ((0 : Int) ≤ a0) ∧ ((a0 + 3) ≤ 900) := by omega
theorem oz1398 {a0 : Int} (h0 : (0 : Int) ≤ a0) (h1 : (a0 + 3) ≤ 39) : ((0 : Int) ≤ a0) ∧ ((a0 + 1) ≤ 39) := by omega
theorem oz1399 {a0 a1 : Int} (h0 : (0 : Int) ≤ a0) (h1 : (a1 + 4) ≤ 900) (h2 : a0 = (a1 + 3)) : ((0 : Int) ≤ a0) ∧ ((a0 + 1) ≤ 900) := by omega
theorem oz1400 {a0 a1 a2 : Int} (h0 : a0 = (a1 + 3)) (h1 : a2 = (a0 + 1)) : a2 = (a1 + 4) := by omega
theorem oz1401 {a0 a1 a2 : Int} (h0 : (0 : Int) ≤ a0) (h1 : (a0 + 4) ≤ 39) (h2 : a1 = a0 + a2) (h3 : a2 = 1) : ((0 : Int) ≤ a1) ∧ ((a1 + 3) ≤ 39) := by omega
theorem oz1402 {a0 a1 a2 a3 : Int} (h0 : a0 ≤ a1) (h1 : (a1 + 5) ≤ 900) (h2 : a2 = a1 + a3) (h3 : a0 = 24) (h4 : a3 = 1) : ((0 : Int) ≤ a2) ∧ ((a2 + 4) ≤ 900) := by omega
theorem oz1403 {a0 a1 a2 a3 : Int} (h0 : a0 = a1 + a2) (h1 : a3 = (a0 + 4)) (h2 : a2 = 1) : a3 = (a1 + 5) := by omega
theorem oz1404 {a0 a1 a2 : Int} (h0 : (0 : Int) ≤ a0) (h1 : (a0 + 5) ≤ 900) (h2 : a1 = a0 + a2) (h3 : a2 = 1) : ((0 : Int) ≤ a1) ∧ ((a1 + 4) ≤ 900) := by omega
theorem oz1405 {a0 a1 : Int} (h0 : a0 ≤ a1) (h1 : (a1 + 4) ≤ 39) (h2 : a0 = 40) : False := by omega
theorem oz1406 {a0 : Int} (h0 : a0 = 0) : ((0 : Int) ≤ a0) ∧ ((a0 + 4) ≤ 39) := by omega
theorem oz1407 {a0 : Int} (h0 : a0 = 0) : ((0 : Int) ≤ a0) ∧ ((a0 + 5) ≤ 900) := by omega
theorem oz1408 {a0 a1 a2 : Int} (h0 : a0 ≤ a1) (h1 : a1 < a2) (h2 : ¬ (a1 = 0)) (h3 : ¬ (a1 = 1)) (h4 : ¬ (a1 = 2)) (h5 : ¬ (a1 = 3)) (h6 : a0 = 0) (h7 : a2 = 4) : False := by omega
theorem oz1410 {a0 : Int} (h0 : a0 = 2) : a0 < 8 := by omega
theorem oz1411 {a0 : Int} (h0 : a0 = 2) : a0 = 2 := by omega
theorem oz1412 {a0 a1 : Int} (h0 : a0 = 2) (h1 : a1 = a0) : a1 = 2 := by omega
set_option maxRecDepth 100000 in
theorem kc10 {i : Nat → Int32} {a : Nat → List Int32} {q : Nat → List Int64} {r : Nat → Nat} (hI : kI i a q) (hr : kr r) (x1 : Int32) (x2 : Int32) : km 1 10 [.int x1, .int x2] (ks i a q r) (kPI (ks i a q r) (fun v => (v = 1 ∧ (True)) ∨ (v = 0 ∧ (True)))) := by
  have hG := kG_self kW0 hI hr
  refine km_ofPI (q := (mi_h10, mi_c10)) rfl (by decide) (Nat.le_of_ble_eq_true rfl) ?_
  intro P hP
  first | refine ft_goL mi_k10 4 4 [(3, .int 0), (2, .int x1), (0, .int x1), (1, .int x2)] [] (by rfl) ?_ | refine ft_go mi_k10 4 4 [(3, .int 0), (2, .int x1), (0, .int x1), (1, .int x2)] [] i a q r (by rfl) ?_
  have lp1 : ∀ (nz : Nat) (l3_1 : Int32) (l2_1 : Int32), (0 : Int) ≤ l3_1.toInt → ((8 - l3_1.toInt)).toNat < nz → ko 1 (mi_h10, mi_c10) P (4, [(3, .int l3_1), (2, .int l2_1), (0, .int x1), (1, .int x2)], [], (0, 0), ks i a q r) := by
    intro nz
    induction nz with
    | zero =>
      intro _ _ _ hm
      exact absurd hm (Nat.not_lt_zero _)
    | succ nz ih1 =>
      intro l3_1 l2_1 p1_0 hm1
      first | refine ft_goL mi_k10 2 7 [(3, .int l3_1), (2, .int l2_1), (0, .int x1), (1, .int x2)] [.int 8, .int l3_1] (by rfl) ?_ | refine ft_go mi_k10 2 7 [(3, .int l3_1), (2, .int l2_1), (0, .int x1), (1, .int x2)] [.int 8, .int l3_1] i a q r (by rfl) ?_
      refine ft_ifS mi_k10 (decide (8 ≤ l3_1)) 39 10 [] (by rfl) (fun c => ?_) (fun c => ?_)
      ·
        have c2 : (8 : Int32).toInt ≤ l3_1.toInt := kd_le c; clear c
        first | refine ft_goS mi_k10 1 40 [.int 0] (by rfl) ?_ | refine ft_go mi_k10 1 40 [(3, .int l3_1), (2, .int l2_1), (0, .int x1), (1, .int x2)] [.int 0] i a q r (by rfl) ?_
        exact ft_ret mi_k10 (by rfl) (hP 0 (Or.inr ⟨rfl, trivial⟩))
      ·
        have c3 : l3_1.toInt < (8 : Int32).toInt := kd_leF c; clear c
        first | refine ft_goS mi_k10 1 11 [.int l2_1] (by rfl) ?_ | refine ft_go mi_k10 1 11 [(3, .int l3_1), (2, .int l2_1), (0, .int x1), (1, .int x2)] [.int l2_1] i a q r (by rfl) ?_
        refine ft_ifS mi_k10 (decide (l2_1 < 0)) 39 14 [] (by rfl) (fun c => ?_) (fun c => ?_)
        ·
          have c4 : l2_1.toInt < (0 : Int32).toInt := kd_lt c; clear c
          first | refine ft_goS mi_k10 1 40 [.int 0] (by rfl) ?_ | refine ft_go mi_k10 1 40 [(3, .int l3_1), (2, .int l2_1), (0, .int x1), (1, .int x2)] [.int 0] i a q r (by rfl) ?_
          exact ft_ret mi_k10 (by rfl) (hP 0 (Or.inr ⟨rfl, trivial⟩))
        ·
          have c5 : (0 : Int32).toInt ≤ l2_1.toInt := kd_ltF c; clear c
          first | refine ft_goS mi_k10 2 17 [.int 8, .int l2_1] (by rfl) ?_ | refine ft_go mi_k10 2 17 [(3, .int l3_1), (2, .int l2_1), (0, .int x1), (1, .int x2)] [.int 8, .int l2_1] i a q r (by rfl) ?_
          refine ft_ifS mi_k10 (decide (8 ≤ l2_1)) 39 20 [] (by rfl) (fun c => ?_) (fun c => ?_)
          ·
            have c6 : (8 : Int32).toInt ≤ l2_1.toInt := kd_le c; clear c
            first | refine ft_goS mi_k10 1 40 [.int 0] (by rfl) ?_ | refine ft_go mi_k10 1 40 [(3, .int l3_1), (2, .int l2_1), (0, .int x1), (1, .int x2)] [.int 0] i a q r (by rfl) ?_
            exact ft_ret mi_k10 (by rfl) (hP 0 (Or.inr ⟨rfl, trivial⟩))
          ·
            have c7 : l2_1.toInt < (8 : Int32).toInt := kd_leF c; clear c
            first | refine ft_goS mi_k10 2 22 [.int x2, .int l2_1] (by rfl) ?_ | refine ft_go mi_k10 2 22 [(3, .int l3_1), (2, .int l2_1), (0, .int x1), (1, .int x2)] [.int x2, .int l2_1] i a q r (by rfl) ?_
            refine ft_ifS mi_k10 (l2_1 != x2) 27 25 [] (by rfl) (fun c => ?_) (fun c => ?_)
            ·
              have c8 : l2_1.toInt ≠ x2.toInt := kd_ne c; clear c
              first | refine ft_goS mi_k10 2 31 [.int l2_1, .ref (mi_RO + 4)] (by rfl) ?_ | refine ft_go mi_k10 2 31 [(3, .int l3_1), (2, .int l2_1), (0, .int x1), (1, .int x2)] [.int l2_1, .ref (mi_RO + 4)] i a q r (by rfl) ?_
              refine ko_iaro2 mi_k10.1 (l := [(-1), 0, 0, 2, 1, 3, 0, 4]) (n := 8) (c := 8) (ax := (0, 0, 0, 0, 0)) (mi_k10.2 _ _ (by rfl)) (by rfl) (by rfl) rfl rfl (oz389 c5 kn0) (oz936 c7 kn8) ?_
              have r9 : ((-1 : Int) ≤ (([(-1), 0, 0, 2, 1, 3, 0, 4] : List Int32).getD l2_1.toNatClampNeg 0).toInt) ∧ ((([(-1), 0, 0, 2, 1, 3, 0, 4] : List Int32).getD l2_1.toNatClampNeg 0).toInt ≤ 4) := kro_rng (lo := -1) (hi := 4) (by decide) (l2_1.toNatClampNeg)
              have s10 : (l3_1 + 1).toInt = l3_1.toInt + (1 : Int32).toInt := kd_add (oz12 p1_0 kn1) (oz474 c3 kn8 kn1)
              first | refine ft_goL mi_k10 3 4 [(3, .int (l3_1 + 1)), (2, .int (([(-1), 0, 0, 2, 1, 3, 0, 4] : List Int32).getD l2_1.toNatClampNeg 0)), (0, .int x1), (1, .int x2)] [] (by rfl) ?_ | refine ft_go mi_k10 3 4 [(3, .int (l3_1 + 1)), (2, .int (([(-1), 0, 0, 2, 1, 3, 0, 4] : List Int32).getD l2_1.toNatClampNeg 0)), (0, .int x1), (1, .int x2)] [] i a q r (by rfl) ?_
              exact ih1 _ _ (oz14 p1_0 s10 kn1) (kj_meas (oz475 s10 kn1) (oz476 c3 kn8) hm1)
            ·
              have c11 : l2_1.toInt = x2.toInt := kd_neF c; clear c
              first | refine ft_goS mi_k10 1 26 [.int 1] (by rfl) ?_ | refine ft_go mi_k10 1 26 [(3, .int l3_1), (2, .int l2_1), (0, .int x1), (1, .int x2)] [.int 1] i a q r (by rfl) ?_
              exact ft_ret mi_k10 (by rfl) (hP 1 (Or.inl ⟨rfl, trivial⟩))
  exact lp1 _ _ _ (oz46 kn0) (Nat.lt_succ_self _)
set_option maxRecDepth 100000 in
theorem kc118_0 {i : Nat → Int32} {a : Nat → List Int32} {q : Nat → List Int64} {r : Nat → Nat} (hI : kI i a q) (hr : kr r) (x1 : Int32) (x2 : Int32) : km 5 118 [.ref 0, .int x1, .int x2] (ks i a q r) (kPI (ks i a q r) (fun v => True)) := by
  have hG := kG_self kW0 hI hr
  refine km_ofPI (q := (mi_h118, mi_c118)) rfl (by decide) (Nat.le_of_ble_eq_true rfl) ?_
  intro P hP
  first | refine ft_goL mi_k118 1 1 [(0, .ref 0), (1, .int x1), (2, .int x2)] [.int x1] (by rfl) ?_ | refine ft_go mi_k118 1 1 [(0, .ref 0), (1, .int x1), (2, .int x2)] [.int x1] i a q r (by rfl) ?_ | refine ko_steps mi_in118 1 _ (1, [(0, .ref 0), (1, .int x1), (2, .int x2)], [.int x1], (0, 0), ks i a q r) (by rfl) ?_
  refine ko_callPI mi_k118.1 (pc := 1) (ls := [(0, .ref 0), (1, .int x1), (2, .int x2)]) (st := [.int x1]) (h := ks i a q r) (i := (.invokestatic 70, 3, 121, 0, 9, 0, 157)) (mi_k118.2 _ _ (by rfl)) (ft_invS mi_pq121 (by rfl)) (cy := mi_c121) mi_pq121 rfl (kc121 hG.I hG.R x1) (by decide) ?_
  intro vg1 hg1
  rcases hg1 with ⟨eg1, hg1⟩ | ⟨eg1, hg1⟩
  ·
    subst eg1
    have z2 : ((0 : Int) ≤ x1.toInt) ∧ (x1.toInt ≤ 5) := hg1
    first | refine ft_goS mi_k118 4 11 [.int 7, .int 0, .int x2] (by rfl) ?_ | refine ft_go mi_k118 4 11 [(0, .ref 0), (1, .int x1), (2, .int x2)] [.int 7, .int 0, .int x2] i a q r (by rfl) ?_ | refine ko_steps mi_in118 4 _ (11, [(0, .ref 0), (1, .int x1), (2, .int x2)], [.int 7, .int 0, .int x2], (0, 0), ks i a q r) (by rfl) ?_
    refine ko_callPI mi_k118.1 (pc := 11) (ls := [(0, .ref 0), (1, .int x1), (2, .int x2)]) (st := [.int 7, .int 0, .int x2]) (h := ks i a q r) (i := (.invokestatic 74, 3, 120, 0, 9, 0, 152)) (mi_k118.2 _ _ (by rfl)) (ft_invS mi_pq120 (by rfl)) (cy := mi_c120) mi_pq120 rfl (kc120 hG.I hG.R x2 0 7) (by decide) ?_
    intro vg3 hg3
    rcases hg3 with ⟨eg3, hg3⟩ | ⟨eg3, hg3⟩
    ·
      subst eg3
      first | refine ft_goS mi_k118 4 24 [.int x1, .ref 97] (by rfl) ?_ | refine ft_go mi_k118 4 24 [(0, .ref 0), (1, .int x1), (2, .int x2)] [.int x1, .ref 97] i a q r (by rfl) ?_ | refine ko_steps mi_in118 4 _ (24, [(0, .ref 0), (1, .int x1), (2, .int x2)], [.int x1, .ref 97], (0, 0), ks i a q r) (by rfl) ?_
      by_cases w5 : x1.toInt = 0
      ·
        refine ko_eq (x1 := (24, [(0, .ref 0), (1, .int x1), (2, .int x2)], [.int 0, .ref 97], (0, 0), ks i a q r)) (by rw [(kj_eq w5 (by decide) : x1 = 0)]) ?_
        first | refine ft_goL mi_k118 4 30 [(3, .ref 104), (0, .ref 0), (1, .int x1), (2, .int x2)] [.int (i 6656)] (by rfl) ?_ | refine ft_go mi_k118 4 30 [(3, .ref 104), (0, .ref 0), (1, .int x1), (2, .int x2)] [.int (i 6656)] i a q r (by rfl) ?_ | refine ko_steps mi_in118 4 _ (30, [(3, .ref 104), (0, .ref 0), (1, .int x1), (2, .int x2)], [.int (i 6656)], (0, 0), ks i a q r) (by rfl) ?_
        refine ft_ifS mi_k118 ((i 6656) != 0) 36 33 [] (by rfl) (fun c => ?_) (fun c => ?_)
        ·
          have c6 : (i 6656).toInt ≠ (0 : Int32).toInt := kd_ne c; clear c
          first | refine fo_goS mi_k118 fz118_36_3_41 [.int 1, .int (i 6656)] (by rfl) ?_ | refine ft_go mi_k118 3 41 [(3, .ref 104), (0, .ref 0), (1, .int x1), (2, .int x2)] [.int 1, .int (i 6656)] i a q r (by rfl) ?_ | refine ko_steps mi_in118 3 _ (41, [(3, .ref 104), (0, .ref 0), (1, .int x1), (2, .int x2)], [.int 1, .int (i 6656)], (0, 0), ks i a q r) (by rfl) ?_
          refine ft_ifS mi_k118 ((i 6656) != 1) 58 44 [] (by rfl) (fun c => ?_) (fun c => ?_)
          ·
            have c7 : (i 6656).toInt ≠ (1 : Int32).toInt := kd_ne c; clear c
            first | refine fo_goS mi_k118 fz118_58_1_60 [.int (-12)] (by rfl) ?_ | refine ft_go mi_k118 1 60 [(3, .ref 104), (0, .ref 0), (1, .int x1), (2, .int x2)] [.int (-12)] i a q r (by rfl) ?_ | refine ko_steps mi_in118 1 _ (60, [(3, .ref 104), (0, .ref 0), (1, .int x1), (2, .int x2)], [.int (-12)], (0, 0), ks i a q r) (by rfl) ?_
            exact ft_ret mi_k118 (by rfl) (hP (-12) trivial)
          ·
            have c8 : (i 6656).toInt = (1 : Int32).toInt := kd_neF c; clear c
            first | refine fo_goS mi_k118 fz118_44_4_52 [.int (i 6657), .ref 94] (by rfl) ?_ | refine ft_go mi_k118 4 52 [(3, .ref 104), (0, .ref 0), (1, .int x1), (2, .int x2)] [.int (i 6657), .ref 94] i a q r (by rfl) ?_ | refine ko_steps mi_in118 4 _ (52, [(3, .ref 104), (0, .ref 0), (1, .int x1), (2, .int x2)], [.int (i 6657), .ref 94], (0, 0), ks i a q r) (by rfl) ?_
            refine ko_callPI mi_k118.1 (pc := 52) (ls := [(3, .ref 104), (0, .ref 0), (1, .int x1), (2, .int x2)]) (st := [.int (i 6657), .ref 94]) (h := ks i a q r) (i := (.invokevirtual 301, 3, 8, 0, 9, 0, 304)) (mi_k118.2 _ _ (by rfl)) (ft_invS mi_pq8 (by rfl)) (cy := mi_c8) mi_pq8 rfl (kc8_94 hG.I hG.R (i 6657)) (by decide) ?_
            intro vg9 hg9
            rcases hg9 with ⟨eg9, hg9⟩ | ⟨eg9, hg9⟩
            ·
              subst eg9
              have fi_6017 : ((0 : Int) ≤ (i 6017).toInt) ∧ ((i 6017).toInt ≤ 50) := hG.I.1 6017
              have z10 : ((0 : Int) ≤ (i 6657).toInt) ∧ ((i 6657).toInt < (i 6017).toInt) := hg9
              first | refine fo_goS mi_k118 fz118_55_6_72 [.int (i 6657), .ref 95] (by rfl) ?_ | refine ft_go mi_k118 6 72 [(3, .ref 104), (0, .ref 0), (1, .int x1), (2, .int x2)] [.int (i 6657), .ref 95] i a q r (by rfl) ?_ | refine ko_steps mi_in118 6 _ (72, [(3, .ref 104), (0, .ref 0), (1, .int x1), (2, .int x2)], [.int (i 6657), .ref 95], (0, 0), ks i a q r) (by rfl) ?_
              refine ko_iald3 mi_k118.1 (n := 50) (c := 50) (ax := (0, 0, 0, 0, 0)) (mi_k118.2 _ _ (by rfl)) (by rfl) (ksG95 _ _ _ _) (hG.I.2.1 95) rfl (oz3 z10.1) (oz1283 fi_6017.2 z10.2) ?_
              have r11 : ((0 : Int) ≤ ((a 95).getD (i 6657).toNatClampNeg 0).toInt) ∧ (((a 95).getD (i 6657).toNatClampNeg 0).toInt ≤ 7) := hG.I.2.2.1 95 ((i 6657).toNatClampNeg)
              first | refine fo_goL mi_k118 fz118_73_3_78 [(4, .int ((a 95).getD (i 6657).toNatClampNeg 0)), (3, .ref 104), (0, .ref 0), (1, .int x1), (2, .int x2)] [.int x2, .int ((a 95).getD (i 6657).toNatClampNeg 0)] (by rfl) ?_ | refine ft_go mi_k118 3 78 [(4, .int ((a 95).getD (i 6657).toNatClampNeg 0)), (3, .ref 104), (0, .ref 0), (1, .int x1), (2, .int x2)] [.int x2, .int ((a 95).getD (i 6657).toNatClampNeg 0)] i a q r (by rfl) ?_ | refine ko_steps mi_in118 3 _ (78, [(4, .int ((a 95).getD (i 6657).toNatClampNeg 0)), (3, .ref 104), (0, .ref 0), (1, .int x1), (2, .int x2)], [.int x2, .int ((a 95).getD (i 6657).toNatClampNeg 0)], (0, 0), ks i a q r) (by rfl) ?_
              refine ko_callPI mi_k118.1 (pc := 78) (ls := [(4, .int ((a 95).getD (i 6657).toNatClampNeg 0)), (3, .ref 104), (0, .ref 0), (1, .int x1), (2, .int x2)]) (st := [.int x2, .int ((a 95).getD (i 6657).toNatClampNeg 0)]) (h := ks i a q r) (i := (.invokestatic 339, 3, 10, 0, 9, 0, 319)) (mi_k118.2 _ _ (by rfl)) (ft_invS mi_pq10 (by rfl)) (cy := mi_c10) mi_pq10 rfl (kc10 hG.I hG.R ((a 95).getD (i 6657).toNatClampNeg 0) x2) (by decide) ?_
              intro vg12 hg12
              rcases hg12 with ⟨eg12, hg12⟩ | ⟨eg12, hg12⟩
              ·
                subst eg12
                first | refine fo_goS mi_k118 fz118_81_3_91 [.int ((a 95).getD (i 6657).toNatClampNeg 0)] (by rfl) ?_ | refine ft_goS mi_k118 3 91 [.int ((a 95).getD (i 6657).toNatClampNeg 0)] (by rfl) ?_ | refine ft_go mi_k118 3 91 [(4, .int ((a 95).getD (i 6657).toNatClampNeg 0)), (3, .ref 104), (0, .ref 0), (1, .int x1), (2, .int x2)] [.int ((a 95).getD (i 6657).toNatClampNeg 0)] i a q r (by rfl) ?_ | refine ko_steps mi_in118 3 _ (91, [(4, .int ((a 95).getD (i 6657).toNatClampNeg 0)), (3, .ref 104), (0, .ref 0), (1, .int x1), (2, .int x2)], [.int ((a 95).getD (i 6657).toNatClampNeg 0)], (0, 0), ks i a q r) (by rfl) ?_
                exact ft_ret mi_k118 (by rfl) (hP ((a 95).getD (i 6657).toNatClampNeg 0) trivial)
              ·
                subst eg12
                first | refine fo_goS mi_k118 fz118_84_2_91 [.int (-12)] (by rfl) ?_ | refine fo_goS mi_k118 fz118_81_2_91 [.int (-12)] (by rfl) ?_ | refine ft_go mi_k118 2 91 [(4, .int ((a 95).getD (i 6657).toNatClampNeg 0)), (3, .ref 104), (0, .ref 0), (1, .int x1), (2, .int x2)] [.int (-12)] i a q r (by rfl) ?_ | refine ko_steps mi_in118 2 _ (91, [(4, .int ((a 95).getD (i 6657).toNatClampNeg 0)), (3, .ref 104), (0, .ref 0), (1, .int x1), (2, .int x2)], [.int (-12)], (0, 0), ks i a q r) (by rfl) ?_
                exact ft_ret mi_k118 (by rfl) (hP (-12) trivial)
            ·
              subst eg9
              first | refine fo_goS mi_k118 fz118_55_2_60 [.int (-12)] (by rfl) ?_ | refine ft_goS mi_k118 2 60 [.int (-12)] (by rfl) ?_ | refine ft_go mi_k118 2 60 [(3, .ref 104), (0, .ref 0), (1, .int x1), (2, .int x2)] [.int (-12)] i a q r (by rfl) ?_ | refine ko_steps mi_in118 2 _ (60, [(3, .ref 104), (0, .ref 0), (1, .int x1), (2, .int x2)], [.int (-12)], (0, 0), ks i a q r) (by rfl) ?_
              exact ft_ret mi_k118 (by rfl) (hP (-12) trivial)
        ·
          have c14 : (i 6656).toInt = (0 : Int32).toInt := kd_neF c; clear c
          first | refine fo_goS mi_k118 fz118_33_1_35 [.int (-11)] (by rfl) ?_ | refine ft_go mi_k118 1 35 [(3, .ref 104), (0, .ref 0), (1, .int x1), (2, .int x2)] [.int (-11)] i a q r (by rfl) ?_ | refine ko_steps mi_in118 1 _ (35, [(3, .ref 104), (0, .ref 0), (1, .int x1), (2, .int x2)], [.int (-11)], (0, 0), ks i a q r) (by rfl) ?_
          exact ft_ret mi_k118 (by rfl) (hP (-11) trivial)
      by_cases w15 : x1.toInt = 1
      ·
        refine ko_eq (x1 := (24, [(0, .ref 0), (1, .int x1), (2, .int x2)], [.int 1, .ref 97], (0, 0), ks i a q r)) (by rw [(kj_eq w15 (by decide) : x1 = 1)]) ?_
        first | refine ft_goL mi_k118 4 30 [(3, .ref 106), (0, .ref 0), (1, .int x1), (2, .int x2)] [.int (i 6784)] (by rfl) ?_ | refine ft_go mi_k118 4 30 [(3, .ref 106), (0, .ref 0), (1, .int x1), (2, .int x2)] [.int (i 6784)] i a q r (by rfl) ?_ | refine ko_steps mi_in118 4 _ (30, [(3, .ref 106), (0, .ref 0), (1, .int x1), (2, .int x2)], [.int (i 6784)], (0, 0), ks i a q r) (by rfl) ?_
        refine ft_ifS mi_k118 ((i 6784) != 0) 36 33 [] (by rfl) (fun c => ?_) (fun c => ?_)
        ·
          have c16 : (i 6784).toInt ≠ (0 : Int32).toInt := kd_ne c; clear c
          first | refine fo_goS mi_k118 fz118_36_3_41 [.int 1, .int (i 6784)] (by rfl) ?_ | refine ft_go mi_k118 3 41 [(3, .ref 106), (0, .ref 0), (1, .int x1), (2, .int x2)] [.int 1, .int (i 6784)] i a q r (by rfl) ?_ | refine ko_steps mi_in118 3 _ (41, [(3, .ref 106), (0, .ref 0), (1, .int x1), (2, .int x2)], [.int 1, .int (i 6784)], (0, 0), ks i a q r) (by rfl) ?_
          refine ft_ifS mi_k118 ((i 6784) != 1) 58 44 [] (by rfl) (fun c => ?_) (fun c => ?_)
          ·
            have c17 : (i 6784).toInt ≠ (1 : Int32).toInt := kd_ne c; clear c
            first | refine fo_goS mi_k118 fz118_58_1_60 [.int (-12)] (by rfl) ?_ | refine ft_go mi_k118 1 60 [(3, .ref 106), (0, .ref 0), (1, .int x1), (2, .int x2)] [.int (-12)] i a q r (by rfl) ?_ | refine ko_steps mi_in118 1 _ (60, [(3, .ref 106), (0, .ref 0), (1, .int x1), (2, .int x2)], [.int (-12)], (0, 0), ks i a q r) (by rfl) ?_
            exact ft_ret mi_k118 (by rfl) (hP (-12) trivial)
          ·
            have c18 : (i 6784).toInt = (1 : Int32).toInt := kd_neF c; clear c
            first | refine fo_goS mi_k118 fz118_44_4_52 [.int (i 6785), .ref 94] (by rfl) ?_ | refine ft_go mi_k118 4 52 [(3, .ref 106), (0, .ref 0), (1, .int x1), (2, .int x2)] [.int (i 6785), .ref 94] i a q r (by rfl) ?_ | refine ko_steps mi_in118 4 _ (52, [(3, .ref 106), (0, .ref 0), (1, .int x1), (2, .int x2)], [.int (i 6785), .ref 94], (0, 0), ks i a q r) (by rfl) ?_
            refine ko_callPI mi_k118.1 (pc := 52) (ls := [(3, .ref 106), (0, .ref 0), (1, .int x1), (2, .int x2)]) (st := [.int (i 6785), .ref 94]) (h := ks i a q r) (i := (.invokevirtual 301, 3, 8, 0, 9, 0, 304)) (mi_k118.2 _ _ (by rfl)) (ft_invS mi_pq8 (by rfl)) (cy := mi_c8) mi_pq8 rfl (kc8_94 hG.I hG.R (i 6785)) (by decide) ?_
            intro vg19 hg19
            rcases hg19 with ⟨eg19, hg19⟩ | ⟨eg19, hg19⟩
            ·
              subst eg19
              have fi_6017 : ((0 : Int) ≤ (i 6017).toInt) ∧ ((i 6017).toInt ≤ 50) := hG.I.1 6017
              have z20 : ((0 : Int) ≤ (i 6785).toInt) ∧ ((i 6785).toInt < (i 6017).toInt) := hg19
              first | refine fo_goS mi_k118 fz118_55_6_72 [.int (i 6785), .ref 95] (by rfl) ?_ | refine ft_go mi_k118 6 72 [(3, .ref 106), (0, .ref 0), (1, .int x1), (2, .int x2)] [.int (i 6785), .ref 95] i a q r (by rfl) ?_ | refine ko_steps mi_in118 6 _ (72, [(3, .ref 106), (0, .ref 0), (1, .int x1), (2, .int x2)], [.int (i 6785), .ref 95], (0, 0), ks i a q r) (by rfl) ?_
              refine ko_iald3 mi_k118.1 (n := 50) (c := 50) (ax := (0, 0, 0, 0, 0)) (mi_k118.2 _ _ (by rfl)) (by rfl) (ksG95 _ _ _ _) (hG.I.2.1 95) rfl (oz3 z20.1) (oz1283 fi_6017.2 z20.2) ?_
              have r21 : ((0 : Int) ≤ ((a 95).getD (i 6785).toNatClampNeg 0).toInt) ∧ (((a 95).getD (i 6785).toNatClampNeg 0).toInt ≤ 7) := hG.I.2.2.1 95 ((i 6785).toNatClampNeg)
              first | refine fo_goL mi_k118 fz118_73_3_78 [(4, .int ((a 95).getD (i 6785).toNatClampNeg 0)), (3, .ref 106), (0, .ref 0), (1, .int x1), (2, .int x2)] [.int x2, .int ((a 95).getD (i 6785).toNatClampNeg 0)] (by rfl) ?_ | refine ft_go mi_k118 3 78 [(4, .int ((a 95).getD (i 6785).toNatClampNeg 0)), (3, .ref 106), (0, .ref 0), (1, .int x1), (2, .int x2)] [.int x2, .int ((a 95).getD (i 6785).toNatClampNeg 0)] i a q r (by rfl) ?_ | refine ko_steps mi_in118 3 _ (78, [(4, .int ((a 95).getD (i 6785).toNatClampNeg 0)), (3, .ref 106), (0, .ref 0), (1, .int x1), (2, .int x2)], [.int x2, .int ((a 95).getD (i 6785).toNatClampNeg 0)], (0, 0), ks i a q r) (by rfl) ?_
              refine ko_callPI mi_k118.1 (pc := 78) (ls := [(4, .int ((a 95).getD (i 6785).toNatClampNeg 0)), (3, .ref 106), (0, .ref 0), (1, .int x1), (2, .int x2)]) (st := [.int x2, .int ((a 95).getD (i 6785).toNatClampNeg 0)]) (h := ks i a q r) (i := (.invokestatic 339, 3, 10, 0, 9, 0, 319)) (mi_k118.2 _ _ (by rfl)) (ft_invS mi_pq10 (by rfl)) (cy := mi_c10) mi_pq10 rfl (kc10 hG.I hG.R ((a 95).getD (i 6785).toNatClampNeg 0) x2) (by decide) ?_
              intro vg22 hg22
              rcases hg22 with ⟨eg22, hg22⟩ | ⟨eg22, hg22⟩
              ·
                subst eg22
                first | refine fo_goS mi_k118 fz118_81_3_91 [.int ((a 95).getD (i 6785).toNatClampNeg 0)] (by rfl) ?_ | refine ft_goS mi_k118 3 91 [.int ((a 95).getD (i 6785).toNatClampNeg 0)] (by rfl) ?_ | refine ft_go mi_k118 3 91 [(4, .int ((a 95).getD (i 6785).toNatClampNeg 0)), (3, .ref 106), (0, .ref 0), (1, .int x1), (2, .int x2)] [.int ((a 95).getD (i 6785).toNatClampNeg 0)] i a q r (by rfl) ?_ | refine ko_steps mi_in118 3 _ (91, [(4, .int ((a 95).getD (i 6785).toNatClampNeg 0)), (3, .ref 106), (0, .ref 0), (1, .int x1), (2, .int x2)], [.int ((a 95).getD (i 6785).toNatClampNeg 0)], (0, 0), ks i a q r) (by rfl) ?_
                exact ft_ret mi_k118 (by rfl) (hP ((a 95).getD (i 6785).toNatClampNeg 0) trivial)
              ·
                subst eg22
                first | refine fo_goS mi_k118 fz118_84_2_91 [.int (-12)] (by rfl) ?_ | refine fo_goS mi_k118 fz118_81_2_91 [.int (-12)] (by rfl) ?_ | refine ft_go mi_k118 2 91 [(4, .int ((a 95).getD (i 6785).toNatClampNeg 0)), (3, .ref 106), (0, .ref 0), (1, .int x1), (2, .int x2)] [.int (-12)] i a q r (by rfl) ?_ | refine ko_steps mi_in118 2 _ (91, [(4, .int ((a 95).getD (i 6785).toNatClampNeg 0)), (3, .ref 106), (0, .ref 0), (1, .int x1), (2, .int x2)], [.int (-12)], (0, 0), ks i a q r) (by rfl) ?_
                exact ft_ret mi_k118 (by rfl) (hP (-12) trivial)
            ·
              subst eg19
              first | refine fo_goS mi_k118 fz118_55_2_60 [.int (-12)] (by rfl) ?_ | refine ft_goS mi_k118 2 60 [.int (-12)] (by rfl) ?_ | refine ft_go mi_k118 2 60 [(3, .ref 106), (0, .ref 0), (1, .int x1), (2, .int x2)] [.int (-12)] i a q r (by rfl) ?_ | refine ko_steps mi_in118 2 _ (60, [(3, .ref 106), (0, .ref 0), (1, .int x1), (2, .int x2)], [.int (-12)], (0, 0), ks i a q r) (by rfl) ?_
              exact ft_ret mi_k118 (by rfl) (hP (-12) trivial)
        ·
          have c24 : (i 6784).toInt = (0 : Int32).toInt := kd_neF c; clear c
          first | refine fo_goS mi_k118 fz118_33_1_35 [.int (-11)] (by rfl) ?_ | refine ft_go mi_k118 1 35 [(3, .ref 106), (0, .ref 0), (1, .int x1), (2, .int x2)] [.int (-11)] i a q r (by rfl) ?_ | refine ko_steps mi_in118 1 _ (35, [(3, .ref 106), (0, .ref 0), (1, .int x1), (2, .int x2)], [.int (-11)], (0, 0), ks i a q r) (by rfl) ?_
          exact ft_ret mi_k118 (by rfl) (hP (-11) trivial)
      by_cases w25 : x1.toInt = 2
      ·
        refine ko_eq (x1 := (24, [(0, .ref 0), (1, .int x1), (2, .int x2)], [.int 2, .ref 97], (0, 0), ks i a q r)) (by rw [(kj_eq w25 (by decide) : x1 = 2)]) ?_
        first | refine ft_goL mi_k118 4 30 [(3, .ref 108), (0, .ref 0), (1, .int x1), (2, .int x2)] [.int (i 6912)] (by rfl) ?_ | refine ft_go mi_k118 4 30 [(3, .ref 108), (0, .ref 0), (1, .int x1), (2, .int x2)] [.int (i 6912)] i a q r (by rfl) ?_ | refine ko_steps mi_in118 4 _ (30, [(3, .ref 108), (0, .ref 0), (1, .int x1), (2, .int x2)], [.int (i 6912)], (0, 0), ks i a q r) (by rfl) ?_
        refine ft_ifS mi_k118 ((i 6912) != 0) 36 33 [] (by rfl) (fun c => ?_) (fun c => ?_)
        ·
          have c26 : (i 6912).toInt ≠ (0 : Int32).toInt := kd_ne c; clear c
          first | refine fo_goS mi_k118 fz118_36_3_41 [.int 1, .int (i 6912)] (by rfl) ?_ | refine ft_go mi_k118 3 41 [(3, .ref 108), (0, .ref 0), (1, .int x1), (2, .int x2)] [.int 1, .int (i 6912)] i a q r (by rfl) ?_ | refine ko_steps mi_in118 3 _ (41, [(3, .ref 108), (0, .ref 0), (1, .int x1), (2, .int x2)], [.int 1, .int (i 6912)], (0, 0), ks i a q r) (by rfl) ?_
          refine ft_ifS mi_k118 ((i 6912) != 1) 58 44 [] (by rfl) (fun c => ?_) (fun c => ?_)
          ·
            have c27 : (i 6912).toInt ≠ (1 : Int32).toInt := kd_ne c; clear c
            first | refine fo_goS mi_k118 fz118_58_1_60 [.int (-12)] (by rfl) ?_ | refine ft_go mi_k118 1 60 [(3, .ref 108), (0, .ref 0), (1, .int x1), (2, .int x2)] [.int (-12)] i a q r (by rfl) ?_ | refine ko_steps mi_in118 1 _ (60, [(3, .ref 108), (0, .ref 0), (1, .int x1), (2, .int x2)], [.int (-12)], (0, 0), ks i a q r) (by rfl) ?_
            exact ft_ret mi_k118 (by rfl) (hP (-12) trivial)
          ·
            have c28 : (i 6912).toInt = (1 : Int32).toInt := kd_neF c; clear c
            first | refine fo_goS mi_k118 fz118_44_4_52 [.int (i 6913), .ref 94] (by rfl) ?_ | refine ft_go mi_k118 4 52 [(3, .ref 108), (0, .ref 0), (1, .int x1), (2, .int x2)] [.int (i 6913), .ref 94] i a q r (by rfl) ?_ | refine ko_steps mi_in118 4 _ (52, [(3, .ref 108), (0, .ref 0), (1, .int x1), (2, .int x2)], [.int (i 6913), .ref 94], (0, 0), ks i a q r) (by rfl) ?_
            refine ko_callPI mi_k118.1 (pc := 52) (ls := [(3, .ref 108), (0, .ref 0), (1, .int x1), (2, .int x2)]) (st := [.int (i 6913), .ref 94]) (h := ks i a q r) (i := (.invokevirtual 301, 3, 8, 0, 9, 0, 304)) (mi_k118.2 _ _ (by rfl)) (ft_invS mi_pq8 (by rfl)) (cy := mi_c8) mi_pq8 rfl (kc8_94 hG.I hG.R (i 6913)) (by decide) ?_
            intro vg29 hg29
            rcases hg29 with ⟨eg29, hg29⟩ | ⟨eg29, hg29⟩
            ·
              subst eg29
              have fi_6017 : ((0 : Int) ≤ (i 6017).toInt) ∧ ((i 6017).toInt ≤ 50) := hG.I.1 6017
              have z30 : ((0 : Int) ≤ (i 6913).toInt) ∧ ((i 6913).toInt < (i 6017).toInt) := hg29
              first | refine fo_goS mi_k118 fz118_55_6_72 [.int (i 6913), .ref 95] (by rfl) ?_ | refine ft_go mi_k118 6 72 [(3, .ref 108), (0, .ref 0), (1, .int x1), (2, .int x2)] [.int (i 6913), .ref 95] i a q r (by rfl) ?_ | refine ko_steps mi_in118 6 _ (72, [(3, .ref 108), (0, .ref 0), (1, .int x1), (2, .int x2)], [.int (i 6913), .ref 95], (0, 0), ks i a q r) (by rfl) ?_
              refine ko_iald3 mi_k118.1 (n := 50) (c := 50) (ax := (0, 0, 0, 0, 0)) (mi_k118.2 _ _ (by rfl)) (by rfl) (ksG95 _ _ _ _) (hG.I.2.1 95) rfl (oz3 z30.1) (oz1283 fi_6017.2 z30.2) ?_
              have r31 : ((0 : Int) ≤ ((a 95).getD (i 6913).toNatClampNeg 0).toInt) ∧ (((a 95).getD (i 6913).toNatClampNeg 0).toInt ≤ 7) := hG.I.2.2.1 95 ((i 6913).toNatClampNeg)
              first | refine fo_goL mi_k118 fz118_73_3_78 [(4, .int ((a 95).getD (i 6913).toNatClampNeg 0)), (3, .ref 108), (0, .ref 0), (1, .int x1), (2, .int x2)] [.int x2, .int ((a 95).getD (i 6913).toNatClampNeg 0)] (by rfl) ?_ | refine ft_go mi_k118 3 78 [(4, .int ((a 95).getD (i 6913).toNatClampNeg 0)), (3, .ref 108), (0, .ref 0), (1, .int x1), (2, .int x2)] [.int x2, .int ((a 95).getD (i 6913).toNatClampNeg 0)] i a q r (by rfl) ?_ | refine ko_steps mi_in118 3 _ (78, [(4, .int ((a 95).getD (i 6913).toNatClampNeg 0)), (3, .ref 108), (0, .ref 0), (1, .int x1), (2, .int x2)], [.int x2, .int ((a 95).getD (i 6913).toNatClampNeg 0)], (0, 0), ks i a q r) (by rfl) ?_
              refine ko_callPI mi_k118.1 (pc := 78) (ls := [(4, .int ((a 95).getD (i 6913).toNatClampNeg 0)), (3, .ref 108), (0, .ref 0), (1, .int x1), (2, .int x2)]) (st := [.int x2, .int ((a 95).getD (i 6913).toNatClampNeg 0)]) (h := ks i a q r) (i := (.invokestatic 339, 3, 10, 0, 9, 0, 319)) (mi_k118.2 _ _ (by rfl)) (ft_invS mi_pq10 (by rfl)) (cy := mi_c10) mi_pq10 rfl (kc10 hG.I hG.R ((a 95).getD (i 6913).toNatClampNeg 0) x2) (by decide) ?_
              intro vg32 hg32
              rcases hg32 with ⟨eg32, hg32⟩ | ⟨eg32, hg32⟩
              ·
                subst eg32
                first | refine fo_goS mi_k118 fz118_81_3_91 [.int ((a 95).getD (i 6913).toNatClampNeg 0)] (by rfl) ?_ | refine ft_goS mi_k118 3 91 [.int ((a 95).getD (i 6913).toNatClampNeg 0)] (by rfl) ?_ | refine ft_go mi_k118 3 91 [(4, .int ((a 95).getD (i 6913).toNatClampNeg 0)), (3, .ref 108), (0, .ref 0), (1, .int x1), (2, .int x2)] [.int ((a 95).getD (i 6913).toNatClampNeg 0)] i a q r (by rfl) ?_ | refine ko_steps mi_in118 3 _ (91, [(4, .int ((a 95).getD (i 6913).toNatClampNeg 0)), (3, .ref 108), (0, .ref 0), (1, .int x1), (2, .int x2)], [.int ((a 95).getD (i 6913).toNatClampNeg 0)], (0, 0), ks i a q r) (by rfl) ?_
                exact ft_ret mi_k118 (by rfl) (hP ((a 95).getD (i 6913).toNatClampNeg 0) trivial)
              ·
                subst eg32
                first | refine fo_goS mi_k118 fz118_84_2_91 [.int (-12)] (by rfl) ?_ | refine fo_goS mi_k118 fz118_81_2_91 [.int (-12)] (by rfl) ?_ | refine ft_go mi_k118 2 91 [(4, .int ((a 95).getD (i 6913).toNatClampNeg 0)), (3, .ref 108), (0, .ref 0), (1, .int x1), (2, .int x2)] [.int (-12)] i a q r (by rfl) ?_ | refine ko_steps mi_in118 2 _ (91, [(4, .int ((a 95).getD (i 6913).toNatClampNeg 0)), (3, .ref 108), (0, .ref 0), (1, .int x1), (2, .int x2)], [.int (-12)], (0, 0), ks i a q r) (by rfl) ?_
                exact ft_ret mi_k118 (by rfl) (hP (-12) trivial)
            ·
              subst eg29
              first | refine fo_goS mi_k118 fz118_55_2_60 [.int (-12)] (by rfl) ?_ | refine ft_goS mi_k118 2 60 [.int (-12)] (by rfl) ?_ | refine ft_go mi_k118 2 60 [(3, .ref 108), (0, .ref 0), (1, .int x1), (2, .int x2)] [.int (-12)] i a q r (by rfl) ?_ | refine ko_steps mi_in118 2 _ (60, [(3, .ref 108), (0, .ref 0), (1, .int x1), (2, .int x2)], [.int (-12)], (0, 0), ks i a q r) (by rfl) ?_
              exact ft_ret mi_k118 (by rfl) (hP (-12) trivial)
        ·
          have c34 : (i 6912).toInt = (0 : Int32).toInt := kd_neF c; clear c
          first | refine fo_goS mi_k118 fz118_33_1_35 [.int (-11)] (by rfl) ?_ | refine ft_go mi_k118 1 35 [(3, .ref 108), (0, .ref 0), (1, .int x1), (2, .int x2)] [.int (-11)] i a q r (by rfl) ?_ | refine ko_steps mi_in118 1 _ (35, [(3, .ref 108), (0, .ref 0), (1, .int x1), (2, .int x2)], [.int (-11)], (0, 0), ks i a q r) (by rfl) ?_
          exact ft_ret mi_k118 (by rfl) (hP (-11) trivial)
      by_cases w35 : x1.toInt = 3
      ·
        refine ko_eq (x1 := (24, [(0, .ref 0), (1, .int x1), (2, .int x2)], [.int 3, .ref 97], (0, 0), ks i a q r)) (by rw [(kj_eq w35 (by decide) : x1 = 3)]) ?_
        first | refine ft_goL mi_k118 4 30 [(3, .ref 110), (0, .ref 0), (1, .int x1), (2, .int x2)] [.int (i 7040)] (by rfl) ?_ | refine ft_go mi_k118 4 30 [(3, .ref 110), (0, .ref 0), (1, .int x1), (2, .int x2)] [.int (i 7040)] i a q r (by rfl) ?_ | refine ko_steps mi_in118 4 _ (30, [(3, .ref 110), (0, .ref 0), (1, .int x1), (2, .int x2)], [.int (i 7040)], (0, 0), ks i a q r) (by rfl) ?_
        refine ft_ifS mi_k118 ((i 7040) != 0) 36 33 [] (by rfl) (fun c => ?_) (fun c => ?_)
        ·
          have c36 : (i 7040).toInt ≠ (0 : Int32).toInt := kd_ne c; clear c
          first | refine fo_goS mi_k118 fz118_36_3_41 [.int 1, .int (i 7040)] (by rfl) ?_ | refine ft_go mi_k118 3 41 [(3, .ref 110), (0, .ref 0), (1, .int x1), (2, .int x2)] [.int 1, .int (i 7040)] i a q r (by rfl) ?_ | refine ko_steps mi_in118 3 _ (41, [(3, .ref 110), (0, .ref 0), (1, .int x1), (2, .int x2)], [.int 1, .int (i 7040)], (0, 0), ks i a q r) (by rfl) ?_
          refine ft_ifS mi_k118 ((i 7040) != 1) 58 44 [] (by rfl) (fun c => ?_) (fun c => ?_)
          ·
            have c37 : (i 7040).toInt ≠ (1 : Int32).toInt := kd_ne c; clear c
            first | refine fo_goS mi_k118 fz118_58_1_60 [.int (-12)] (by rfl) ?_ | refine ft_go mi_k118 1 60 [(3, .ref 110), (0, .ref 0), (1, .int x1), (2, .int x2)] [.int (-12)] i a q r (by rfl) ?_ | refine ko_steps mi_in118 1 _ (60, [(3, .ref 110), (0, .ref 0), (1, .int x1), (2, .int x2)], [.int (-12)], (0, 0), ks i a q r) (by rfl) ?_
            exact ft_ret mi_k118 (by rfl) (hP (-12) trivial)
          ·
            have c38 : (i 7040).toInt = (1 : Int32).toInt := kd_neF c; clear c
            first | refine fo_goS mi_k118 fz118_44_4_52 [.int (i 7041), .ref 94] (by rfl) ?_ | refine ft_go mi_k118 4 52 [(3, .ref 110), (0, .ref 0), (1, .int x1), (2, .int x2)] [.int (i 7041), .ref 94] i a q r (by rfl) ?_ | refine ko_steps mi_in118 4 _ (52, [(3, .ref 110), (0, .ref 0), (1, .int x1), (2, .int x2)], [.int (i 7041), .ref 94], (0, 0), ks i a q r) (by rfl) ?_
            refine ko_callPI mi_k118.1 (pc := 52) (ls := [(3, .ref 110), (0, .ref 0), (1, .int x1), (2, .int x2)]) (st := [.int (i 7041), .ref 94]) (h := ks i a q r) (i := (.invokevirtual 301, 3, 8, 0, 9, 0, 304)) (mi_k118.2 _ _ (by rfl)) (ft_invS mi_pq8 (by rfl)) (cy := mi_c8) mi_pq8 rfl (kc8_94 hG.I hG.R (i 7041)) (by decide) ?_
            intro vg39 hg39
            rcases hg39 with ⟨eg39, hg39⟩ | ⟨eg39, hg39⟩
            ·
              subst eg39
              have fi_6017 : ((0 : Int) ≤ (i 6017).toInt) ∧ ((i 6017).toInt ≤ 50) := hG.I.1 6017
              have z40 : ((0 : Int) ≤ (i 7041).toInt) ∧ ((i 7041).toInt < (i 6017).toInt) := hg39
              first | refine fo_goS mi_k118 fz118_55_6_72 [.int (i 7041), .ref 95] (by rfl) ?_ | refine ft_go mi_k118 6 72 [(3, .ref 110), (0, .ref 0), (1, .int x1), (2, .int x2)] [.int (i 7041), .ref 95] i a q r (by rfl) ?_ | refine ko_steps mi_in118 6 _ (72, [(3, .ref 110), (0, .ref 0), (1, .int x1), (2, .int x2)], [.int (i 7041), .ref 95], (0, 0), ks i a q r) (by rfl) ?_
              refine ko_iald3 mi_k118.1 (n := 50) (c := 50) (ax := (0, 0, 0, 0, 0)) (mi_k118.2 _ _ (by rfl)) (by rfl) (ksG95 _ _ _ _) (hG.I.2.1 95) rfl (oz3 z40.1) (oz1283 fi_6017.2 z40.2) ?_
              have r41 : ((0 : Int) ≤ ((a 95).getD (i 7041).toNatClampNeg 0).toInt) ∧ (((a 95).getD (i 7041).toNatClampNeg 0).toInt ≤ 7) := hG.I.2.2.1 95 ((i 7041).toNatClampNeg)
              first | refine fo_goL mi_k118 fz118_73_3_78 [(4, .int ((a 95).getD (i 7041).toNatClampNeg 0)), (3, .ref 110), (0, .ref 0), (1, .int x1), (2, .int x2)] [.int x2, .int ((a 95).getD (i 7041).toNatClampNeg 0)] (by rfl) ?_ | refine ft_go mi_k118 3 78 [(4, .int ((a 95).getD (i 7041).toNatClampNeg 0)), (3, .ref 110), (0, .ref 0), (1, .int x1), (2, .int x2)] [.int x2, .int ((a 95).getD (i 7041).toNatClampNeg 0)] i a q r (by rfl) ?_ | refine ko_steps mi_in118 3 _ (78, [(4, .int ((a 95).getD (i 7041).toNatClampNeg 0)), (3, .ref 110), (0, .ref 0), (1, .int x1), (2, .int x2)], [.int x2, .int ((a 95).getD (i 7041).toNatClampNeg 0)], (0, 0), ks i a q r) (by rfl) ?_
              refine ko_callPI mi_k118.1 (pc := 78) (ls := [(4, .int ((a 95).getD (i 7041).toNatClampNeg 0)), (3, .ref 110), (0, .ref 0), (1, .int x1), (2, .int x2)]) (st := [.int x2, .int ((a 95).getD (i 7041).toNatClampNeg 0)]) (h := ks i a q r) (i := (.invokestatic 339, 3, 10, 0, 9, 0, 319)) (mi_k118.2 _ _ (by rfl)) (ft_invS mi_pq10 (by rfl)) (cy := mi_c10) mi_pq10 rfl (kc10 hG.I hG.R ((a 95).getD (i 7041).toNatClampNeg 0) x2) (by decide) ?_
              intro vg42 hg42
              rcases hg42 with ⟨eg42, hg42⟩ | ⟨eg42, hg42⟩
              ·
                subst eg42
                first | refine fo_goS mi_k118 fz118_81_3_91 [.int ((a 95).getD (i 7041).toNatClampNeg 0)] (by rfl) ?_ | refine ft_goS mi_k118 3 91 [.int ((a 95).getD (i 7041).toNatClampNeg 0)] (by rfl) ?_ | refine ft_go mi_k118 3 91 [(4, .int ((a 95).getD (i 7041).toNatClampNeg 0)), (3, .ref 110), (0, .ref 0), (1, .int x1), (2, .int x2)] [.int ((a 95).getD (i 7041).toNatClampNeg 0)] i a q r (by rfl) ?_ | refine ko_steps mi_in118 3 _ (91, [(4, .int ((a 95).getD (i 7041).toNatClampNeg 0)), (3, .ref 110), (0, .ref 0), (1, .int x1), (2, .int x2)], [.int ((a 95).getD (i 7041).toNatClampNeg 0)], (0, 0), ks i a q r) (by rfl) ?_
                exact ft_ret mi_k118 (by rfl) (hP ((a 95).getD (i 7041).toNatClampNeg 0) trivial)
              ·
                subst eg42
                first | refine fo_goS mi_k118 fz118_84_2_91 [.int (-12)] (by rfl) ?_ | refine fo_goS mi_k118 fz118_81_2_91 [.int (-12)] (by rfl) ?_ | refine ft_go mi_k118 2 91 [(4, .int ((a 95).getD (i 7041).toNatClampNeg 0)), (3, .ref 110), (0, .ref 0), (1, .int x1), (2, .int x2)] [.int (-12)] i a q r (by rfl) ?_ | refine ko_steps mi_in118 2 _ (91, [(4, .int ((a 95).getD (i 7041).toNatClampNeg 0)), (3, .ref 110), (0, .ref 0), (1, .int x1), (2, .int x2)], [.int (-12)], (0, 0), ks i a q r) (by rfl) ?_
                exact ft_ret mi_k118 (by rfl) (hP (-12) trivial)
            ·
              subst eg39
              first | refine fo_goS mi_k118 fz118_55_2_60 [.int (-12)] (by rfl) ?_ | refine ft_goS mi_k118 2 60 [.int (-12)] (by rfl) ?_ | refine ft_go mi_k118 2 60 [(3, .ref 110), (0, .ref 0), (1, .int x1), (2, .int x2)] [.int (-12)] i a q r (by rfl) ?_ | refine ko_steps mi_in118 2 _ (60, [(3, .ref 110), (0, .ref 0), (1, .int x1), (2, .int x2)], [.int (-12)], (0, 0), ks i a q r) (by rfl) ?_
              exact ft_ret mi_k118 (by rfl) (hP (-12) trivial)
        ·
          have c44 : (i 7040).toInt = (0 : Int32).toInt := kd_neF c; clear c
          first | refine fo_goS mi_k118 fz118_33_1_35 [.int (-11)] (by rfl) ?_ | refine ft_go mi_k118 1 35 [(3, .ref 110), (0, .ref 0), (1, .int x1), (2, .int x2)] [.int (-11)] i a q r (by rfl) ?_ | refine ko_steps mi_in118 1 _ (35, [(3, .ref 110), (0, .ref 0), (1, .int x1), (2, .int x2)], [.int (-11)], (0, 0), ks i a q r) (by rfl) ?_
          exact ft_ret mi_k118 (by rfl) (hP (-11) trivial)
      by_cases w45 : x1.toInt = 4
      ·
        refine ko_eq (x1 := (24, [(0, .ref 0), (1, .int x1), (2, .int x2)], [.int 4, .ref 97], (0, 0), ks i a q r)) (by rw [(kj_eq w45 (by decide) : x1 = 4)]) ?_
        first | refine ft_goL mi_k118 4 30 [(3, .ref 112), (0, .ref 0), (1, .int x1), (2, .int x2)] [.int (i 7168)] (by rfl) ?_ | refine ft_go mi_k118 4 30 [(3, .ref 112), (0, .ref 0), (1, .int x1), (2, .int x2)] [.int (i 7168)] i a q r (by rfl) ?_ | refine ko_steps mi_in118 4 _ (30, [(3, .ref 112), (0, .ref 0), (1, .int x1), (2, .int x2)], [.int (i 7168)], (0, 0), ks i a q r) (by rfl) ?_
        refine ft_ifS mi_k118 ((i 7168) != 0) 36 33 [] (by rfl) (fun c => ?_) (fun c => ?_)
        ·
          have c46 : (i 7168).toInt ≠ (0 : Int32).toInt := kd_ne c; clear c
          first | refine fo_goS mi_k118 fz118_36_3_41 [.int 1, .int (i 7168)] (by rfl) ?_ | refine ft_go mi_k118 3 41 [(3, .ref 112), (0, .ref 0), (1, .int x1), (2, .int x2)] [.int 1, .int (i 7168)] i a q r (by rfl) ?_ | refine ko_steps mi_in118 3 _ (41, [(3, .ref 112), (0, .ref 0), (1, .int x1), (2, .int x2)], [.int 1, .int (i 7168)], (0, 0), ks i a q r) (by rfl) ?_
          refine ft_ifS mi_k118 ((i 7168) != 1) 58 44 [] (by rfl) (fun c => ?_) (fun c => ?_)
          ·
            have c47 : (i 7168).toInt ≠ (1 : Int32).toInt := kd_ne c; clear c
            first | refine fo_goS mi_k118 fz118_58_1_60 [.int (-12)] (by rfl) ?_ | refine ft_go mi_k118 1 60 [(3, .ref 112), (0, .ref 0), (1, .int x1), (2, .int x2)] [.int (-12)] i a q r (by rfl) ?_ | refine ko_steps mi_in118 1 _ (60, [(3, .ref 112), (0, .ref 0), (1, .int x1), (2, .int x2)], [.int (-12)], (0, 0), ks i a q r) (by rfl) ?_
            exact ft_ret mi_k118 (by rfl) (hP (-12) trivial)
          ·
            have c48 : (i 7168).toInt = (1 : Int32).toInt := kd_neF c; clear c
            first | refine fo_goS mi_k118 fz118_44_4_52 [.int (i 7169), .ref 94] (by rfl) ?_ | refine ft_go mi_k118 4 52 [(3, .ref 112), (0, .ref 0), (1, .int x1), (2, .int x2)] [.int (i 7169), .ref 94] i a q r (by rfl) ?_ | refine ko_steps mi_in118 4 _ (52, [(3, .ref 112), (0, .ref 0), (1, .int x1), (2, .int x2)], [.int (i 7169), .ref 94], (0, 0), ks i a q r) (by rfl) ?_
            refine ko_callPI mi_k118.1 (pc := 52) (ls := [(3, .ref 112), (0, .ref 0), (1, .int x1), (2, .int x2)]) (st := [.int (i 7169), .ref 94]) (h := ks i a q r) (i := (.invokevirtual 301, 3, 8, 0, 9, 0, 304)) (mi_k118.2 _ _ (by rfl)) (ft_invS mi_pq8 (by rfl)) (cy := mi_c8) mi_pq8 rfl (kc8_94 hG.I hG.R (i 7169)) (by decide) ?_
            intro vg49 hg49
            rcases hg49 with ⟨eg49, hg49⟩ | ⟨eg49, hg49⟩
            ·
              subst eg49
              have fi_6017 : ((0 : Int) ≤ (i 6017).toInt) ∧ ((i 6017).toInt ≤ 50) := hG.I.1 6017
              have z50 : ((0 : Int) ≤ (i 7169).toInt) ∧ ((i 7169).toInt < (i 6017).toInt) := hg49
              first | refine fo_goS mi_k118 fz118_55_6_72 [.int (i 7169), .ref 95] (by rfl) ?_ | refine ft_go mi_k118 6 72 [(3, .ref 112), (0, .ref 0), (1, .int x1), (2, .int x2)] [.int (i 7169), .ref 95] i a q r (by rfl) ?_ | refine ko_steps mi_in118 6 _ (72, [(3, .ref 112), (0, .ref 0), (1, .int x1), (2, .int x2)], [.int (i 7169), .ref 95], (0, 0), ks i a q r) (by rfl) ?_
              refine ko_iald3 mi_k118.1 (n := 50) (c := 50) (ax := (0, 0, 0, 0, 0)) (mi_k118.2 _ _ (by rfl)) (by rfl) (ksG95 _ _ _ _) (hG.I.2.1 95) rfl (oz3 z50.1) (oz1283 fi_6017.2 z50.2) ?_
              have r51 : ((0 : Int) ≤ ((a 95).getD (i 7169).toNatClampNeg 0).toInt) ∧ (((a 95).getD (i 7169).toNatClampNeg 0).toInt ≤ 7) := hG.I.2.2.1 95 ((i 7169).toNatClampNeg)
              first | refine fo_goL mi_k118 fz118_73_3_78 [(4, .int ((a 95).getD (i 7169).toNatClampNeg 0)), (3, .ref 112), (0, .ref 0), (1, .int x1), (2, .int x2)] [.int x2, .int ((a 95).getD (i 7169).toNatClampNeg 0)] (by rfl) ?_ | refine ft_go mi_k118 3 78 [(4, .int ((a 95).getD (i 7169).toNatClampNeg 0)), (3, .ref 112), (0, .ref 0), (1, .int x1), (2, .int x2)] [.int x2, .int ((a 95).getD (i 7169).toNatClampNeg 0)] i a q r (by rfl) ?_ | refine ko_steps mi_in118 3 _ (78, [(4, .int ((a 95).getD (i 7169).toNatClampNeg 0)), (3, .ref 112), (0, .ref 0), (1, .int x1), (2, .int x2)], [.int x2, .int ((a 95).getD (i 7169).toNatClampNeg 0)], (0, 0), ks i a q r) (by rfl) ?_
              refine ko_callPI mi_k118.1 (pc := 78) (ls := [(4, .int ((a 95).getD (i 7169).toNatClampNeg 0)), (3, .ref 112), (0, .ref 0), (1, .int x1), (2, .int x2)]) (st := [.int x2, .int ((a 95).getD (i 7169).toNatClampNeg 0)]) (h := ks i a q r) (i := (.invokestatic 339, 3, 10, 0, 9, 0, 319)) (mi_k118.2 _ _ (by rfl)) (ft_invS mi_pq10 (by rfl)) (cy := mi_c10) mi_pq10 rfl (kc10 hG.I hG.R ((a 95).getD (i 7169).toNatClampNeg 0) x2) (by decide) ?_
              intro vg52 hg52
              rcases hg52 with ⟨eg52, hg52⟩ | ⟨eg52, hg52⟩
              ·
                subst eg52
                first | refine fo_goS mi_k118 fz118_81_3_91 [.int ((a 95).getD (i 7169).toNatClampNeg 0)] (by rfl) ?_ | refine ft_goS mi_k118 3 91 [.int ((a 95).getD (i 7169).toNatClampNeg 0)] (by rfl) ?_ | refine ft_go mi_k118 3 91 [(4, .int ((a 95).getD (i 7169).toNatClampNeg 0)), (3, .ref 112), (0, .ref 0), (1, .int x1), (2, .int x2)] [.int ((a 95).getD (i 7169).toNatClampNeg 0)] i a q r (by rfl) ?_ | refine ko_steps mi_in118 3 _ (91, [(4, .int ((a 95).getD (i 7169).toNatClampNeg 0)), (3, .ref 112), (0, .ref 0), (1, .int x1), (2, .int x2)], [.int ((a 95).getD (i 7169).toNatClampNeg 0)], (0, 0), ks i a q r) (by rfl) ?_
                exact ft_ret mi_k118 (by rfl) (hP ((a 95).getD (i 7169).toNatClampNeg 0) trivial)
              ·
                subst eg52
                first | refine fo_goS mi_k118 fz118_84_2_91 [.int (-12)] (by rfl) ?_ | refine fo_goS mi_k118 fz118_81_2_91 [.int (-12)] (by rfl) ?_ | refine ft_go mi_k118 2 91 [(4, .int ((a 95).getD (i 7169).toNatClampNeg 0)), (3, .ref 112), (0, .ref 0), (1, .int x1), (2, .int x2)] [.int (-12)] i a q r (by rfl) ?_ | refine ko_steps mi_in118 2 _ (91, [(4, .int ((a 95).getD (i 7169).toNatClampNeg 0)), (3, .ref 112), (0, .ref 0), (1, .int x1), (2, .int x2)], [.int (-12)], (0, 0), ks i a q r) (by rfl) ?_
                exact ft_ret mi_k118 (by rfl) (hP (-12) trivial)
            ·
              subst eg49
              first | refine fo_goS mi_k118 fz118_55_2_60 [.int (-12)] (by rfl) ?_ | refine ft_goS mi_k118 2 60 [.int (-12)] (by rfl) ?_ | refine ft_go mi_k118 2 60 [(3, .ref 112), (0, .ref 0), (1, .int x1), (2, .int x2)] [.int (-12)] i a q r (by rfl) ?_ | refine ko_steps mi_in118 2 _ (60, [(3, .ref 112), (0, .ref 0), (1, .int x1), (2, .int x2)], [.int (-12)], (0, 0), ks i a q r) (by rfl) ?_
              exact ft_ret mi_k118 (by rfl) (hP (-12) trivial)
        ·
          have c54 : (i 7168).toInt = (0 : Int32).toInt := kd_neF c; clear c
          first | refine fo_goS mi_k118 fz118_33_1_35 [.int (-11)] (by rfl) ?_ | refine ft_go mi_k118 1 35 [(3, .ref 112), (0, .ref 0), (1, .int x1), (2, .int x2)] [.int (-11)] i a q r (by rfl) ?_ | refine ko_steps mi_in118 1 _ (35, [(3, .ref 112), (0, .ref 0), (1, .int x1), (2, .int x2)], [.int (-11)], (0, 0), ks i a q r) (by rfl) ?_
          exact ft_ret mi_k118 (by rfl) (hP (-11) trivial)
      by_cases w55 : x1.toInt = 5
      ·
        refine ko_eq (x1 := (24, [(0, .ref 0), (1, .int x1), (2, .int x2)], [.int 5, .ref 97], (0, 0), ks i a q r)) (by rw [(kj_eq w55 (by decide) : x1 = 5)]) ?_
        first | refine ft_goL mi_k118 4 30 [(3, .ref 114), (0, .ref 0), (1, .int x1), (2, .int x2)] [.int (i 7296)] (by rfl) ?_ | refine ft_go mi_k118 4 30 [(3, .ref 114), (0, .ref 0), (1, .int x1), (2, .int x2)] [.int (i 7296)] i a q r (by rfl) ?_ | refine ko_steps mi_in118 4 _ (30, [(3, .ref 114), (0, .ref 0), (1, .int x1), (2, .int x2)], [.int (i 7296)], (0, 0), ks i a q r) (by rfl) ?_
        refine ft_ifS mi_k118 ((i 7296) != 0) 36 33 [] (by rfl) (fun c => ?_) (fun c => ?_)
        ·
          have c56 : (i 7296).toInt ≠ (0 : Int32).toInt := kd_ne c; clear c
          first | refine fo_goS mi_k118 fz118_36_3_41 [.int 1, .int (i 7296)] (by rfl) ?_ | refine ft_go mi_k118 3 41 [(3, .ref 114), (0, .ref 0), (1, .int x1), (2, .int x2)] [.int 1, .int (i 7296)] i a q r (by rfl) ?_ | refine ko_steps mi_in118 3 _ (41, [(3, .ref 114), (0, .ref 0), (1, .int x1), (2, .int x2)], [.int 1, .int (i 7296)], (0, 0), ks i a q r) (by rfl) ?_
          refine ft_ifS mi_k118 ((i 7296) != 1) 58 44 [] (by rfl) (fun c => ?_) (fun c => ?_)
          ·
            have c57 : (i 7296).toInt ≠ (1 : Int32).toInt := kd_ne c; clear c
            first | refine fo_goS mi_k118 fz118_58_1_60 [.int (-12)] (by rfl) ?_ | refine ft_go mi_k118 1 60 [(3, .ref 114), (0, .ref 0), (1, .int x1), (2, .int x2)] [.int (-12)] i a q r (by rfl) ?_ | refine ko_steps mi_in118 1 _ (60, [(3, .ref 114), (0, .ref 0), (1, .int x1), (2, .int x2)], [.int (-12)], (0, 0), ks i a q r) (by rfl) ?_
            exact ft_ret mi_k118 (by rfl) (hP (-12) trivial)
          ·
            have c58 : (i 7296).toInt = (1 : Int32).toInt := kd_neF c; clear c
            first | refine fo_goS mi_k118 fz118_44_4_52 [.int (i 7297), .ref 94] (by rfl) ?_ | refine ft_go mi_k118 4 52 [(3, .ref 114), (0, .ref 0), (1, .int x1), (2, .int x2)] [.int (i 7297), .ref 94] i a q r (by rfl) ?_ | refine ko_steps mi_in118 4 _ (52, [(3, .ref 114), (0, .ref 0), (1, .int x1), (2, .int x2)], [.int (i 7297), .ref 94], (0, 0), ks i a q r) (by rfl) ?_
            refine ko_callPI mi_k118.1 (pc := 52) (ls := [(3, .ref 114), (0, .ref 0), (1, .int x1), (2, .int x2)]) (st := [.int (i 7297), .ref 94]) (h := ks i a q r) (i := (.invokevirtual 301, 3, 8, 0, 9, 0, 304)) (mi_k118.2 _ _ (by rfl)) (ft_invS mi_pq8 (by rfl)) (cy := mi_c8) mi_pq8 rfl (kc8_94 hG.I hG.R (i 7297)) (by decide) ?_
            intro vg59 hg59
            rcases hg59 with ⟨eg59, hg59⟩ | ⟨eg59, hg59⟩
            ·
              subst eg59
              have fi_6017 : ((0 : Int) ≤ (i 6017).toInt) ∧ ((i 6017).toInt ≤ 50) := hG.I.1 6017
              have z60 : ((0 : Int) ≤ (i 7297).toInt) ∧ ((i 7297).toInt < (i 6017).toInt) := hg59
              first | refine fo_goS mi_k118 fz118_55_6_72 [.int (i 7297), .ref 95] (by rfl) ?_ | refine ft_go mi_k118 6 72 [(3, .ref 114), (0, .ref 0), (1, .int x1), (2, .int x2)] [.int (i 7297), .ref 95] i a q r (by rfl) ?_ | refine ko_steps mi_in118 6 _ (72, [(3, .ref 114), (0, .ref 0), (1, .int x1), (2, .int x2)], [.int (i 7297), .ref 95], (0, 0), ks i a q r) (by rfl) ?_
              refine ko_iald3 mi_k118.1 (n := 50) (c := 50) (ax := (0, 0, 0, 0, 0)) (mi_k118.2 _ _ (by rfl)) (by rfl) (ksG95 _ _ _ _) (hG.I.2.1 95) rfl (oz3 z60.1) (oz1283 fi_6017.2 z60.2) ?_
              have r61 : ((0 : Int) ≤ ((a 95).getD (i 7297).toNatClampNeg 0).toInt) ∧ (((a 95).getD (i 7297).toNatClampNeg 0).toInt ≤ 7) := hG.I.2.2.1 95 ((i 7297).toNatClampNeg)
              first | refine fo_goL mi_k118 fz118_73_3_78 [(4, .int ((a 95).getD (i 7297).toNatClampNeg 0)), (3, .ref 114), (0, .ref 0), (1, .int x1), (2, .int x2)] [.int x2, .int ((a 95).getD (i 7297).toNatClampNeg 0)] (by rfl) ?_ | refine ft_go mi_k118 3 78 [(4, .int ((a 95).getD (i 7297).toNatClampNeg 0)), (3, .ref 114), (0, .ref 0), (1, .int x1), (2, .int x2)] [.int x2, .int ((a 95).getD (i 7297).toNatClampNeg 0)] i a q r (by rfl) ?_ | refine ko_steps mi_in118 3 _ (78, [(4, .int ((a 95).getD (i 7297).toNatClampNeg 0)), (3, .ref 114), (0, .ref 0), (1, .int x1), (2, .int x2)], [.int x2, .int ((a 95).getD (i 7297).toNatClampNeg 0)], (0, 0), ks i a q r) (by rfl) ?_
              refine ko_callPI mi_k118.1 (pc := 78) (ls := [(4, .int ((a 95).getD (i 7297).toNatClampNeg 0)), (3, .ref 114), (0, .ref 0), (1, .int x1), (2, .int x2)]) (st := [.int x2, .int ((a 95).getD (i 7297).toNatClampNeg 0)]) (h := ks i a q r) (i := (.invokestatic 339, 3, 10, 0, 9, 0, 319)) (mi_k118.2 _ _ (by rfl)) (ft_invS mi_pq10 (by rfl)) (cy := mi_c10) mi_pq10 rfl (kc10 hG.I hG.R ((a 95).getD (i 7297).toNatClampNeg 0) x2) (by decide) ?_
              intro vg62 hg62
              rcases hg62 with ⟨eg62, hg62⟩ | ⟨eg62, hg62⟩
              ·
                subst eg62
                first | refine fo_goS mi_k118 fz118_81_3_91 [.int ((a 95).getD (i 7297).toNatClampNeg 0)] (by rfl) ?_ | refine ft_goS mi_k118 3 91 [.int ((a 95).getD (i 7297).toNatClampNeg 0)] (by rfl) ?_ | refine ft_go mi_k118 3 91 [(4, .int ((a 95).getD (i 7297).toNatClampNeg 0)), (3, .ref 114), (0, .ref 0), (1, .int x1), (2, .int x2)] [.int ((a 95).getD (i 7297).toNatClampNeg 0)] i a q r (by rfl) ?_ | refine ko_steps mi_in118 3 _ (91, [(4, .int ((a 95).getD (i 7297).toNatClampNeg 0)), (3, .ref 114), (0, .ref 0), (1, .int x1), (2, .int x2)], [.int ((a 95).getD (i 7297).toNatClampNeg 0)], (0, 0), ks i a q r) (by rfl) ?_
                exact ft_ret mi_k118 (by rfl) (hP ((a 95).getD (i 7297).toNatClampNeg 0) trivial)
              ·
                subst eg62
                first | refine fo_goS mi_k118 fz118_84_2_91 [.int (-12)] (by rfl) ?_ | refine fo_goS mi_k118 fz118_81_2_91 [.int (-12)] (by rfl) ?_ | refine ft_go mi_k118 2 91 [(4, .int ((a 95).getD (i 7297).toNatClampNeg 0)), (3, .ref 114), (0, .ref 0), (1, .int x1), (2, .int x2)] [.int (-12)] i a q r (by rfl) ?_ | refine ko_steps mi_in118 2 _ (91, [(4, .int ((a 95).getD (i 7297).toNatClampNeg 0)), (3, .ref 114), (0, .ref 0), (1, .int x1), (2, .int x2)], [.int (-12)], (0, 0), ks i a q r) (by rfl) ?_
                exact ft_ret mi_k118 (by rfl) (hP (-12) trivial)
            ·
              subst eg59
              first | refine fo_goS mi_k118 fz118_55_2_60 [.int (-12)] (by rfl) ?_ | refine ft_goS mi_k118 2 60 [.int (-12)] (by rfl) ?_ | refine ft_go mi_k118 2 60 [(3, .ref 114), (0, .ref 0), (1, .int x1), (2, .int x2)] [.int (-12)] i a q r (by rfl) ?_ | refine ko_steps mi_in118 2 _ (60, [(3, .ref 114), (0, .ref 0), (1, .int x1), (2, .int x2)], [.int (-12)], (0, 0), ks i a q r) (by rfl) ?_
              exact ft_ret mi_k118 (by rfl) (hP (-12) trivial)
        ·
          have c64 : (i 7296).toInt = (0 : Int32).toInt := kd_neF c; clear c
          first | refine fo_goS mi_k118 fz118_33_1_35 [.int (-11)] (by rfl) ?_ | refine ft_go mi_k118 1 35 [(3, .ref 114), (0, .ref 0), (1, .int x1), (2, .int x2)] [.int (-11)] i a q r (by rfl) ?_ | refine ko_steps mi_in118 1 _ (35, [(3, .ref 114), (0, .ref 0), (1, .int x1), (2, .int x2)], [.int (-11)], (0, 0), ks i a q r) (by rfl) ?_
          exact ft_ret mi_k118 (by rfl) (hP (-11) trivial)
      exact (oz1282 w15 w25 w35 w45 w5 w55 z2.1 z2.2).elim
    ·
      subst eg3
      first | refine ft_goS mi_k118 2 18 [.int (-1)] (by rfl) ?_ | refine ft_go mi_k118 2 18 [(0, .ref 0), (1, .int x1), (2, .int x2)] [.int (-1)] i a q r (by rfl) ?_ | refine ko_steps mi_in118 2 _ (18, [(0, .ref 0), (1, .int x1), (2, .int x2)], [.int (-1)], (0, 0), ks i a q r) (by rfl) ?_
      exact ft_ret mi_k118 (by rfl) (hP (-1) trivial)
  ·
    subst eg1
    first | refine ft_goS mi_k118 2 18 [.int (-1)] (by rfl) ?_ | refine ft_go mi_k118 2 18 [(0, .ref 0), (1, .int x1), (2, .int x2)] [.int (-1)] i a q r (by rfl) ?_ | refine ko_steps mi_in118 2 _ (18, [(0, .ref 0), (1, .int x1), (2, .int x2)], [.int (-1)], (0, 0), ks i a q r) (by rfl) ?_
    exact ft_ret mi_k118 (by rfl) (hP (-1) trivial)
set_option maxRecDepth 100000 in
theorem kc119_0 {i : Nat → Int32} {a : Nat → List Int32} {q : Nat → List Int64} {r : Nat → Nat} (hI : kI i a q) (hr : kr r) (x1 : Int32) : km 1 119 [.ref 0, .int x1] (ks i a q r) (kPI (ks i a q r) (fun v => True)) := by
  have hG := kG_self kW0 hI hr
  refine km_ofPI (q := (mi_h119, mi_c119)) rfl (by decide) (Nat.le_of_ble_eq_true rfl) ?_
  intro P hP
  first | refine ft_goL mi_k119 1 1 [(0, .ref 0), (1, .int x1)] [.int x1] (by rfl) ?_ | refine ft_go mi_k119 1 1 [(0, .ref 0), (1, .int x1)] [.int x1] i a q r (by rfl) ?_
  by_cases w1 : x1.toInt = 0
  ·
    refine ko_eq (x1 := (1, [(0, .ref 0), (1, .int x1)], [.int 0], (0, 0), ks i a q r)) (by rw [(kj_eq w1 (by decide) : x1 = 0)]) ?_
    first | refine ft_goS mi_k119 4 47 [.int (i 64)] (by rfl) ?_ | refine ft_go mi_k119 4 47 [(0, .ref 0), (1, .int x1)] [.int (i 64)] i a q r (by rfl) ?_
    exact ft_ret mi_k119 (by rfl) (hP (i 64) trivial)
  by_cases w2 : x1.toInt = 1
  ·
    refine ko_eq (x1 := (1, [(0, .ref 0), (1, .int x1)], [.int 1], (0, 0), ks i a q r)) (by rw [(kj_eq w2 (by decide) : x1 = 1)]) ?_
    first | refine ft_goS mi_k119 5 58 [.int (i 450)] (by rfl) ?_ | refine ft_go mi_k119 5 58 [(0, .ref 0), (1, .int x1)] [.int (i 450)] i a q r (by rfl) ?_
    exact ft_ret mi_k119 (by rfl) (hP (i 450) trivial)
  by_cases w3 : x1.toInt = 2
  ·
    refine ko_eq (x1 := (1, [(0, .ref 0), (1, .int x1)], [.int 2], (0, 0), ks i a q r)) (by rw [(kj_eq w3 (by decide) : x1 = 2)]) ?_
    first | refine ft_goS mi_k119 4 66 [.int (i 6273)] (by rfl) ?_ | refine ft_go mi_k119 4 66 [(0, .ref 0), (1, .int x1)] [.int (i 6273)] i a q r (by rfl) ?_
    exact ft_ret mi_k119 (by rfl) (hP (i 6273) trivial)
  by_cases w4 : x1.toInt = 3
  ·
    refine ko_eq (x1 := (1, [(0, .ref 0), (1, .int x1)], [.int 3], (0, 0), ks i a q r)) (by rw [(kj_eq w4 (by decide) : x1 = 3)]) ?_
    first | refine ft_goS mi_k119 4 74 [.int (i 5701)] (by rfl) ?_ | refine ft_go mi_k119 4 74 [(0, .ref 0), (1, .int x1)] [.int (i 5701)] i a q r (by rfl) ?_
    exact ft_ret mi_k119 (by rfl) (hP (i 5701) trivial)
  by_cases w5 : x1.toInt = 4
  ·
    refine ko_eq (x1 := (1, [(0, .ref 0), (1, .int x1)], [.int 4], (0, 0), ks i a q r)) (by rw [(kj_eq w5 (by decide) : x1 = 4)]) ?_
    first | refine ft_goS mi_k119 4 82 [.int (i 6017)] (by rfl) ?_ | refine ft_go mi_k119 4 82 [(0, .ref 0), (1, .int x1)] [.int (i 6017)] i a q r (by rfl) ?_
    exact ft_ret mi_k119 (by rfl) (hP (i 6017) trivial)
  by_cases w6 : x1.toInt = 5
  ·
    refine ko_eq (x1 := (1, [(0, .ref 0), (1, .int x1)], [.int 5], (0, 0), ks i a q r)) (by rw [(kj_eq w6 (by decide) : x1 = 5)]) ?_
    first | refine ft_goS mi_k119 4 90 [.int (i 6019)] (by rfl) ?_ | refine ft_go mi_k119 4 90 [(0, .ref 0), (1, .int x1)] [.int (i 6019)] i a q r (by rfl) ?_
    exact ft_ret mi_k119 (by rfl) (hP (i 6019) trivial)
  refine ko_sw (ls := [(0, .ref 0), (1, .int x1)]) (r := []) (h := ks i a q r) mi_in119 (v := x1) (i := (.tableswitch 90 0 5 #[39, 47, 58, 66, 74, 82], 39, 0, 0, 0, 0, 0)) (by rfl) rfl (oz660 w1 w2 w3 w4 w5 w6) 91 (by rfl) ?_
  first | refine ft_goS mi_k119 1 92 [.int (-1)] (by rfl) ?_ | refine ft_go mi_k119 1 92 [(0, .ref 0), (1, .int x1)] [.int (-1)] i a q r (by rfl) ?_
  exact ft_ret mi_k119 (by rfl) (hP (-1) trivial)
set_option maxRecDepth 100000 in
theorem kc43 (i : Nat → Int32) (a : Nat → List Int32) (q : Nat → List Int64) (r : Nat → Nat) (L : Nat) : km 1 43 [.ref 98, .ref L] (ks i a q r) (fun rv h1 => rv = some (.ref (r 2)) ∧ h1 = ks i a q (ku r 2 L)) := by
  refine km_of (q := (mi_h43, mi_c43)) rfl (by decide) (Nat.le_of_ble_eq_true rfl) ?_
  refine ko_steps mi_in43 7 _ (11, [(2, .ref (r 2)), (0, .ref 98), (1, .ref L)], [.ref (r 2)], (0, 0), ks i a q (ku r 2 L)) (by rfl) ?_
  exact ft_ret mi_k43 (by rfl) ⟨rfl, rfl⟩
set_option maxRecDepth 100000 in
theorem kc11_l00_l10 {i : Nat → Int32} {a : Nat → List Int32} {q : Nat → List Int64} {r : Nat → Nat} (hI : kI i a q) (hr : kr r)  : km 1 11 [.int 0, .int 0] (ks i a q r) (kPI (ks i a q r) (fun v => v.toInt = 0)) := by
  have hG := kG_self kW0 hI hr
  refine km_ofPI (q := (mi_h11, mi_c11)) rfl (by decide) (Nat.le_of_ble_eq_true rfl) ?_
  intro P hP
  first | refine ft_goL mi_k11 10 47 [(3, .int 0), (2, .int 0), (0, .int 0), (1, .int 0)] [.int 0] (by rfl) ?_ | refine ft_go mi_k11 10 47 [(3, .int 0), (2, .int 0), (0, .int 0), (1, .int 0)] [.int 0] i a q r (by rfl) ?_
  exact ft_ret mi_k11 (by rfl) (hP 0 (oz236 kn0))
def w14_94_l10_K0 : kW := ([], [], [], [])
set_option maxRecDepth 100000 in
theorem kc14_94_l10_K0 {i : Nat → Int32} {a : Nat → List Int32} {q : Nat → List Int64} {r : Nat → Nat} (hI : kI i a q) (hr : kr r) (x1 : Int32) (x3 : Int32) (x4 : Int32) (hp0 : ((0 : Int) ≤ x1.toInt) ∧ (x1.toInt ≤ 49)) (hp1 : ((a 95).getD x1.toNatClampNeg 0).toInt = 0) (hp2 : ((0 : Int) ≤ x4.toInt) ∧ ((x4.toInt + 0) ≤ 39)) (hp3 : ((0 : Int) ≤ (i 6019).toInt) ∧ (((i 6019).toInt + 0) ≤ 900)) : km 1 14 [.ref 94, .int x1, .int 0, .int x3, .int x4] (ks i a q r) (kVI w14_94_l10_K0 i a q r (fun v i1 a1 q1 r1 => (i1 6019).toInt = ((i 6019).toInt + 0))) := by
  have hG := kG_self w14_94_l10_K0 hI hr
  refine km_ofI (q := (mi_h14, mi_c14)) rfl (by decide) (Nat.le_of_ble_eq_true rfl) ?_
  intro P hP
  have r1 : ((0 : Int) ≤ ((a 95).getD x1.toNatClampNeg 0).toInt) ∧ (((a 95).getD x1.toNatClampNeg 0).toInt ≤ 7) := hG.I.2.2.1 95 (x1.toNatClampNeg)
  first | refine fo_goL mi_k14 fz14_0_3_5 [(0, .ref 94), (1, .int x1), (2, .int 0), (3, .int x3), (4, .int x4)] [.int x1, .ref 95] (by rfl) ?_ | refine ft_go mi_k14 3 5 [(0, .ref 94), (1, .int x1), (2, .int 0), (3, .int x3), (4, .int x4)] [.int x1, .ref 95] i a q r (by rfl) ?_
  refine ko_iald3 mi_k14.1 (n := 50) (c := 50) (ax := (0, 0, 0, 0, 0)) (mi_k14.2 _ _ (by rfl)) (by rfl) (ksG95 _ _ _ _) (hG.I.2.1 95) rfl (oz3 hp0.1) (oz1336 hp0.2) ?_
  refine ko_top (kj_eq (oz1337 hp1 r1.1) (by decide) : ((a 95).getD x1.toNatClampNeg 0) = 0) ?_
  have b2 : ((-2147483648 : Int) ≤ x3.toInt) ∧ (x3.toInt ≤ 2147483647) := kd_bd x3
  have b3 : ((-2147483648 : Int) ≤ x1.toInt) ∧ (x1.toInt ≤ 2147483647) := kd_bd x1
  first | refine ft_goL mi_k14 6 39 [(5, .int 0), (0, .ref 94), (1, .int x1), (2, .int 0), (3, .int x3), (4, .int x4)] [.int (x3 + x1)] (by rfl) ?_ | refine ft_go mi_k14 6 39 [(5, .int 0), (0, .ref 94), (1, .int x1), (2, .int 0), (3, .int x3), (4, .int x4)] [.int (x3 + x1)] i a q r (by rfl) ?_
  exact ft_ret mi_k14 (by rfl) (hP (x3 + x1) _ _ _ _ hG oz1338)
def w13_94_l10_l20_K0 : kW := ([6019], [96], [], [])
set_option maxRecDepth 100000 in
theorem kc13_94_l10_l20_K0 {i : Nat → Int32} {a : Nat → List Int32} {q : Nat → List Int64} {r : Nat → Nat} (hI : kI i a q) (hr : kr r) (x1 : Int32) (x4 : Int32) (x5 : Int32) (hp0 : ((0 : Int) ≤ x1.toInt) ∧ (x1.toInt ≤ 49)) (hp1 : ((a 95).getD x1.toNatClampNeg 0).toInt = 0) (hp2 : ((0 : Int) ≤ x5.toInt) ∧ ((x5.toInt + 1) ≤ 39)) (hp3 : ((0 : Int) ≤ (i 6019).toInt) ∧ (((i 6019).toInt + 1) ≤ 900)) : km 3 13 [.ref 94, .int x1, .int 0, .int 0, .int x4, .int x5] (ks i a q r) (kVI w13_94_l10_l20_K0 i a q r (fun v i1 a1 q1 r1 => (i1 6019).toInt = ((i 6019).toInt + 1))) := by
  have hG := kG_self w13_94_l10_l20_K0 hI hr
  refine km_ofI (q := (mi_h13, mi_c13)) rfl (by decide) (Nat.le_of_ble_eq_true rfl) ?_
  intro P hP
  have r1 : ((0 : Int) ≤ ((a 95).getD x1.toNatClampNeg 0).toInt) ∧ (((a 95).getD x1.toNatClampNeg 0).toInt ≤ 7) := hG.I.2.2.1 95 (x1.toNatClampNeg)
  have fi_6019 : ((0 : Int) ≤ (i 6019).toInt) ∧ ((i 6019).toInt ≤ 1000) := hG.I.1 6019
  first | refine fo_goL mi_k13 fz13_0_2_4 [(0, .ref 94), (1, .int x1), (2, .int 0), (3, .int 0), (4, .int x4), (5, .int x5)] [.int 40, .int x5] (by rfl) ?_ | refine ft_go mi_k13 2 4 [(0, .ref 94), (1, .int x1), (2, .int 0), (3, .int 0), (4, .int x4), (5, .int x5)] [.int 40, .int x5] i a q r (by rfl) ?_
  refine ft_ifS mi_k13 (decide (x5 < 40)) 9 7 [] (by rfl) (fun c => ?_) (fun c => ?_)
  ·
    have c2 : x5.toInt < (40 : Int32).toInt := kd_lt c; clear c
    first | refine fo_goS mi_k13 fz13_9_2_11 [.int 0, .int 0] (by rfl) ?_ | refine ft_go mi_k13 2 11 [(0, .ref 94), (1, .int x1), (2, .int 0), (3, .int 0), (4, .int x4), (5, .int x5)] [.int 0, .int 0] i a q r (by rfl) ?_
    refine ko_callPI mi_k13.1 (pc := 11) (ls := [(0, .ref 94), (1, .int x1), (2, .int 0), (3, .int 0), (4, .int x4), (5, .int x5)]) (st := [.int 0, .int 0]) (h := ks i a q r) (i := (.invokestatic 39, 3, 11, 0, 9, 0, 298)) (mi_k13.2 _ _ (by rfl)) (ft_invS mi_pq11 (by rfl)) (cy := mi_c11) mi_pq11 rfl (kc11_l00_l10 hG.I hG.R ) (by decide) ?_
    intro vg3 hg3
    have z4 : vg3.toInt = 0 := hg3
    have evvg3 := kj_eq (oz236 z4) (by decide : (0 : Int32).toInt = 0)
    subst evvg3
    first | refine ft_goL mi_k13 5 23 [(6, .int 0), (0, .ref 94), (1, .int x1), (2, .int 0), (3, .int 0), (4, .int x4), (5, .int x5)] [.int (0 * 4), .ref (mi_RO + 3)] (by rfl) ?_ | refine ft_go mi_k13 5 23 [(6, .int 0), (0, .ref 94), (1, .int x1), (2, .int 0), (3, .int 0), (4, .int x4), (5, .int x5)] [.int (0 * 4), .ref (mi_RO + 3)] i a q r (by rfl) ?_
    refine ko_top (by decide : (0 * 4 : Int32) = 0) ?_
    first | refine fo_goS mi_k13 fz13_23_2_25 [.int (0 + 0), .ref (mi_RO + 3)] (by rfl) ?_ | refine ft_go mi_k13 2 25 [(6, .int 0), (0, .ref 94), (1, .int x1), (2, .int 0), (3, .int 0), (4, .int x4), (5, .int x5)] [.int (0 + 0), .ref (mi_RO + 3)] i a q r (by rfl) ?_
    refine ko_top (by decide : (0 + 0 : Int32) = 0) ?_
    refine ft_ro mi_k13 (w := 1) (by decide +kernel) (by decide +kernel) ?_
    first | refine fo_goL mi_k13 fz13_26_4_34 [(7, .int 1), (6, .int 0), (0, .ref 94), (1, .int x1), (2, .int 0), (3, .int 0), (4, .int x4), (5, .int x5)] [.int 24, .int (i 6019)] (by rfl) ?_ | refine ft_go mi_k13 4 34 [(7, .int 1), (6, .int 0), (0, .ref 94), (1, .int x1), (2, .int 0), (3, .int 0), (4, .int x4), (5, .int x5)] [.int 24, .int (i 6019)] i a q r (by rfl) ?_
    refine ft_ifS mi_k13 (decide (24 ≤ (i 6019))) 48 37 [] (by rfl) (fun c => ?_) (fun c => ?_)
    ·
      have c6 : (24 : Int32).toInt ≤ (i 6019).toInt := kd_le c; clear c
      have s7 : ((i 6019) + 1).toInt = (i 6019).toInt + (1 : Int32).toInt := kd_add (oz1332 c6 kn24 kn1) (oz951 fi_6019.2 kn1)
      have hJ8 := kG_i hG 6019 rfl (v := ((i 6019) + 1)) ⟨(oz1333 c6 s7 kn24 kn1), (oz1334 hp3.2 s7 kn1)⟩
      have s9 : (x5 + 1).toInt = x5.toInt + (1 : Int32).toInt := kd_add (oz12 hp2.1 kn1) (oz1335 hp2.2 kn1)
      first | refine fo_goI mi_k13 fz13_48_15_72 [.int (x5 + 1), .int x4, .int 0, .int x1, .ref 94] (ku i 6019 ((i 6019) + 1)) (by rfl) ?_ | refine ft_go mi_k13 15 72 [(7, .int 1), (6, .int 0), (0, .ref 94), (1, .int x1), (2, .int 0), (3, .int 0), (4, .int x4), (5, .int x5)] [.int (x5 + 1), .int x4, .int 0, .int x1, .ref 94] (ku i 6019 ((i 6019) + 1)) a q r (by rfl) ?_
      refine ko_callI mi_k13.1 (pc := 72) (ls := [(7, .int 1), (6, .int 0), (0, .ref 94), (1, .int x1), (2, .int 0), (3, .int 0), (4, .int x4), (5, .int x5)]) (st := [.int (x5 + 1), .int x4, .int 0, .int x1, .ref 94]) (h := ks (ku i 6019 ((i 6019) + 1)) a q r) (i := (.invokevirtual 43, 3, 14, 0, 9, 0, 301)) (mi_k13.2 _ _ (by rfl)) (ft_invS mi_pq14 (by rfl)) (cy := mi_c14) mi_pq14 rfl (kc14_94_l10_K0 hJ8.I hJ8.R x1 x4 (x5 + 1) (oz1339 hp0.1 hp0.2) (oz1337 hp1 r1.1) (oz1340 hp2.1 hp2.2 s9 kn1) (oz1341 c6 hp3.2 s7 kn24 kn1)) (by decide) ?_
      intro vg10 ig10 ag10 qg10 rg10 kg10 hg10
      have hGg10 := kG_call hJ8 kg10 (by decide +kernel)
      have efig10_6019 : (ig10 6019).toInt = ((i 6019) + 1).toInt := kg10.ti 6019 rfl
      exact ft_ret mi_k13 (by rfl) (hP vg10 _ _ _ _ hGg10 (oz1342 efig10_6019 s7 kn1))
    ·
      have c12 : (i 6019).toInt < (24 : Int32).toInt := kd_leF c; clear c
      first | refine fo_goS mi_k13 fz13_37_5_47 [.int 1, .int (i 6019), .ref 96] (by rfl) ?_ | refine ft_go mi_k13 5 47 [(7, .int 1), (6, .int 0), (0, .ref 94), (1, .int x1), (2, .int 0), (3, .int 0), (4, .int x4), (5, .int x5)] [.int 1, .int (i 6019), .ref 96] i a q r (by rfl) ?_
      refine ko_iast3 mi_k13.1 (n := 24) (c := 24) (ax := (0, 0, 0, 0, 0)) (mi_k13.2 _ _ (by rfl)) (by rfl) (ksG96 _ _ _ _) (ksA96 _ _ _ _) (hG.I.2.1 96) rfl (oz3 fi_6019.1) (oz1343 c12 kn24) ?_
      intro a13 ea13 fa13
      have hJ13 := kG_a3 hG 96 rfl ea13 fa13 (kd_bd _)
      have s14 : ((i 6019) + 1).toInt = (i 6019).toInt + (1 : Int32).toInt := kd_add (oz12 fi_6019.1 kn1) (oz951 fi_6019.2 kn1)
      have hJ15 := kG_i hJ13 6019 rfl (v := ((i 6019) + 1)) ⟨(oz14 fi_6019.1 s14 kn1), (oz1334 hp3.2 s14 kn1)⟩
      have s16 : (x5 + 1).toInt = x5.toInt + (1 : Int32).toInt := kd_add (oz12 hp2.1 kn1) (oz1335 hp2.2 kn1)
      first | refine fo_goI mi_k13 fz13_48_15_72 [.int (x5 + 1), .int x4, .int 0, .int x1, .ref 94] (ku i 6019 ((i 6019) + 1)) (by rfl) ?_ | refine ft_go mi_k13 15 72 [(7, .int 1), (6, .int 0), (0, .ref 94), (1, .int x1), (2, .int 0), (3, .int 0), (4, .int x4), (5, .int x5)] [.int (x5 + 1), .int x4, .int 0, .int x1, .ref 94] (ku i 6019 ((i 6019) + 1)) a13 q r (by rfl) ?_
      have r17 : ((0 : Int) ≤ ((a13 95).getD x1.toNatClampNeg 0).toInt) ∧ (((a13 95).getD x1.toNatClampNeg 0).toInt ≤ 7) := hJ15.I.2.2.1 95 (x1.toNatClampNeg)
      have u18 : ((a13 95).getD x1.toNatClampNeg 0).toInt = ((a 95).getD x1.toNatClampNeg 0).toInt := congrArg (fun z : List Int32 => (z.getD x1.toNatClampNeg 0).toInt) (fa13 95 (by decide))
      refine ko_callI mi_k13.1 (pc := 72) (ls := [(7, .int 1), (6, .int 0), (0, .ref 94), (1, .int x1), (2, .int 0), (3, .int 0), (4, .int x4), (5, .int x5)]) (st := [.int (x5 + 1), .int x4, .int 0, .int x1, .ref 94]) (h := ks (ku i 6019 ((i 6019) + 1)) a13 q r) (i := (.invokevirtual 43, 3, 14, 0, 9, 0, 301)) (mi_k13.2 _ _ (by rfl)) (ft_invS mi_pq14 (by rfl)) (cy := mi_c14) mi_pq14 rfl (kc14_94_l10_K0 hJ15.I hJ15.R x1 x4 (x5 + 1) (oz1339 hp0.1 hp0.2) (oz1344 hp1 r17.1 u18) (oz1340 hp2.1 hp2.2 s16 kn1) (oz1345 fi_6019.1 hp3.2 s14 kn1)) (by decide) ?_
      intro vg19 ig19 ag19 qg19 rg19 kg19 hg19
      have hGg19 := kG_call hJ15 kg19 (by decide +kernel)
      have efig19_6019 : (ig19 6019).toInt = ((i 6019) + 1).toInt := kg19.ti 6019 rfl
      exact ft_ret mi_k13 (by rfl) (hP vg19 _ _ _ _ hGg19 (oz1342 efig19_6019 s14 kn1))
  ·
    have c21 : (40 : Int32).toInt ≤ x5.toInt := kd_ltF c; clear c
    exact (oz1346 c21 hp2.2 kn40).elim
set_option maxRecDepth 100000 in
theorem kc11_l00_l11 {i : Nat → Int32} {a : Nat → List Int32} {q : Nat → List Int64} {r : Nat → Nat} (hI : kI i a q) (hr : kr r)  : km 1 11 [.int 0, .int 1] (ks i a q r) (kPI (ks i a q r) (fun v => v.toInt = 0)) := by
  have hG := kG_self kW0 hI hr
  refine km_ofPI (q := (mi_h11, mi_c11)) rfl (by decide) (Nat.le_of_ble_eq_true rfl) ?_
  intro P hP
  first | refine ft_goL mi_k11 10 47 [(3, .int 0), (2, .int 0), (0, .int 0), (1, .int 1)] [.int 0] (by rfl) ?_ | refine ft_go mi_k11 10 47 [(3, .int 0), (2, .int 0), (0, .int 0), (1, .int 1)] [.int 0] i a q r (by rfl) ?_
  exact ft_ret mi_k11 (by rfl) (hP 0 (oz236 kn0))
def w14_94_l11_K0 : kW := ([6019], [96], [], [])
set_option maxRecDepth 100000 in
theorem kc14_94_l11_K0 {i : Nat → Int32} {a : Nat → List Int32} {q : Nat → List Int64} {r : Nat → Nat} (hI : kI i a q) (hr : kr r) (x1 : Int32) (x3 : Int32) (x4 : Int32) (hp0 : ((0 : Int) ≤ x1.toInt) ∧ (x1.toInt ≤ 49)) (hp1 : ((a 95).getD x1.toNatClampNeg 0).toInt = 0) (hp2 : ((0 : Int) ≤ x4.toInt) ∧ ((x4.toInt + 1) ≤ 39)) (hp3 : ((0 : Int) ≤ (i 6019).toInt) ∧ (((i 6019).toInt + 1) ≤ 900)) : km 5 14 [.ref 94, .int x1, .int 1, .int x3, .int x4] (ks i a q r) (kVI w14_94_l11_K0 i a q r (fun v i1 a1 q1 r1 => (i1 6019).toInt = ((i 6019).toInt + 1))) := by
  have hG := kG_self w14_94_l11_K0 hI hr
  refine km_ofI (q := (mi_h14, mi_c14)) rfl (by decide) (Nat.le_of_ble_eq_true rfl) ?_
  intro P hP
  have r1 : ((0 : Int) ≤ ((a 95).getD x1.toNatClampNeg 0).toInt) ∧ (((a 95).getD x1.toNatClampNeg 0).toInt ≤ 7) := hG.I.2.2.1 95 (x1.toNatClampNeg)
  have fi_6019 : ((0 : Int) ≤ (i 6019).toInt) ∧ ((i 6019).toInt ≤ 1000) := hG.I.1 6019
  first | refine fo_goL mi_k14 fz14_0_3_5 [(0, .ref 94), (1, .int x1), (2, .int 1), (3, .int x3), (4, .int x4)] [.int x1, .ref 95] (by rfl) ?_ | refine ft_go mi_k14 3 5 [(0, .ref 94), (1, .int x1), (2, .int 1), (3, .int x3), (4, .int x4)] [.int x1, .ref 95] i a q r (by rfl) ?_
  refine ko_iald3 mi_k14.1 (n := 50) (c := 50) (ax := (0, 0, 0, 0, 0)) (mi_k14.2 _ _ (by rfl)) (by rfl) (ksG95 _ _ _ _) (hG.I.2.1 95) rfl (oz3 hp0.1) (oz1336 hp0.2) ?_
  refine ko_top (kj_eq (oz1337 hp1 r1.1) (by decide) : ((a 95).getD x1.toNatClampNeg 0) = 0) ?_
  first | refine ft_goL mi_k14 9 48 [(5, .int 0), (0, .ref 94), (1, .int x1), (2, .int 1), (3, .int x3), (4, .int x4)] [.int x4, .int x3, .int 0, .int 0, .int x1, .ref 94] (by rfl) ?_ | refine ft_go mi_k14 9 48 [(5, .int 0), (0, .ref 94), (1, .int x1), (2, .int 1), (3, .int x3), (4, .int x4)] [.int x4, .int x3, .int 0, .int 0, .int x1, .ref 94] i a q r (by rfl) ?_
  refine ko_callI mi_k14.1 (pc := 48) (ls := [(5, .int 0), (0, .ref 94), (1, .int x1), (2, .int 1), (3, .int x3), (4, .int x4)]) (st := [.int x4, .int x3, .int 0, .int 0, .int x1, .ref 94]) (h := ks i a q r) (i := (.invokevirtual 35, 3, 13, 0, 9, 0, 297)) (mi_k14.2 _ _ (by rfl)) (ft_invS mi_pq13 (by rfl)) (cy := mi_c13) mi_pq13 rfl (kc13_94_l10_l20_K0 hG.I hG.R x1 x3 x4 (oz1339 hp0.1 hp0.2) (oz1337 hp1 r1.1) (oz1353 hp2.1 hp2.2) (oz1354 fi_6019.1 hp3.2)) (by decide) ?_
  intro vg2 ig2 ag2 qg2 rg2 kg2 hg2
  have hGg2 := kG_call hG kg2 (by decide +kernel)
  have z3 : (ig2 6019).toInt = ((i 6019).toInt + 1) := hg2
  have b4 : ((-2147483648 : Int) ≤ vg2.toInt) ∧ (vg2.toInt ≤ 2147483647) := kd_bd vg2
  first | refine fo_goS mi_k14 fz14_51_2_53 [.int (vg2 * 2)] (by rfl) ?_ | refine ft_go mi_k14 2 53 [(5, .int 0), (0, .ref 94), (1, .int x1), (2, .int 1), (3, .int x3), (4, .int x4)] [.int (vg2 * 2)] ig2 ag2 qg2 rg2 (by rfl) ?_
  exact ft_ret mi_k14 (by rfl) (hP (vg2 * 2) _ _ _ _ hGg2 (oz1355 z3))
def w13_94_l10_l21_K0 : kW := ([6019], [96], [], [])
set_option maxRecDepth 100000 in
theorem kc13_94_l10_l21_K0 {i : Nat → Int32} {a : Nat → List Int32} {q : Nat → List Int64} {r : Nat → Nat} (hI : kI i a q) (hr : kr r) (x1 : Int32) (x4 : Int32) (x5 : Int32) (hp0 : ((0 : Int) ≤ x1.toInt) ∧ (x1.toInt ≤ 49)) (hp1 : ((a 95).getD x1.toNatClampNeg 0).toInt = 0) (hp2 : ((0 : Int) ≤ x5.toInt) ∧ ((x5.toInt + 2) ≤ 39)) (hp3 : ((0 : Int) ≤ (i 6019).toInt) ∧ (((i 6019).toInt + 2) ≤ 900)) : km 7 13 [.ref 94, .int x1, .int 0, .int 1, .int x4, .int x5] (ks i a q r) (kVI w13_94_l10_l21_K0 i a q r (fun v i1 a1 q1 r1 => (i1 6019).toInt = ((i 6019).toInt + 2))) := by
  have hG := kG_self w13_94_l10_l21_K0 hI hr
  refine km_ofI (q := (mi_h13, mi_c13)) rfl (by decide) (Nat.le_of_ble_eq_true rfl) ?_
  intro P hP
  have r1 : ((0 : Int) ≤ ((a 95).getD x1.toNatClampNeg 0).toInt) ∧ (((a 95).getD x1.toNatClampNeg 0).toInt ≤ 7) := hG.I.2.2.1 95 (x1.toNatClampNeg)
  have fi_6019 : ((0 : Int) ≤ (i 6019).toInt) ∧ ((i 6019).toInt ≤ 1000) := hG.I.1 6019
  first | refine fo_goL mi_k13 fz13_0_2_4 [(0, .ref 94), (1, .int x1), (2, .int 0), (3, .int 1), (4, .int x4), (5, .int x5)] [.int 40, .int x5] (by rfl) ?_ | refine ft_go mi_k13 2 4 [(0, .ref 94), (1, .int x1), (2, .int 0), (3, .int 1), (4, .int x4), (5, .int x5)] [.int 40, .int x5] i a q r (by rfl) ?_
  refine ft_ifS mi_k13 (decide (x5 < 40)) 9 7 [] (by rfl) (fun c => ?_) (fun c => ?_)
  ·
    have c2 : x5.toInt < (40 : Int32).toInt := kd_lt c; clear c
    first | refine fo_goS mi_k13 fz13_9_2_11 [.int 1, .int 0] (by rfl) ?_ | refine ft_go mi_k13 2 11 [(0, .ref 94), (1, .int x1), (2, .int 0), (3, .int 1), (4, .int x4), (5, .int x5)] [.int 1, .int 0] i a q r (by rfl) ?_
    refine ko_callPI mi_k13.1 (pc := 11) (ls := [(0, .ref 94), (1, .int x1), (2, .int 0), (3, .int 1), (4, .int x4), (5, .int x5)]) (st := [.int 1, .int 0]) (h := ks i a q r) (i := (.invokestatic 39, 3, 11, 0, 9, 0, 298)) (mi_k13.2 _ _ (by rfl)) (ft_invS mi_pq11 (by rfl)) (cy := mi_c11) mi_pq11 rfl (kc11_l00_l11 hG.I hG.R ) (by decide) ?_
    intro vg3 hg3
    have z4 : vg3.toInt = 0 := hg3
    have evvg3 := kj_eq (oz236 z4) (by decide : (0 : Int32).toInt = 0)
    subst evvg3
    first | refine ft_goL mi_k13 5 23 [(6, .int 0), (0, .ref 94), (1, .int x1), (2, .int 0), (3, .int 1), (4, .int x4), (5, .int x5)] [.int (0 * 4), .ref (mi_RO + 3)] (by rfl) ?_ | refine ft_go mi_k13 5 23 [(6, .int 0), (0, .ref 94), (1, .int x1), (2, .int 0), (3, .int 1), (4, .int x4), (5, .int x5)] [.int (0 * 4), .ref (mi_RO + 3)] i a q r (by rfl) ?_
    refine ko_top (by decide : (0 * 4 : Int32) = 0) ?_
    first | refine fo_goS mi_k13 fz13_23_2_25 [.int (0 + 1), .ref (mi_RO + 3)] (by rfl) ?_ | refine ft_go mi_k13 2 25 [(6, .int 0), (0, .ref 94), (1, .int x1), (2, .int 0), (3, .int 1), (4, .int x4), (5, .int x5)] [.int (0 + 1), .ref (mi_RO + 3)] i a q r (by rfl) ?_
    refine ko_top (by decide : (0 + 1 : Int32) = 1) ?_
    refine ft_ro mi_k13 (w := 10) (by decide +kernel) (by decide +kernel) ?_
    first | refine fo_goL mi_k13 fz13_26_4_34 [(7, .int 10), (6, .int 0), (0, .ref 94), (1, .int x1), (2, .int 0), (3, .int 1), (4, .int x4), (5, .int x5)] [.int 24, .int (i 6019)] (by rfl) ?_ | refine ft_go mi_k13 4 34 [(7, .int 10), (6, .int 0), (0, .ref 94), (1, .int x1), (2, .int 0), (3, .int 1), (4, .int x4), (5, .int x5)] [.int 24, .int (i 6019)] i a q r (by rfl) ?_
    refine ft_ifS mi_k13 (decide (24 ≤ (i 6019))) 48 37 [] (by rfl) (fun c => ?_) (fun c => ?_)
    ·
      have c6 : (24 : Int32).toInt ≤ (i 6019).toInt := kd_le c; clear c
      have s7 : ((i 6019) + 1).toInt = (i 6019).toInt + (1 : Int32).toInt := kd_add (oz1332 c6 kn24 kn1) (oz951 fi_6019.2 kn1)
      have hJ8 := kG_i hG 6019 rfl (v := ((i 6019) + 1)) ⟨(oz1333 c6 s7 kn24 kn1), (oz1351 hp3.2 s7 kn1)⟩
      have s9 : (x5 + 1).toInt = x5.toInt + (1 : Int32).toInt := kd_add (oz12 hp2.1 kn1) (oz1352 hp2.2 kn1)
      first | refine fo_goI mi_k13 fz13_48_15_72 [.int (x5 + 1), .int x4, .int 1, .int x1, .ref 94] (ku i 6019 ((i 6019) + 1)) (by rfl) ?_ | refine ft_go mi_k13 15 72 [(7, .int 10), (6, .int 0), (0, .ref 94), (1, .int x1), (2, .int 0), (3, .int 1), (4, .int x4), (5, .int x5)] [.int (x5 + 1), .int x4, .int 1, .int x1, .ref 94] (ku i 6019 ((i 6019) + 1)) a q r (by rfl) ?_
      refine ko_callI mi_k13.1 (pc := 72) (ls := [(7, .int 10), (6, .int 0), (0, .ref 94), (1, .int x1), (2, .int 0), (3, .int 1), (4, .int x4), (5, .int x5)]) (st := [.int (x5 + 1), .int x4, .int 1, .int x1, .ref 94]) (h := ks (ku i 6019 ((i 6019) + 1)) a q r) (i := (.invokevirtual 43, 3, 14, 0, 9, 0, 301)) (mi_k13.2 _ _ (by rfl)) (ft_invS mi_pq14 (by rfl)) (cy := mi_c14) mi_pq14 rfl (kc14_94_l11_K0 hJ8.I hJ8.R x1 x4 (x5 + 1) (oz1339 hp0.1 hp0.2) (oz1337 hp1 r1.1) (oz1356 hp2.1 hp2.2 s9 kn1) (oz1357 c6 hp3.2 s7 kn24 kn1)) (by decide) ?_
      intro vg10 ig10 ag10 qg10 rg10 kg10 hg10
      have hGg10 := kG_call hJ8 kg10 (by decide +kernel)
      have z11 : (ig10 6019).toInt = (((i 6019) + 1).toInt + 1) := hg10
      exact ft_ret mi_k13 (by rfl) (hP vg10 _ _ _ _ hGg10 (oz1358 s7 z11 kn1))
    ·
      have c12 : (i 6019).toInt < (24 : Int32).toInt := kd_leF c; clear c
      first | refine fo_goS mi_k13 fz13_37_5_47 [.int 10, .int (i 6019), .ref 96] (by rfl) ?_ | refine ft_go mi_k13 5 47 [(7, .int 10), (6, .int 0), (0, .ref 94), (1, .int x1), (2, .int 0), (3, .int 1), (4, .int x4), (5, .int x5)] [.int 10, .int (i 6019), .ref 96] i a q r (by rfl) ?_
      refine ko_iast3 mi_k13.1 (n := 24) (c := 24) (ax := (0, 0, 0, 0, 0)) (mi_k13.2 _ _ (by rfl)) (by rfl) (ksG96 _ _ _ _) (ksA96 _ _ _ _) (hG.I.2.1 96) rfl (oz3 fi_6019.1) (oz1343 c12 kn24) ?_
      intro a13 ea13 fa13
      have hJ13 := kG_a3 hG 96 rfl ea13 fa13 (kd_bd _)
      have s14 : ((i 6019) + 1).toInt = (i 6019).toInt + (1 : Int32).toInt := kd_add (oz12 fi_6019.1 kn1) (oz951 fi_6019.2 kn1)
      have hJ15 := kG_i hJ13 6019 rfl (v := ((i 6019) + 1)) ⟨(oz14 fi_6019.1 s14 kn1), (oz1351 hp3.2 s14 kn1)⟩
      have s16 : (x5 + 1).toInt = x5.toInt + (1 : Int32).toInt := kd_add (oz12 hp2.1 kn1) (oz1352 hp2.2 kn1)
      first | refine fo_goI mi_k13 fz13_48_15_72 [.int (x5 + 1), .int x4, .int 1, .int x1, .ref 94] (ku i 6019 ((i 6019) + 1)) (by rfl) ?_ | refine ft_go mi_k13 15 72 [(7, .int 10), (6, .int 0), (0, .ref 94), (1, .int x1), (2, .int 0), (3, .int 1), (4, .int x4), (5, .int x5)] [.int (x5 + 1), .int x4, .int 1, .int x1, .ref 94] (ku i 6019 ((i 6019) + 1)) a13 q r (by rfl) ?_
      have r17 : ((0 : Int) ≤ ((a13 95).getD x1.toNatClampNeg 0).toInt) ∧ (((a13 95).getD x1.toNatClampNeg 0).toInt ≤ 7) := hJ15.I.2.2.1 95 (x1.toNatClampNeg)
      have u18 : ((a13 95).getD x1.toNatClampNeg 0).toInt = ((a 95).getD x1.toNatClampNeg 0).toInt := congrArg (fun z : List Int32 => (z.getD x1.toNatClampNeg 0).toInt) (fa13 95 (by decide))
      refine ko_callI mi_k13.1 (pc := 72) (ls := [(7, .int 10), (6, .int 0), (0, .ref 94), (1, .int x1), (2, .int 0), (3, .int 1), (4, .int x4), (5, .int x5)]) (st := [.int (x5 + 1), .int x4, .int 1, .int x1, .ref 94]) (h := ks (ku i 6019 ((i 6019) + 1)) a13 q r) (i := (.invokevirtual 43, 3, 14, 0, 9, 0, 301)) (mi_k13.2 _ _ (by rfl)) (ft_invS mi_pq14 (by rfl)) (cy := mi_c14) mi_pq14 rfl (kc14_94_l11_K0 hJ15.I hJ15.R x1 x4 (x5 + 1) (oz1339 hp0.1 hp0.2) (oz1344 hp1 r17.1 u18) (oz1356 hp2.1 hp2.2 s16 kn1) (oz1359 fi_6019.1 hp3.2 s14 kn1)) (by decide) ?_
      intro vg19 ig19 ag19 qg19 rg19 kg19 hg19
      have hGg19 := kG_call hJ15 kg19 (by decide +kernel)
      have z20 : (ig19 6019).toInt = (((i 6019) + 1).toInt + 1) := hg19
      exact ft_ret mi_k13 (by rfl) (hP vg19 _ _ _ _ hGg19 (oz1358 s14 z20 kn1))
  ·
    have c21 : (40 : Int32).toInt ≤ x5.toInt := kd_ltF c; clear c
    exact (oz1360 c21 hp2.2 kn40).elim
set_option maxRecDepth 100000 in
theorem kc11_l00_l12 {i : Nat → Int32} {a : Nat → List Int32} {q : Nat → List Int64} {r : Nat → Nat} (hI : kI i a q) (hr : kr r)  : km 1 11 [.int 0, .int 2] (ks i a q r) (kPI (ks i a q r) (fun v => v.toInt = 0)) := by
  have hG := kG_self kW0 hI hr
  refine km_ofPI (q := (mi_h11, mi_c11)) rfl (by decide) (Nat.le_of_ble_eq_true rfl) ?_
  intro P hP
  first | refine ft_goL mi_k11 10 47 [(3, .int 0), (2, .int 0), (0, .int 0), (1, .int 2)] [.int 0] (by rfl) ?_ | refine ft_go mi_k11 10 47 [(3, .int 0), (2, .int 0), (0, .int 0), (1, .int 2)] [.int 0] i a q r (by rfl) ?_
  exact ft_ret mi_k11 (by rfl) (hP 0 (oz236 kn0))
def w14_94_l12_K0 : kW := ([], [], [], [])
set_option maxRecDepth 100000 in
theorem kc14_94_l12_K0 {i : Nat → Int32} {a : Nat → List Int32} {q : Nat → List Int64} {r : Nat → Nat} (hI : kI i a q) (hr : kr r) (x1 : Int32) (x3 : Int32) (x4 : Int32) (hp0 : ((0 : Int) ≤ x1.toInt) ∧ (x1.toInt ≤ 49)) (hp1 : ((a 95).getD x1.toNatClampNeg 0).toInt = 0) (hp2 : ((0 : Int) ≤ x4.toInt) ∧ ((x4.toInt + 0) ≤ 39)) (hp3 : ((0 : Int) ≤ (i 6019).toInt) ∧ (((i 6019).toInt + 0) ≤ 900)) : km 1 14 [.ref 94, .int x1, .int 2, .int x3, .int x4] (ks i a q r) (kVI w14_94_l12_K0 i a q r (fun v i1 a1 q1 r1 => (i1 6019).toInt = ((i 6019).toInt + 0))) := by
  have hG := kG_self w14_94_l12_K0 hI hr
  refine km_ofI (q := (mi_h14, mi_c14)) rfl (by decide) (Nat.le_of_ble_eq_true rfl) ?_
  intro P hP
  have r1 : ((0 : Int) ≤ ((a 95).getD x1.toNatClampNeg 0).toInt) ∧ (((a 95).getD x1.toNatClampNeg 0).toInt ≤ 7) := hG.I.2.2.1 95 (x1.toNatClampNeg)
  first | refine fo_goL mi_k14 fz14_0_3_5 [(0, .ref 94), (1, .int x1), (2, .int 2), (3, .int x3), (4, .int x4)] [.int x1, .ref 95] (by rfl) ?_ | refine ft_go mi_k14 3 5 [(0, .ref 94), (1, .int x1), (2, .int 2), (3, .int x3), (4, .int x4)] [.int x1, .ref 95] i a q r (by rfl) ?_
  refine ko_iald3 mi_k14.1 (n := 50) (c := 50) (ax := (0, 0, 0, 0, 0)) (mi_k14.2 _ _ (by rfl)) (by rfl) (ksG95 _ _ _ _) (hG.I.2.1 95) rfl (oz3 hp0.1) (oz1336 hp0.2) ?_
  refine ko_top (kj_eq (oz1337 hp1 r1.1) (by decide) : ((a 95).getD x1.toNatClampNeg 0) = 0) ?_
  first | refine ft_goL mi_k14 6 57 [(5, .int 0), (0, .ref 94), (1, .int x1), (2, .int 2), (3, .int x3), (4, .int x4)] [.int (x3 ^^^ x1)] (by rfl) ?_ | refine ft_go mi_k14 6 57 [(5, .int 0), (0, .ref 94), (1, .int x1), (2, .int 2), (3, .int x3), (4, .int x4)] [.int (x3 ^^^ x1)] i a q r (by rfl) ?_
  exact ft_ret mi_k14 (by rfl) (hP (x3 ^^^ x1) _ _ _ _ hG oz1338)
def w13_94_l10_l22_K0 : kW := ([6019], [96], [], [])
set_option maxRecDepth 100000 in
theorem kc13_94_l10_l22_K0 {i : Nat → Int32} {a : Nat → List Int32} {q : Nat → List Int64} {r : Nat → Nat} (hI : kI i a q) (hr : kr r) (x1 : Int32) (x4 : Int32) (x5 : Int32) (hp0 : ((0 : Int) ≤ x1.toInt) ∧ (x1.toInt ≤ 49)) (hp1 : ((a 95).getD x1.toNatClampNeg 0).toInt = 0) (hp2 : ((0 : Int) ≤ x5.toInt) ∧ ((x5.toInt + 1) ≤ 39)) (hp3 : ((0 : Int) ≤ (i 6019).toInt) ∧ (((i 6019).toInt + 1) ≤ 900)) : km 3 13 [.ref 94, .int x1, .int 0, .int 2, .int x4, .int x5] (ks i a q r) (kVI w13_94_l10_l22_K0 i a q r (fun v i1 a1 q1 r1 => (i1 6019).toInt = ((i 6019).toInt + 1))) := by
  have hG := kG_self w13_94_l10_l22_K0 hI hr
  refine km_ofI (q := (mi_h13, mi_c13)) rfl (by decide) (Nat.le_of_ble_eq_true rfl) ?_
  intro P hP
  have r1 : ((0 : Int) ≤ ((a 95).getD x1.toNatClampNeg 0).toInt) ∧ (((a 95).getD x1.toNatClampNeg 0).toInt ≤ 7) := hG.I.2.2.1 95 (x1.toNatClampNeg)
  have fi_6019 : ((0 : Int) ≤ (i 6019).toInt) ∧ ((i 6019).toInt ≤ 1000) := hG.I.1 6019
  first | refine fo_goL mi_k13 fz13_0_2_4 [(0, .ref 94), (1, .int x1), (2, .int 0), (3, .int 2), (4, .int x4), (5, .int x5)] [.int 40, .int x5] (by rfl) ?_ | refine ft_go mi_k13 2 4 [(0, .ref 94), (1, .int x1), (2, .int 0), (3, .int 2), (4, .int x4), (5, .int x5)] [.int 40, .int x5] i a q r (by rfl) ?_
  refine ft_ifS mi_k13 (decide (x5 < 40)) 9 7 [] (by rfl) (fun c => ?_) (fun c => ?_)
  ·
    have c2 : x5.toInt < (40 : Int32).toInt := kd_lt c; clear c
    first | refine fo_goS mi_k13 fz13_9_2_11 [.int 2, .int 0] (by rfl) ?_ | refine ft_go mi_k13 2 11 [(0, .ref 94), (1, .int x1), (2, .int 0), (3, .int 2), (4, .int x4), (5, .int x5)] [.int 2, .int 0] i a q r (by rfl) ?_
    refine ko_callPI mi_k13.1 (pc := 11) (ls := [(0, .ref 94), (1, .int x1), (2, .int 0), (3, .int 2), (4, .int x4), (5, .int x5)]) (st := [.int 2, .int 0]) (h := ks i a q r) (i := (.invokestatic 39, 3, 11, 0, 9, 0, 298)) (mi_k13.2 _ _ (by rfl)) (ft_invS mi_pq11 (by rfl)) (cy := mi_c11) mi_pq11 rfl (kc11_l00_l12 hG.I hG.R ) (by decide) ?_
    intro vg3 hg3
    have z4 : vg3.toInt = 0 := hg3
    have evvg3 := kj_eq (oz236 z4) (by decide : (0 : Int32).toInt = 0)
    subst evvg3
    first | refine ft_goL mi_k13 5 23 [(6, .int 0), (0, .ref 94), (1, .int x1), (2, .int 0), (3, .int 2), (4, .int x4), (5, .int x5)] [.int (0 * 4), .ref (mi_RO + 3)] (by rfl) ?_ | refine ft_go mi_k13 5 23 [(6, .int 0), (0, .ref 94), (1, .int x1), (2, .int 0), (3, .int 2), (4, .int x4), (5, .int x5)] [.int (0 * 4), .ref (mi_RO + 3)] i a q r (by rfl) ?_
    refine ko_top (by decide : (0 * 4 : Int32) = 0) ?_
    first | refine fo_goS mi_k13 fz13_23_2_25 [.int (0 + 2), .ref (mi_RO + 3)] (by rfl) ?_ | refine ft_go mi_k13 2 25 [(6, .int 0), (0, .ref 94), (1, .int x1), (2, .int 0), (3, .int 2), (4, .int x4), (5, .int x5)] [.int (0 + 2), .ref (mi_RO + 3)] i a q r (by rfl) ?_
    refine ko_top (by decide : (0 + 2 : Int32) = 2) ?_
    refine ft_ro mi_k13 (w := 11) (by decide +kernel) (by decide +kernel) ?_
    first | refine fo_goL mi_k13 fz13_26_4_34 [(7, .int 11), (6, .int 0), (0, .ref 94), (1, .int x1), (2, .int 0), (3, .int 2), (4, .int x4), (5, .int x5)] [.int 24, .int (i 6019)] (by rfl) ?_ | refine ft_go mi_k13 4 34 [(7, .int 11), (6, .int 0), (0, .ref 94), (1, .int x1), (2, .int 0), (3, .int 2), (4, .int x4), (5, .int x5)] [.int 24, .int (i 6019)] i a q r (by rfl) ?_
    refine ft_ifS mi_k13 (decide (24 ≤ (i 6019))) 48 37 [] (by rfl) (fun c => ?_) (fun c => ?_)
    ·
      have c6 : (24 : Int32).toInt ≤ (i 6019).toInt := kd_le c; clear c
      have s7 : ((i 6019) + 1).toInt = (i 6019).toInt + (1 : Int32).toInt := kd_add (oz1332 c6 kn24 kn1) (oz951 fi_6019.2 kn1)
      have hJ8 := kG_i hG 6019 rfl (v := ((i 6019) + 1)) ⟨(oz1333 c6 s7 kn24 kn1), (oz1334 hp3.2 s7 kn1)⟩
      have s9 : (x5 + 1).toInt = x5.toInt + (1 : Int32).toInt := kd_add (oz12 hp2.1 kn1) (oz1335 hp2.2 kn1)
      first | refine fo_goI mi_k13 fz13_48_15_72 [.int (x5 + 1), .int x4, .int 2, .int x1, .ref 94] (ku i 6019 ((i 6019) + 1)) (by rfl) ?_ | refine ft_go mi_k13 15 72 [(7, .int 11), (6, .int 0), (0, .ref 94), (1, .int x1), (2, .int 0), (3, .int 2), (4, .int x4), (5, .int x5)] [.int (x5 + 1), .int x4, .int 2, .int x1, .ref 94] (ku i 6019 ((i 6019) + 1)) a q r (by rfl) ?_
      refine ko_callI mi_k13.1 (pc := 72) (ls := [(7, .int 11), (6, .int 0), (0, .ref 94), (1, .int x1), (2, .int 0), (3, .int 2), (4, .int x4), (5, .int x5)]) (st := [.int (x5 + 1), .int x4, .int 2, .int x1, .ref 94]) (h := ks (ku i 6019 ((i 6019) + 1)) a q r) (i := (.invokevirtual 43, 3, 14, 0, 9, 0, 301)) (mi_k13.2 _ _ (by rfl)) (ft_invS mi_pq14 (by rfl)) (cy := mi_c14) mi_pq14 rfl (kc14_94_l12_K0 hJ8.I hJ8.R x1 x4 (x5 + 1) (oz1339 hp0.1 hp0.2) (oz1337 hp1 r1.1) (oz1340 hp2.1 hp2.2 s9 kn1) (oz1341 c6 hp3.2 s7 kn24 kn1)) (by decide) ?_
      intro vg10 ig10 ag10 qg10 rg10 kg10 hg10
      have hGg10 := kG_call hJ8 kg10 (by decide +kernel)
      have efig10_6019 : (ig10 6019).toInt = ((i 6019) + 1).toInt := kg10.ti 6019 rfl
      exact ft_ret mi_k13 (by rfl) (hP vg10 _ _ _ _ hGg10 (oz1342 efig10_6019 s7 kn1))
    ·
      have c12 : (i 6019).toInt < (24 : Int32).toInt := kd_leF c; clear c
      first | refine fo_goS mi_k13 fz13_37_5_47 [.int 11, .int (i 6019), .ref 96] (by rfl) ?_ | refine ft_go mi_k13 5 47 [(7, .int 11), (6, .int 0), (0, .ref 94), (1, .int x1), (2, .int 0), (3, .int 2), (4, .int x4), (5, .int x5)] [.int 11, .int (i 6019), .ref 96] i a q r (by rfl) ?_
      refine ko_iast3 mi_k13.1 (n := 24) (c := 24) (ax := (0, 0, 0, 0, 0)) (mi_k13.2 _ _ (by rfl)) (by rfl) (ksG96 _ _ _ _) (ksA96 _ _ _ _) (hG.I.2.1 96) rfl (oz3 fi_6019.1) (oz1343 c12 kn24) ?_
      intro a13 ea13 fa13
      have hJ13 := kG_a3 hG 96 rfl ea13 fa13 (kd_bd _)
      have s14 : ((i 6019) + 1).toInt = (i 6019).toInt + (1 : Int32).toInt := kd_add (oz12 fi_6019.1 kn1) (oz951 fi_6019.2 kn1)
      have hJ15 := kG_i hJ13 6019 rfl (v := ((i 6019) + 1)) ⟨(oz14 fi_6019.1 s14 kn1), (oz1334 hp3.2 s14 kn1)⟩
      have s16 : (x5 + 1).toInt = x5.toInt + (1 : Int32).toInt := kd_add (oz12 hp2.1 kn1) (oz1335 hp2.2 kn1)
      first | refine fo_goI mi_k13 fz13_48_15_72 [.int (x5 + 1), .int x4, .int 2, .int x1, .ref 94] (ku i 6019 ((i 6019) + 1)) (by rfl) ?_ | refine ft_go mi_k13 15 72 [(7, .int 11), (6, .int 0), (0, .ref 94), (1, .int x1), (2, .int 0), (3, .int 2), (4, .int x4), (5, .int x5)] [.int (x5 + 1), .int x4, .int 2, .int x1, .ref 94] (ku i 6019 ((i 6019) + 1)) a13 q r (by rfl) ?_
      have r17 : ((0 : Int) ≤ ((a13 95).getD x1.toNatClampNeg 0).toInt) ∧ (((a13 95).getD x1.toNatClampNeg 0).toInt ≤ 7) := hJ15.I.2.2.1 95 (x1.toNatClampNeg)
      have u18 : ((a13 95).getD x1.toNatClampNeg 0).toInt = ((a 95).getD x1.toNatClampNeg 0).toInt := congrArg (fun z : List Int32 => (z.getD x1.toNatClampNeg 0).toInt) (fa13 95 (by decide))
      refine ko_callI mi_k13.1 (pc := 72) (ls := [(7, .int 11), (6, .int 0), (0, .ref 94), (1, .int x1), (2, .int 0), (3, .int 2), (4, .int x4), (5, .int x5)]) (st := [.int (x5 + 1), .int x4, .int 2, .int x1, .ref 94]) (h := ks (ku i 6019 ((i 6019) + 1)) a13 q r) (i := (.invokevirtual 43, 3, 14, 0, 9, 0, 301)) (mi_k13.2 _ _ (by rfl)) (ft_invS mi_pq14 (by rfl)) (cy := mi_c14) mi_pq14 rfl (kc14_94_l12_K0 hJ15.I hJ15.R x1 x4 (x5 + 1) (oz1339 hp0.1 hp0.2) (oz1344 hp1 r17.1 u18) (oz1340 hp2.1 hp2.2 s16 kn1) (oz1345 fi_6019.1 hp3.2 s14 kn1)) (by decide) ?_
      intro vg19 ig19 ag19 qg19 rg19 kg19 hg19
      have hGg19 := kG_call hJ15 kg19 (by decide +kernel)
      have efig19_6019 : (ig19 6019).toInt = ((i 6019) + 1).toInt := kg19.ti 6019 rfl
      exact ft_ret mi_k13 (by rfl) (hP vg19 _ _ _ _ hGg19 (oz1342 efig19_6019 s14 kn1))
  ·
    have c21 : (40 : Int32).toInt ≤ x5.toInt := kd_ltF c; clear c
    exact (oz1346 c21 hp2.2 kn40).elim
set_option maxRecDepth 100000 in
theorem kc11_l00_l13 {i : Nat → Int32} {a : Nat → List Int32} {q : Nat → List Int64} {r : Nat → Nat} (hI : kI i a q) (hr : kr r)  : km 1 11 [.int 0, .int 3] (ks i a q r) (kPI (ks i a q r) (fun v => v.toInt = 0)) := by
  have hG := kG_self kW0 hI hr
  refine km_ofPI (q := (mi_h11, mi_c11)) rfl (by decide) (Nat.le_of_ble_eq_true rfl) ?_
  intro P hP
  first | refine ft_goL mi_k11 10 47 [(3, .int 0), (2, .int 0), (0, .int 0), (1, .int 3)] [.int 0] (by rfl) ?_ | refine ft_go mi_k11 10 47 [(3, .int 0), (2, .int 0), (0, .int 0), (1, .int 3)] [.int 0] i a q r (by rfl) ?_
  exact ft_ret mi_k11 (by rfl) (hP 0 (oz236 kn0))
def w14_94_l13_K0 : kW := ([6019], [96], [], [])
set_option maxRecDepth 100000 in
theorem kc14_94_l13_K0 {i : Nat → Int32} {a : Nat → List Int32} {q : Nat → List Int64} {r : Nat → Nat} (hI : kI i a q) (hr : kr r) (x1 : Int32) (x3 : Int32) (x4 : Int32) (hp0 : ((0 : Int) ≤ x1.toInt) ∧ (x1.toInt ≤ 49)) (hp1 : ((a 95).getD x1.toNatClampNeg 0).toInt = 0) (hp2 : ((0 : Int) ≤ x4.toInt) ∧ ((x4.toInt + 2) ≤ 39)) (hp3 : ((0 : Int) ≤ (i 6019).toInt) ∧ (((i 6019).toInt + 3) ≤ 900)) : km 9 14 [.ref 94, .int x1, .int 3, .int x3, .int x4] (ks i a q r) (kVI w14_94_l13_K0 i a q r (fun v i1 a1 q1 r1 => (i1 6019).toInt = ((i 6019).toInt + 3))) := by
  have hG := kG_self w14_94_l13_K0 hI hr
  refine km_ofI (q := (mi_h14, mi_c14)) rfl (by decide) (Nat.le_of_ble_eq_true rfl) ?_
  intro P hP
  have r1 : ((0 : Int) ≤ ((a 95).getD x1.toNatClampNeg 0).toInt) ∧ (((a 95).getD x1.toNatClampNeg 0).toInt ≤ 7) := hG.I.2.2.1 95 (x1.toNatClampNeg)
  have fi_6019 : ((0 : Int) ≤ (i 6019).toInt) ∧ ((i 6019).toInt ≤ 1000) := hG.I.1 6019
  first | refine fo_goL mi_k14 fz14_0_3_5 [(0, .ref 94), (1, .int x1), (2, .int 3), (3, .int x3), (4, .int x4)] [.int x1, .ref 95] (by rfl) ?_ | refine ft_go mi_k14 3 5 [(0, .ref 94), (1, .int x1), (2, .int 3), (3, .int x3), (4, .int x4)] [.int x1, .ref 95] i a q r (by rfl) ?_
  refine ko_iald3 mi_k14.1 (n := 50) (c := 50) (ax := (0, 0, 0, 0, 0)) (mi_k14.2 _ _ (by rfl)) (by rfl) (ksG95 _ _ _ _) (hG.I.2.1 95) rfl (oz3 hp0.1) (oz1336 hp0.2) ?_
  refine ko_top (kj_eq (oz1337 hp1 r1.1) (by decide) : ((a 95).getD x1.toNatClampNeg 0) = 0) ?_
  first | refine ft_goL mi_k14 9 66 [(5, .int 0), (0, .ref 94), (1, .int x1), (2, .int 3), (3, .int x3), (4, .int x4)] [.int x4, .int x3, .int 1, .int 0, .int x1, .ref 94] (by rfl) ?_ | refine ft_go mi_k14 9 66 [(5, .int 0), (0, .ref 94), (1, .int x1), (2, .int 3), (3, .int x3), (4, .int x4)] [.int x4, .int x3, .int 1, .int 0, .int x1, .ref 94] i a q r (by rfl) ?_
  refine ko_callI mi_k14.1 (pc := 66) (ls := [(5, .int 0), (0, .ref 94), (1, .int x1), (2, .int 3), (3, .int x3), (4, .int x4)]) (st := [.int x4, .int x3, .int 1, .int 0, .int x1, .ref 94]) (h := ks i a q r) (i := (.invokevirtual 35, 3, 13, 0, 9, 0, 297)) (mi_k14.2 _ _ (by rfl)) (ft_invS mi_pq13 (by rfl)) (cy := mi_c13) mi_pq13 rfl (kc13_94_l10_l21_K0 hG.I hG.R x1 x3 x4 (oz1339 hp0.1 hp0.2) (oz1337 hp1 r1.1) (oz1367 hp2.1 hp2.2) (oz1368 fi_6019.1 hp3.2)) (by decide) ?_
  intro vg2 ig2 ag2 qg2 rg2 kg2 hg2
  have hGg2 := kG_call hG kg2 (by decide +kernel)
  have fig2_6019 : ((0 : Int) ≤ (ig2 6019).toInt) ∧ ((ig2 6019).toInt ≤ 1000) := hGg2.I.1 6019
  have z3 : (ig2 6019).toInt = ((i 6019).toInt + 2) := hg2
  first | refine fo_goL mi_k14 fz14_69_8_81 [(6, .int vg2), (5, .int 0), (0, .ref 94), (1, .int x1), (2, .int 3), (3, .int x3), (4, .int x4)] [.int x4, .int 1, .int 2, .int 0, .int x1, .ref 94, .int vg2] (by rfl) ?_ | refine ft_go mi_k14 8 81 [(6, .int vg2), (5, .int 0), (0, .ref 94), (1, .int x1), (2, .int 3), (3, .int x3), (4, .int x4)] [.int x4, .int 1, .int 2, .int 0, .int x1, .ref 94, .int vg2] ig2 ag2 qg2 rg2 (by rfl) ?_
  have r4 : ((0 : Int) ≤ ((ag2 95).getD x1.toNatClampNeg 0).toInt) ∧ (((ag2 95).getD x1.toNatClampNeg 0).toInt ≤ 7) := hGg2.I.2.2.1 95 (x1.toNatClampNeg)
  have u5 : ((ag2 95).getD x1.toNatClampNeg 0).toInt = ((a 95).getD x1.toNatClampNeg 0).toInt := congrArg (fun z : List Int32 => (z.getD x1.toNatClampNeg 0).toInt) (kg2.fa 95 rfl)
  refine ko_callI mi_k14.1 (pc := 81) (ls := [(6, .int vg2), (5, .int 0), (0, .ref 94), (1, .int x1), (2, .int 3), (3, .int x3), (4, .int x4)]) (st := [.int x4, .int 1, .int 2, .int 0, .int x1, .ref 94, .int vg2]) (h := ks ig2 ag2 qg2 rg2) (i := (.invokevirtual 35, 3, 13, 0, 9, 0, 297)) (mi_k14.2 _ _ (by rfl)) (ft_invS mi_pq13 (by rfl)) (cy := mi_c13) mi_pq13 rfl (kc13_94_l10_l22_K0 hGg2.I hGg2.R x1 1 x4 (oz1339 hp0.1 hp0.2) (oz1344 hp1 r4.1 u5) (oz1369 hp2.1 hp2.2) (oz1370 fig2_6019.1 hp3.2 z3)) (by decide) ?_
  intro vg6 ig6 ag6 qg6 rg6 kg6 hg6
  have hGg6 := kG_call hGg2 kg6 (by decide +kernel)
  have z7 : (ig6 6019).toInt = ((ig2 6019).toInt + 1) := hg6
  have b8 : ((-2147483648 : Int) ≤ vg2.toInt) ∧ (vg2.toInt ≤ 2147483647) := kd_bd vg2
  have b9 : ((-2147483648 : Int) ≤ vg6.toInt) ∧ (vg6.toInt ≤ 2147483647) := kd_bd vg6
  first | refine fo_goS mi_k14 fz14_84_1_85 [.int (vg2 - vg6)] (by rfl) ?_ | refine ft_go mi_k14 1 85 [(6, .int vg2), (5, .int 0), (0, .ref 94), (1, .int x1), (2, .int 3), (3, .int x3), (4, .int x4)] [.int (vg2 - vg6)] ig6 ag6 qg6 rg6 (by rfl) ?_
  exact ft_ret mi_k14 (by rfl) (hP (vg2 - vg6) _ _ _ _ hGg6 (oz1371 z3 z7))
def w13_94_l10_l23_K0 : kW := ([6019], [96], [], [])
set_option maxRecDepth 100000 in
theorem kc13_94_l10_l23_K0 {i : Nat → Int32} {a : Nat → List Int32} {q : Nat → List Int64} {r : Nat → Nat} (hI : kI i a q) (hr : kr r) (x1 : Int32) (x4 : Int32) (x5 : Int32) (hp0 : ((0 : Int) ≤ x1.toInt) ∧ (x1.toInt ≤ 49)) (hp1 : ((a 95).getD x1.toNatClampNeg 0).toInt = 0) (hp2 : ((0 : Int) ≤ x5.toInt) ∧ ((x5.toInt + 3) ≤ 39)) (hp3 : ((0 : Int) ≤ (i 6019).toInt) ∧ (((i 6019).toInt + 4) ≤ 900)) : km 11 13 [.ref 94, .int x1, .int 0, .int 3, .int x4, .int x5] (ks i a q r) (kVI w13_94_l10_l23_K0 i a q r (fun v i1 a1 q1 r1 => (i1 6019).toInt = ((i 6019).toInt + 4))) := by
  have hG := kG_self w13_94_l10_l23_K0 hI hr
  refine km_ofI (q := (mi_h13, mi_c13)) rfl (by decide) (Nat.le_of_ble_eq_true rfl) ?_
  intro P hP
  have r1 : ((0 : Int) ≤ ((a 95).getD x1.toNatClampNeg 0).toInt) ∧ (((a 95).getD x1.toNatClampNeg 0).toInt ≤ 7) := hG.I.2.2.1 95 (x1.toNatClampNeg)
  have fi_6019 : ((0 : Int) ≤ (i 6019).toInt) ∧ ((i 6019).toInt ≤ 1000) := hG.I.1 6019
  first | refine fo_goL mi_k13 fz13_0_2_4 [(0, .ref 94), (1, .int x1), (2, .int 0), (3, .int 3), (4, .int x4), (5, .int x5)] [.int 40, .int x5] (by rfl) ?_ | refine ft_go mi_k13 2 4 [(0, .ref 94), (1, .int x1), (2, .int 0), (3, .int 3), (4, .int x4), (5, .int x5)] [.int 40, .int x5] i a q r (by rfl) ?_
  refine ft_ifS mi_k13 (decide (x5 < 40)) 9 7 [] (by rfl) (fun c => ?_) (fun c => ?_)
  ·
    have c2 : x5.toInt < (40 : Int32).toInt := kd_lt c; clear c
    first | refine fo_goS mi_k13 fz13_9_2_11 [.int 3, .int 0] (by rfl) ?_ | refine ft_go mi_k13 2 11 [(0, .ref 94), (1, .int x1), (2, .int 0), (3, .int 3), (4, .int x4), (5, .int x5)] [.int 3, .int 0] i a q r (by rfl) ?_
    refine ko_callPI mi_k13.1 (pc := 11) (ls := [(0, .ref 94), (1, .int x1), (2, .int 0), (3, .int 3), (4, .int x4), (5, .int x5)]) (st := [.int 3, .int 0]) (h := ks i a q r) (i := (.invokestatic 39, 3, 11, 0, 9, 0, 298)) (mi_k13.2 _ _ (by rfl)) (ft_invS mi_pq11 (by rfl)) (cy := mi_c11) mi_pq11 rfl (kc11_l00_l13 hG.I hG.R ) (by decide) ?_
    intro vg3 hg3
    have z4 : vg3.toInt = 0 := hg3
    have evvg3 := kj_eq (oz236 z4) (by decide : (0 : Int32).toInt = 0)
    subst evvg3
    first | refine ft_goL mi_k13 5 23 [(6, .int 0), (0, .ref 94), (1, .int x1), (2, .int 0), (3, .int 3), (4, .int x4), (5, .int x5)] [.int (0 * 4), .ref (mi_RO + 3)] (by rfl) ?_ | refine ft_go mi_k13 5 23 [(6, .int 0), (0, .ref 94), (1, .int x1), (2, .int 0), (3, .int 3), (4, .int x4), (5, .int x5)] [.int (0 * 4), .ref (mi_RO + 3)] i a q r (by rfl) ?_
    refine ko_top (by decide : (0 * 4 : Int32) = 0) ?_
    first | refine fo_goS mi_k13 fz13_23_2_25 [.int (0 + 3), .ref (mi_RO + 3)] (by rfl) ?_ | refine ft_go mi_k13 2 25 [(6, .int 0), (0, .ref 94), (1, .int x1), (2, .int 0), (3, .int 3), (4, .int x4), (5, .int x5)] [.int (0 + 3), .ref (mi_RO + 3)] i a q r (by rfl) ?_
    refine ko_top (by decide : (0 + 3 : Int32) = 3) ?_
    refine ft_ro mi_k13 (w := 2) (by decide +kernel) (by decide +kernel) ?_
    first | refine fo_goL mi_k13 fz13_26_4_34 [(7, .int 2), (6, .int 0), (0, .ref 94), (1, .int x1), (2, .int 0), (3, .int 3), (4, .int x4), (5, .int x5)] [.int 24, .int (i 6019)] (by rfl) ?_ | refine ft_go mi_k13 4 34 [(7, .int 2), (6, .int 0), (0, .ref 94), (1, .int x1), (2, .int 0), (3, .int 3), (4, .int x4), (5, .int x5)] [.int 24, .int (i 6019)] i a q r (by rfl) ?_
    refine ft_ifS mi_k13 (decide (24 ≤ (i 6019))) 48 37 [] (by rfl) (fun c => ?_) (fun c => ?_)
    ·
      have c6 : (24 : Int32).toInt ≤ (i 6019).toInt := kd_le c; clear c
      have s7 : ((i 6019) + 1).toInt = (i 6019).toInt + (1 : Int32).toInt := kd_add (oz1332 c6 kn24 kn1) (oz951 fi_6019.2 kn1)
      have hJ8 := kG_i hG 6019 rfl (v := ((i 6019) + 1)) ⟨(oz1333 c6 s7 kn24 kn1), (oz1365 hp3.2 s7 kn1)⟩
      have s9 : (x5 + 1).toInt = x5.toInt + (1 : Int32).toInt := kd_add (oz12 hp2.1 kn1) (oz1366 hp2.2 kn1)
      first | refine fo_goI mi_k13 fz13_48_15_72 [.int (x5 + 1), .int x4, .int 3, .int x1, .ref 94] (ku i 6019 ((i 6019) + 1)) (by rfl) ?_ | refine ft_go mi_k13 15 72 [(7, .int 2), (6, .int 0), (0, .ref 94), (1, .int x1), (2, .int 0), (3, .int 3), (4, .int x4), (5, .int x5)] [.int (x5 + 1), .int x4, .int 3, .int x1, .ref 94] (ku i 6019 ((i 6019) + 1)) a q r (by rfl) ?_
      refine ko_callI mi_k13.1 (pc := 72) (ls := [(7, .int 2), (6, .int 0), (0, .ref 94), (1, .int x1), (2, .int 0), (3, .int 3), (4, .int x4), (5, .int x5)]) (st := [.int (x5 + 1), .int x4, .int 3, .int x1, .ref 94]) (h := ks (ku i 6019 ((i 6019) + 1)) a q r) (i := (.invokevirtual 43, 3, 14, 0, 9, 0, 301)) (mi_k13.2 _ _ (by rfl)) (ft_invS mi_pq14 (by rfl)) (cy := mi_c14) mi_pq14 rfl (kc14_94_l13_K0 hJ8.I hJ8.R x1 x4 (x5 + 1) (oz1339 hp0.1 hp0.2) (oz1337 hp1 r1.1) (oz1372 hp2.1 hp2.2 s9 kn1) (oz1373 c6 hp3.2 s7 kn24 kn1)) (by decide) ?_
      intro vg10 ig10 ag10 qg10 rg10 kg10 hg10
      have hGg10 := kG_call hJ8 kg10 (by decide +kernel)
      have z11 : (ig10 6019).toInt = (((i 6019) + 1).toInt + 3) := hg10
      exact ft_ret mi_k13 (by rfl) (hP vg10 _ _ _ _ hGg10 (oz1374 s7 z11 kn1))
    ·
      have c12 : (i 6019).toInt < (24 : Int32).toInt := kd_leF c; clear c
      first | refine fo_goS mi_k13 fz13_37_5_47 [.int 2, .int (i 6019), .ref 96] (by rfl) ?_ | refine ft_go mi_k13 5 47 [(7, .int 2), (6, .int 0), (0, .ref 94), (1, .int x1), (2, .int 0), (3, .int 3), (4, .int x4), (5, .int x5)] [.int 2, .int (i 6019), .ref 96] i a q r (by rfl) ?_
      refine ko_iast3 mi_k13.1 (n := 24) (c := 24) (ax := (0, 0, 0, 0, 0)) (mi_k13.2 _ _ (by rfl)) (by rfl) (ksG96 _ _ _ _) (ksA96 _ _ _ _) (hG.I.2.1 96) rfl (oz3 fi_6019.1) (oz1343 c12 kn24) ?_
      intro a13 ea13 fa13
      have hJ13 := kG_a3 hG 96 rfl ea13 fa13 (kd_bd _)
      have s14 : ((i 6019) + 1).toInt = (i 6019).toInt + (1 : Int32).toInt := kd_add (oz12 fi_6019.1 kn1) (oz951 fi_6019.2 kn1)
      have hJ15 := kG_i hJ13 6019 rfl (v := ((i 6019) + 1)) ⟨(oz14 fi_6019.1 s14 kn1), (oz1365 hp3.2 s14 kn1)⟩
      have s16 : (x5 + 1).toInt = x5.toInt + (1 : Int32).toInt := kd_add (oz12 hp2.1 kn1) (oz1366 hp2.2 kn1)
      first | refine fo_goI mi_k13 fz13_48_15_72 [.int (x5 + 1), .int x4, .int 3, .int x1, .ref 94] (ku i 6019 ((i 6019) + 1)) (by rfl) ?_ | refine ft_go mi_k13 15 72 [(7, .int 2), (6, .int 0), (0, .ref 94), (1, .int x1), (2, .int 0), (3, .int 3), (4, .int x4), (5, .int x5)] [.int (x5 + 1), .int x4, .int 3, .int x1, .ref 94] (ku i 6019 ((i 6019) + 1)) a13 q r (by rfl) ?_
      have r17 : ((0 : Int) ≤ ((a13 95).getD x1.toNatClampNeg 0).toInt) ∧ (((a13 95).getD x1.toNatClampNeg 0).toInt ≤ 7) := hJ15.I.2.2.1 95 (x1.toNatClampNeg)
      have u18 : ((a13 95).getD x1.toNatClampNeg 0).toInt = ((a 95).getD x1.toNatClampNeg 0).toInt := congrArg (fun z : List Int32 => (z.getD x1.toNatClampNeg 0).toInt) (fa13 95 (by decide))
      refine ko_callI mi_k13.1 (pc := 72) (ls := [(7, .int 2), (6, .int 0), (0, .ref 94), (1, .int x1), (2, .int 0), (3, .int 3), (4, .int x4), (5, .int x5)]) (st := [.int (x5 + 1), .int x4, .int 3, .int x1, .ref 94]) (h := ks (ku i 6019 ((i 6019) + 1)) a13 q r) (i := (.invokevirtual 43, 3, 14, 0, 9, 0, 301)) (mi_k13.2 _ _ (by rfl)) (ft_invS mi_pq14 (by rfl)) (cy := mi_c14) mi_pq14 rfl (kc14_94_l13_K0 hJ15.I hJ15.R x1 x4 (x5 + 1) (oz1339 hp0.1 hp0.2) (oz1344 hp1 r17.1 u18) (oz1372 hp2.1 hp2.2 s16 kn1) (oz1375 fi_6019.1 hp3.2 s14 kn1)) (by decide) ?_
      intro vg19 ig19 ag19 qg19 rg19 kg19 hg19
      have hGg19 := kG_call hJ15 kg19 (by decide +kernel)
      have z20 : (ig19 6019).toInt = (((i 6019) + 1).toInt + 3) := hg19
      exact ft_ret mi_k13 (by rfl) (hP vg19 _ _ _ _ hGg19 (oz1374 s14 z20 kn1))
  ·
    have c21 : (40 : Int32).toInt ≤ x5.toInt := kd_ltF c; clear c
    exact (oz1376 c21 hp2.2 kn40).elim
set_option maxRecDepth 100000 in
theorem kc11_l01_l10 {i : Nat → Int32} {a : Nat → List Int32} {q : Nat → List Int64} {r : Nat → Nat} (hI : kI i a q) (hr : kr r)  : km 1 11 [.int 1, .int 0] (ks i a q r) (kPI (ks i a q r) (fun v => v.toInt = 1)) := by
  have hG := kG_self kW0 hI hr
  refine km_ofPI (q := (mi_h11, mi_c11)) rfl (by decide) (Nat.le_of_ble_eq_true rfl) ?_
  intro P hP
  first | refine ft_goL mi_k11 16 26 [(3, .int 0), (2, .int 1), (0, .int 1), (1, .int 0)] [.int (1 * 4), .ref (mi_RO + 3)] (by rfl) ?_ | refine ft_go mi_k11 16 26 [(3, .int 0), (2, .int 1), (0, .int 1), (1, .int 0)] [.int (1 * 4), .ref (mi_RO + 3)] i a q r (by rfl) ?_
  refine ko_top (by decide : (1 * 4 : Int32) = 4) ?_
  first | refine fo_goS mi_k11 fz11_26_2_28 [.int (4 + 0), .ref (mi_RO + 3)] (by rfl) ?_ | refine ft_go mi_k11 2 28 [(3, .int 0), (2, .int 1), (0, .int 1), (1, .int 0)] [.int (4 + 0), .ref (mi_RO + 3)] i a q r (by rfl) ?_
  refine ko_top (by decide : (4 + 0 : Int32) = 4) ?_
  refine ft_ro mi_k11 (w := 20) (by decide +kernel) (by decide +kernel) ?_
  first | refine fo_goS mi_k11 fz11_29_2_33 [.int 1] (by rfl) ?_ | refine ft_go mi_k11 2 33 [(3, .int 0), (2, .int 1), (0, .int 1), (1, .int 0)] [.int 1] i a q r (by rfl) ?_
  exact ft_ret mi_k11 (by rfl) (hP 1 (oz1381 kn1))
def w14_94_l10_K1 : kW := ([], [], [], [])
set_option maxRecDepth 100000 in
theorem kc14_94_l10_K1 {i : Nat → Int32} {a : Nat → List Int32} {q : Nat → List Int64} {r : Nat → Nat} (hI : kI i a q) (hr : kr r) (x1 : Int32) (x3 : Int32) (x4 : Int32) (hp0 : ((0 : Int) ≤ x1.toInt) ∧ (x1.toInt ≤ 49)) (hp1 : ((a 95).getD x1.toNatClampNeg 0).toInt = 1) (hp2 : ((0 : Int) ≤ x4.toInt) ∧ ((x4.toInt + 0) ≤ 39)) (hp3 : ((0 : Int) ≤ (i 6019).toInt) ∧ (((i 6019).toInt + 0) ≤ 900)) : km 1 14 [.ref 94, .int x1, .int 0, .int x3, .int x4] (ks i a q r) (kVI w14_94_l10_K1 i a q r (fun v i1 a1 q1 r1 => (i1 6019).toInt = ((i 6019).toInt + 0))) := by
  have hG := kG_self w14_94_l10_K1 hI hr
  refine km_ofI (q := (mi_h14, mi_c14)) rfl (by decide) (Nat.le_of_ble_eq_true rfl) ?_
  intro P hP
  have r1 : ((0 : Int) ≤ ((a 95).getD x1.toNatClampNeg 0).toInt) ∧ (((a 95).getD x1.toNatClampNeg 0).toInt ≤ 7) := hG.I.2.2.1 95 (x1.toNatClampNeg)
  first | refine fo_goL mi_k14 fz14_0_3_5 [(0, .ref 94), (1, .int x1), (2, .int 0), (3, .int x3), (4, .int x4)] [.int x1, .ref 95] (by rfl) ?_ | refine ft_go mi_k14 3 5 [(0, .ref 94), (1, .int x1), (2, .int 0), (3, .int x3), (4, .int x4)] [.int x1, .ref 95] i a q r (by rfl) ?_
  refine ko_iald3 mi_k14.1 (n := 50) (c := 50) (ax := (0, 0, 0, 0, 0)) (mi_k14.2 _ _ (by rfl)) (by rfl) (ksG95 _ _ _ _) (hG.I.2.1 95) rfl (oz3 hp0.1) (oz1336 hp0.2) ?_
  refine ko_top (kj_eq (oz1381 hp1) (by decide) : ((a 95).getD x1.toNatClampNeg 0) = 1) ?_
  have b2 : ((-2147483648 : Int) ≤ x3.toInt) ∧ (x3.toInt ≤ 2147483647) := kd_bd x3
  have b3 : ((-2147483648 : Int) ≤ x1.toInt) ∧ (x1.toInt ≤ 2147483647) := kd_bd x1
  first | refine ft_goL mi_k14 6 39 [(5, .int 1), (0, .ref 94), (1, .int x1), (2, .int 0), (3, .int x3), (4, .int x4)] [.int (x3 + x1)] (by rfl) ?_ | refine ft_go mi_k14 6 39 [(5, .int 1), (0, .ref 94), (1, .int x1), (2, .int 0), (3, .int x3), (4, .int x4)] [.int (x3 + x1)] i a q r (by rfl) ?_
  exact ft_ret mi_k14 (by rfl) (hP (x3 + x1) _ _ _ _ hG oz1338)
def w13_94_l10_l20_K1 : kW := ([6019], [96], [], [])
set_option maxRecDepth 100000 in
theorem kc13_94_l10_l20_K1 {i : Nat → Int32} {a : Nat → List Int32} {q : Nat → List Int64} {r : Nat → Nat} (hI : kI i a q) (hr : kr r) (x1 : Int32) (x4 : Int32) (x5 : Int32) (hp0 : ((0 : Int) ≤ x1.toInt) ∧ (x1.toInt ≤ 49)) (hp1 : ((a 95).getD x1.toNatClampNeg 0).toInt = 1) (hp2 : ((0 : Int) ≤ x5.toInt) ∧ ((x5.toInt + 1) ≤ 39)) (hp3 : ((0 : Int) ≤ (i 6019).toInt) ∧ (((i 6019).toInt + 1) ≤ 900)) : km 3 13 [.ref 94, .int x1, .int 0, .int 0, .int x4, .int x5] (ks i a q r) (kVI w13_94_l10_l20_K1 i a q r (fun v i1 a1 q1 r1 => (i1 6019).toInt = ((i 6019).toInt + 1))) := by
  have hG := kG_self w13_94_l10_l20_K1 hI hr
  refine km_ofI (q := (mi_h13, mi_c13)) rfl (by decide) (Nat.le_of_ble_eq_true rfl) ?_
  intro P hP
  have r1 : ((0 : Int) ≤ ((a 95).getD x1.toNatClampNeg 0).toInt) ∧ (((a 95).getD x1.toNatClampNeg 0).toInt ≤ 7) := hG.I.2.2.1 95 (x1.toNatClampNeg)
  have fi_6019 : ((0 : Int) ≤ (i 6019).toInt) ∧ ((i 6019).toInt ≤ 1000) := hG.I.1 6019
  first | refine fo_goL mi_k13 fz13_0_2_4 [(0, .ref 94), (1, .int x1), (2, .int 0), (3, .int 0), (4, .int x4), (5, .int x5)] [.int 40, .int x5] (by rfl) ?_ | refine ft_go mi_k13 2 4 [(0, .ref 94), (1, .int x1), (2, .int 0), (3, .int 0), (4, .int x4), (5, .int x5)] [.int 40, .int x5] i a q r (by rfl) ?_
  refine ft_ifS mi_k13 (decide (x5 < 40)) 9 7 [] (by rfl) (fun c => ?_) (fun c => ?_)
  ·
    have c2 : x5.toInt < (40 : Int32).toInt := kd_lt c; clear c
    first | refine fo_goS mi_k13 fz13_9_2_11 [.int 0, .int 0] (by rfl) ?_ | refine ft_go mi_k13 2 11 [(0, .ref 94), (1, .int x1), (2, .int 0), (3, .int 0), (4, .int x4), (5, .int x5)] [.int 0, .int 0] i a q r (by rfl) ?_
    refine ko_callPI mi_k13.1 (pc := 11) (ls := [(0, .ref 94), (1, .int x1), (2, .int 0), (3, .int 0), (4, .int x4), (5, .int x5)]) (st := [.int 0, .int 0]) (h := ks i a q r) (i := (.invokestatic 39, 3, 11, 0, 9, 0, 298)) (mi_k13.2 _ _ (by rfl)) (ft_invS mi_pq11 (by rfl)) (cy := mi_c11) mi_pq11 rfl (kc11_l00_l10 hG.I hG.R ) (by decide) ?_
    intro vg3 hg3
    have z4 : vg3.toInt = 0 := hg3
    have evvg3 := kj_eq (oz236 z4) (by decide : (0 : Int32).toInt = 0)
    subst evvg3
    first | refine ft_goL mi_k13 5 23 [(6, .int 0), (0, .ref 94), (1, .int x1), (2, .int 0), (3, .int 0), (4, .int x4), (5, .int x5)] [.int (0 * 4), .ref (mi_RO + 3)] (by rfl) ?_ | refine ft_go mi_k13 5 23 [(6, .int 0), (0, .ref 94), (1, .int x1), (2, .int 0), (3, .int 0), (4, .int x4), (5, .int x5)] [.int (0 * 4), .ref (mi_RO + 3)] i a q r (by rfl) ?_
    refine ko_top (by decide : (0 * 4 : Int32) = 0) ?_
    first | refine fo_goS mi_k13 fz13_23_2_25 [.int (0 + 0), .ref (mi_RO + 3)] (by rfl) ?_ | refine ft_go mi_k13 2 25 [(6, .int 0), (0, .ref 94), (1, .int x1), (2, .int 0), (3, .int 0), (4, .int x4), (5, .int x5)] [.int (0 + 0), .ref (mi_RO + 3)] i a q r (by rfl) ?_
    refine ko_top (by decide : (0 + 0 : Int32) = 0) ?_
    refine ft_ro mi_k13 (w := 1) (by decide +kernel) (by decide +kernel) ?_
    first | refine fo_goL mi_k13 fz13_26_4_34 [(7, .int 1), (6, .int 0), (0, .ref 94), (1, .int x1), (2, .int 0), (3, .int 0), (4, .int x4), (5, .int x5)] [.int 24, .int (i 6019)] (by rfl) ?_ | refine ft_go mi_k13 4 34 [(7, .int 1), (6, .int 0), (0, .ref 94), (1, .int x1), (2, .int 0), (3, .int 0), (4, .int x4), (5, .int x5)] [.int 24, .int (i 6019)] i a q r (by rfl) ?_
    refine ft_ifS mi_k13 (decide (24 ≤ (i 6019))) 48 37 [] (by rfl) (fun c => ?_) (fun c => ?_)
    ·
      have c6 : (24 : Int32).toInt ≤ (i 6019).toInt := kd_le c; clear c
      have s7 : ((i 6019) + 1).toInt = (i 6019).toInt + (1 : Int32).toInt := kd_add (oz1332 c6 kn24 kn1) (oz951 fi_6019.2 kn1)
      have hJ8 := kG_i hG 6019 rfl (v := ((i 6019) + 1)) ⟨(oz1333 c6 s7 kn24 kn1), (oz1334 hp3.2 s7 kn1)⟩
      have s9 : (x5 + 1).toInt = x5.toInt + (1 : Int32).toInt := kd_add (oz12 hp2.1 kn1) (oz1335 hp2.2 kn1)
      first | refine fo_goI mi_k13 fz13_48_15_72 [.int (x5 + 1), .int x4, .int 0, .int x1, .ref 94] (ku i 6019 ((i 6019) + 1)) (by rfl) ?_ | refine ft_go mi_k13 15 72 [(7, .int 1), (6, .int 0), (0, .ref 94), (1, .int x1), (2, .int 0), (3, .int 0), (4, .int x4), (5, .int x5)] [.int (x5 + 1), .int x4, .int 0, .int x1, .ref 94] (ku i 6019 ((i 6019) + 1)) a q r (by rfl) ?_
      refine ko_callI mi_k13.1 (pc := 72) (ls := [(7, .int 1), (6, .int 0), (0, .ref 94), (1, .int x1), (2, .int 0), (3, .int 0), (4, .int x4), (5, .int x5)]) (st := [.int (x5 + 1), .int x4, .int 0, .int x1, .ref 94]) (h := ks (ku i 6019 ((i 6019) + 1)) a q r) (i := (.invokevirtual 43, 3, 14, 0, 9, 0, 301)) (mi_k13.2 _ _ (by rfl)) (ft_invS mi_pq14 (by rfl)) (cy := mi_c14) mi_pq14 rfl (kc14_94_l10_K1 hJ8.I hJ8.R x1 x4 (x5 + 1) (oz1339 hp0.1 hp0.2) (oz1381 hp1) (oz1340 hp2.1 hp2.2 s9 kn1) (oz1341 c6 hp3.2 s7 kn24 kn1)) (by decide) ?_
      intro vg10 ig10 ag10 qg10 rg10 kg10 hg10
      have hGg10 := kG_call hJ8 kg10 (by decide +kernel)
      have efig10_6019 : (ig10 6019).toInt = ((i 6019) + 1).toInt := kg10.ti 6019 rfl
      exact ft_ret mi_k13 (by rfl) (hP vg10 _ _ _ _ hGg10 (oz1342 efig10_6019 s7 kn1))
    ·
      have c12 : (i 6019).toInt < (24 : Int32).toInt := kd_leF c; clear c
      first | refine fo_goS mi_k13 fz13_37_5_47 [.int 1, .int (i 6019), .ref 96] (by rfl) ?_ | refine ft_go mi_k13 5 47 [(7, .int 1), (6, .int 0), (0, .ref 94), (1, .int x1), (2, .int 0), (3, .int 0), (4, .int x4), (5, .int x5)] [.int 1, .int (i 6019), .ref 96] i a q r (by rfl) ?_
      refine ko_iast3 mi_k13.1 (n := 24) (c := 24) (ax := (0, 0, 0, 0, 0)) (mi_k13.2 _ _ (by rfl)) (by rfl) (ksG96 _ _ _ _) (ksA96 _ _ _ _) (hG.I.2.1 96) rfl (oz3 fi_6019.1) (oz1343 c12 kn24) ?_
      intro a13 ea13 fa13
      have hJ13 := kG_a3 hG 96 rfl ea13 fa13 (kd_bd _)
      have s14 : ((i 6019) + 1).toInt = (i 6019).toInt + (1 : Int32).toInt := kd_add (oz12 fi_6019.1 kn1) (oz951 fi_6019.2 kn1)
      have hJ15 := kG_i hJ13 6019 rfl (v := ((i 6019) + 1)) ⟨(oz14 fi_6019.1 s14 kn1), (oz1334 hp3.2 s14 kn1)⟩
      have s16 : (x5 + 1).toInt = x5.toInt + (1 : Int32).toInt := kd_add (oz12 hp2.1 kn1) (oz1335 hp2.2 kn1)
      first | refine fo_goI mi_k13 fz13_48_15_72 [.int (x5 + 1), .int x4, .int 0, .int x1, .ref 94] (ku i 6019 ((i 6019) + 1)) (by rfl) ?_ | refine ft_go mi_k13 15 72 [(7, .int 1), (6, .int 0), (0, .ref 94), (1, .int x1), (2, .int 0), (3, .int 0), (4, .int x4), (5, .int x5)] [.int (x5 + 1), .int x4, .int 0, .int x1, .ref 94] (ku i 6019 ((i 6019) + 1)) a13 q r (by rfl) ?_
      have r17 : ((0 : Int) ≤ ((a13 95).getD x1.toNatClampNeg 0).toInt) ∧ (((a13 95).getD x1.toNatClampNeg 0).toInt ≤ 7) := hJ15.I.2.2.1 95 (x1.toNatClampNeg)
      have u18 : ((a13 95).getD x1.toNatClampNeg 0).toInt = ((a 95).getD x1.toNatClampNeg 0).toInt := congrArg (fun z : List Int32 => (z.getD x1.toNatClampNeg 0).toInt) (fa13 95 (by decide))
      refine ko_callI mi_k13.1 (pc := 72) (ls := [(7, .int 1), (6, .int 0), (0, .ref 94), (1, .int x1), (2, .int 0), (3, .int 0), (4, .int x4), (5, .int x5)]) (st := [.int (x5 + 1), .int x4, .int 0, .int x1, .ref 94]) (h := ks (ku i 6019 ((i 6019) + 1)) a13 q r) (i := (.invokevirtual 43, 3, 14, 0, 9, 0, 301)) (mi_k13.2 _ _ (by rfl)) (ft_invS mi_pq14 (by rfl)) (cy := mi_c14) mi_pq14 rfl (kc14_94_l10_K1 hJ15.I hJ15.R x1 x4 (x5 + 1) (oz1339 hp0.1 hp0.2) (oz1383 hp1 u18) (oz1340 hp2.1 hp2.2 s16 kn1) (oz1345 fi_6019.1 hp3.2 s14 kn1)) (by decide) ?_
      intro vg19 ig19 ag19 qg19 rg19 kg19 hg19
      have hGg19 := kG_call hJ15 kg19 (by decide +kernel)
      have efig19_6019 : (ig19 6019).toInt = ((i 6019) + 1).toInt := kg19.ti 6019 rfl
      exact ft_ret mi_k13 (by rfl) (hP vg19 _ _ _ _ hGg19 (oz1342 efig19_6019 s14 kn1))
  ·
    have c21 : (40 : Int32).toInt ≤ x5.toInt := kd_ltF c; clear c
    exact (oz1346 c21 hp2.2 kn40).elim
def w13_94_l11_l20_K1 : kW := ([6019], [96], [], [])
set_option maxRecDepth 100000 in
theorem kc13_94_l11_l20_K1 {i : Nat → Int32} {a : Nat → List Int32} {q : Nat → List Int64} {r : Nat → Nat} (hI : kI i a q) (hr : kr r) (x1 : Int32) (x4 : Int32) (x5 : Int32) (hp0 : ((0 : Int) ≤ x1.toInt) ∧ (x1.toInt ≤ 49)) (hp1 : ((a 95).getD x1.toNatClampNeg 0).toInt = 1) (hp2 : ((0 : Int) ≤ x5.toInt) ∧ ((x5.toInt + 2) ≤ 39)) (hp3 : ((0 : Int) ≤ (i 6019).toInt) ∧ (((i 6019).toInt + 2) ≤ 900)) : km 5 13 [.ref 94, .int x1, .int 1, .int 0, .int x4, .int x5] (ks i a q r) (kVI w13_94_l11_l20_K1 i a q r (fun v i1 a1 q1 r1 => (i1 6019).toInt = ((i 6019).toInt + 2))) := by
  have hG := kG_self w13_94_l11_l20_K1 hI hr
  refine km_ofI (q := (mi_h13, mi_c13)) rfl (by decide) (Nat.le_of_ble_eq_true rfl) ?_
  intro P hP
  have r1 : ((0 : Int) ≤ ((a 95).getD x1.toNatClampNeg 0).toInt) ∧ (((a 95).getD x1.toNatClampNeg 0).toInt ≤ 7) := hG.I.2.2.1 95 (x1.toNatClampNeg)
  have fi_6019 : ((0 : Int) ≤ (i 6019).toInt) ∧ ((i 6019).toInt ≤ 1000) := hG.I.1 6019
  first | refine fo_goL mi_k13 fz13_0_2_4 [(0, .ref 94), (1, .int x1), (2, .int 1), (3, .int 0), (4, .int x4), (5, .int x5)] [.int 40, .int x5] (by rfl) ?_ | refine ft_go mi_k13 2 4 [(0, .ref 94), (1, .int x1), (2, .int 1), (3, .int 0), (4, .int x4), (5, .int x5)] [.int 40, .int x5] i a q r (by rfl) ?_
  refine ft_ifS mi_k13 (decide (x5 < 40)) 9 7 [] (by rfl) (fun c => ?_) (fun c => ?_)
  ·
    have c2 : x5.toInt < (40 : Int32).toInt := kd_lt c; clear c
    first | refine fo_goS mi_k13 fz13_9_2_11 [.int 0, .int 1] (by rfl) ?_ | refine ft_go mi_k13 2 11 [(0, .ref 94), (1, .int x1), (2, .int 1), (3, .int 0), (4, .int x4), (5, .int x5)] [.int 0, .int 1] i a q r (by rfl) ?_
    refine ko_callPI mi_k13.1 (pc := 11) (ls := [(0, .ref 94), (1, .int x1), (2, .int 1), (3, .int 0), (4, .int x4), (5, .int x5)]) (st := [.int 0, .int 1]) (h := ks i a q r) (i := (.invokestatic 39, 3, 11, 0, 9, 0, 298)) (mi_k13.2 _ _ (by rfl)) (ft_invS mi_pq11 (by rfl)) (cy := mi_c11) mi_pq11 rfl (kc11_l01_l10 hG.I hG.R ) (by decide) ?_
    intro vg3 hg3
    have z4 : vg3.toInt = 1 := hg3
    have evvg3 := kj_eq (oz1381 z4) (by decide : (1 : Int32).toInt = 1)
    subst evvg3
    first | refine ft_goL mi_k13 5 23 [(6, .int 1), (0, .ref 94), (1, .int x1), (2, .int 1), (3, .int 0), (4, .int x4), (5, .int x5)] [.int (1 * 4), .ref (mi_RO + 3)] (by rfl) ?_ | refine ft_go mi_k13 5 23 [(6, .int 1), (0, .ref 94), (1, .int x1), (2, .int 1), (3, .int 0), (4, .int x4), (5, .int x5)] [.int (1 * 4), .ref (mi_RO + 3)] i a q r (by rfl) ?_
    refine ko_top (by decide : (1 * 4 : Int32) = 4) ?_
    first | refine fo_goS mi_k13 fz13_23_2_25 [.int (4 + 0), .ref (mi_RO + 3)] (by rfl) ?_ | refine ft_go mi_k13 2 25 [(6, .int 1), (0, .ref 94), (1, .int x1), (2, .int 1), (3, .int 0), (4, .int x4), (5, .int x5)] [.int (4 + 0), .ref (mi_RO + 3)] i a q r (by rfl) ?_
    refine ko_top (by decide : (4 + 0 : Int32) = 4) ?_
    refine ft_ro mi_k13 (w := 20) (by decide +kernel) (by decide +kernel) ?_
    first | refine fo_goL mi_k13 fz13_26_4_34 [(7, .int 20), (6, .int 1), (0, .ref 94), (1, .int x1), (2, .int 1), (3, .int 0), (4, .int x4), (5, .int x5)] [.int 24, .int (i 6019)] (by rfl) ?_ | refine ft_go mi_k13 4 34 [(7, .int 20), (6, .int 1), (0, .ref 94), (1, .int x1), (2, .int 1), (3, .int 0), (4, .int x4), (5, .int x5)] [.int 24, .int (i 6019)] i a q r (by rfl) ?_
    refine ft_ifS mi_k13 (decide (24 ≤ (i 6019))) 48 37 [] (by rfl) (fun c => ?_) (fun c => ?_)
    ·
      have c6 : (24 : Int32).toInt ≤ (i 6019).toInt := kd_le c; clear c
      have s7 : ((i 6019) + 1).toInt = (i 6019).toInt + (1 : Int32).toInt := kd_add (oz1332 c6 kn24 kn1) (oz951 fi_6019.2 kn1)
      have hJ8 := kG_i hG 6019 rfl (v := ((i 6019) + 1)) ⟨(oz1333 c6 s7 kn24 kn1), (oz1351 hp3.2 s7 kn1)⟩
      first | refine ft_goI mi_k13 12 83 [.int 1, .ref (mi_RO + 4), .int x1, .ref 94] (ku i 6019 ((i 6019) + 1)) (by rfl) ?_ | refine ft_go mi_k13 12 83 [(7, .int 20), (6, .int 1), (0, .ref 94), (1, .int x1), (2, .int 1), (3, .int 0), (4, .int x4), (5, .int x5)] [.int 1, .ref (mi_RO + 4), .int x1, .ref 94] (ku i 6019 ((i 6019) + 1)) a q r (by rfl) ?_
      refine ft_ro mi_k13 (w := 0) (by decide +kernel) (by decide +kernel) ?_
      have s10 : (x5 + 1).toInt = x5.toInt + (1 : Int32).toInt := kd_add (oz12 hp2.1 kn1) (oz1352 hp2.2 kn1)
      first | refine ft_goS mi_k13 8 105 [.int (x5 + 1), .int x4, .int 0, .int 0, .int x1, .ref 94] (by rfl) ?_ | refine ft_go mi_k13 8 105 [(7, .int 20), (6, .int 1), (0, .ref 94), (1, .int x1), (2, .int 1), (3, .int 0), (4, .int x4), (5, .int x5)] [.int (x5 + 1), .int x4, .int 0, .int 0, .int x1, .ref 94] (ku i 6019 ((i 6019) + 1)) a q r (by rfl) ?_
      refine ko_callI mi_k13.1 (pc := 105) (ls := [(7, .int 20), (6, .int 1), (0, .ref 94), (1, .int x1), (2, .int 1), (3, .int 0), (4, .int x4), (5, .int x5)]) (st := [.int (x5 + 1), .int x4, .int 0, .int 0, .int x1, .ref 94]) (h := ks (ku i 6019 ((i 6019) + 1)) a q r) (i := (.invokevirtual 35, 3, 13, 0, 9, 0, 297)) (mi_k13.2 _ _ (by rfl)) (ft_invS mi_pq13 (by rfl)) (cy := mi_c13) mi_pq13 rfl (kc13_94_l10_l20_K1 hJ8.I hJ8.R x1 x4 (x5 + 1) (oz1339 hp0.1 hp0.2) (oz1381 hp1) (oz1356 hp2.1 hp2.2 s10 kn1) (oz1357 c6 hp3.2 s7 kn24 kn1)) (by decide) ?_
      intro vg11 ig11 ag11 qg11 rg11 kg11 hg11
      have hGg11 := kG_call hJ8 kg11 (by decide +kernel)
      have z12 : (ig11 6019).toInt = (((i 6019) + 1).toInt + 1) := hg11
      have b13 : ((-2147483648 : Int) ≤ vg11.toInt) ∧ (vg11.toInt ≤ 2147483647) := kd_bd vg11
      first | refine ft_goL mi_k13 6 192 [(8, .int vg11), (7, .int 20), (6, .int 1), (0, .ref 94), (1, .int x1), (2, .int 1), (3, .int 0), (4, .int x4), (5, .int x5)] [.int (vg11 + 3)] (by rfl) ?_ | refine ft_go mi_k13 6 192 [(8, .int vg11), (7, .int 20), (6, .int 1), (0, .ref 94), (1, .int x1), (2, .int 1), (3, .int 0), (4, .int x4), (5, .int x5)] [.int (vg11 + 3)] ig11 ag11 qg11 rg11 (by rfl) ?_
      exact ft_ret mi_k13 (by rfl) (hP (vg11 + 3) _ _ _ _ hGg11 (oz1358 s7 z12 kn1))
    ·
      have c14 : (i 6019).toInt < (24 : Int32).toInt := kd_leF c; clear c
      first | refine fo_goS mi_k13 fz13_37_5_47 [.int 20, .int (i 6019), .ref 96] (by rfl) ?_ | refine ft_go mi_k13 5 47 [(7, .int 20), (6, .int 1), (0, .ref 94), (1, .int x1), (2, .int 1), (3, .int 0), (4, .int x4), (5, .int x5)] [.int 20, .int (i 6019), .ref 96] i a q r (by rfl) ?_
      refine ko_iast3 mi_k13.1 (n := 24) (c := 24) (ax := (0, 0, 0, 0, 0)) (mi_k13.2 _ _ (by rfl)) (by rfl) (ksG96 _ _ _ _) (ksA96 _ _ _ _) (hG.I.2.1 96) rfl (oz3 fi_6019.1) (oz1343 c14 kn24) ?_
      intro a15 ea15 fa15
      have hJ15 := kG_a3 hG 96 rfl ea15 fa15 (kd_bd _)
      have s16 : ((i 6019) + 1).toInt = (i 6019).toInt + (1 : Int32).toInt := kd_add (oz12 fi_6019.1 kn1) (oz951 fi_6019.2 kn1)
      have hJ17 := kG_i hJ15 6019 rfl (v := ((i 6019) + 1)) ⟨(oz14 fi_6019.1 s16 kn1), (oz1351 hp3.2 s16 kn1)⟩
      first | refine ft_goI mi_k13 12 83 [.int 1, .ref (mi_RO + 4), .int x1, .ref 94] (ku i 6019 ((i 6019) + 1)) (by rfl) ?_ | refine ft_go mi_k13 12 83 [(7, .int 20), (6, .int 1), (0, .ref 94), (1, .int x1), (2, .int 1), (3, .int 0), (4, .int x4), (5, .int x5)] [.int 1, .ref (mi_RO + 4), .int x1, .ref 94] (ku i 6019 ((i 6019) + 1)) a15 q r (by rfl) ?_
      refine ft_ro mi_k13 (w := 0) (by decide +kernel) (by decide +kernel) ?_
      have s19 : (x5 + 1).toInt = x5.toInt + (1 : Int32).toInt := kd_add (oz12 hp2.1 kn1) (oz1352 hp2.2 kn1)
      first | refine ft_goS mi_k13 8 105 [.int (x5 + 1), .int x4, .int 0, .int 0, .int x1, .ref 94] (by rfl) ?_ | refine ft_go mi_k13 8 105 [(7, .int 20), (6, .int 1), (0, .ref 94), (1, .int x1), (2, .int 1), (3, .int 0), (4, .int x4), (5, .int x5)] [.int (x5 + 1), .int x4, .int 0, .int 0, .int x1, .ref 94] (ku i 6019 ((i 6019) + 1)) a15 q r (by rfl) ?_
      have r20 : ((0 : Int) ≤ ((a15 95).getD x1.toNatClampNeg 0).toInt) ∧ (((a15 95).getD x1.toNatClampNeg 0).toInt ≤ 7) := hJ17.I.2.2.1 95 (x1.toNatClampNeg)
      have u21 : ((a15 95).getD x1.toNatClampNeg 0).toInt = ((a 95).getD x1.toNatClampNeg 0).toInt := congrArg (fun z : List Int32 => (z.getD x1.toNatClampNeg 0).toInt) (fa15 95 (by decide))
      refine ko_callI mi_k13.1 (pc := 105) (ls := [(7, .int 20), (6, .int 1), (0, .ref 94), (1, .int x1), (2, .int 1), (3, .int 0), (4, .int x4), (5, .int x5)]) (st := [.int (x5 + 1), .int x4, .int 0, .int 0, .int x1, .ref 94]) (h := ks (ku i 6019 ((i 6019) + 1)) a15 q r) (i := (.invokevirtual 35, 3, 13, 0, 9, 0, 297)) (mi_k13.2 _ _ (by rfl)) (ft_invS mi_pq13 (by rfl)) (cy := mi_c13) mi_pq13 rfl (kc13_94_l10_l20_K1 hJ17.I hJ17.R x1 x4 (x5 + 1) (oz1339 hp0.1 hp0.2) (oz1383 hp1 u21) (oz1356 hp2.1 hp2.2 s19 kn1) (oz1359 fi_6019.1 hp3.2 s16 kn1)) (by decide) ?_
      intro vg22 ig22 ag22 qg22 rg22 kg22 hg22
      have hGg22 := kG_call hJ17 kg22 (by decide +kernel)
      have z23 : (ig22 6019).toInt = (((i 6019) + 1).toInt + 1) := hg22
      have b24 : ((-2147483648 : Int) ≤ vg22.toInt) ∧ (vg22.toInt ≤ 2147483647) := kd_bd vg22
      first | refine ft_goL mi_k13 6 192 [(8, .int vg22), (7, .int 20), (6, .int 1), (0, .ref 94), (1, .int x1), (2, .int 1), (3, .int 0), (4, .int x4), (5, .int x5)] [.int (vg22 + 3)] (by rfl) ?_ | refine ft_go mi_k13 6 192 [(8, .int vg22), (7, .int 20), (6, .int 1), (0, .ref 94), (1, .int x1), (2, .int 1), (3, .int 0), (4, .int x4), (5, .int x5)] [.int (vg22 + 3)] ig22 ag22 qg22 rg22 (by rfl) ?_
      exact ft_ret mi_k13 (by rfl) (hP (vg22 + 3) _ _ _ _ hGg22 (oz1358 s16 z23 kn1))
  ·
    have c25 : (40 : Int32).toInt ≤ x5.toInt := kd_ltF c; clear c
    exact (oz1360 c25 hp2.2 kn40).elim
set_option maxRecDepth 100000 in
theorem kc11_l01_l11 {i : Nat → Int32} {a : Nat → List Int32} {q : Nat → List Int64} {r : Nat → Nat} (hI : kI i a q) (hr : kr r)  : km 1 11 [.int 1, .int 1] (ks i a q r) (kPI (ks i a q r) (fun v => v.toInt = 0)) := by
  have hG := kG_self kW0 hI hr
  refine km_ofPI (q := (mi_h11, mi_c11)) rfl (by decide) (Nat.le_of_ble_eq_true rfl) ?_
  intro P hP
  first | refine ft_goL mi_k11 16 26 [(3, .int 0), (2, .int 1), (0, .int 1), (1, .int 1)] [.int (1 * 4), .ref (mi_RO + 3)] (by rfl) ?_ | refine ft_go mi_k11 16 26 [(3, .int 0), (2, .int 1), (0, .int 1), (1, .int 1)] [.int (1 * 4), .ref (mi_RO + 3)] i a q r (by rfl) ?_
  refine ko_top (by decide : (1 * 4 : Int32) = 4) ?_
  first | refine fo_goS mi_k11 fz11_26_2_28 [.int (4 + 1), .ref (mi_RO + 3)] (by rfl) ?_ | refine ft_go mi_k11 2 28 [(3, .int 0), (2, .int 1), (0, .int 1), (1, .int 1)] [.int (4 + 1), .ref (mi_RO + 3)] i a q r (by rfl) ?_
  refine ko_top (by decide : (4 + 1 : Int32) = 5) ?_
  refine ft_ro mi_k11 (w := 0) (by decide +kernel) (by decide +kernel) ?_
  first | refine ft_goS mi_k11 3 38 [.int 1, .ref (mi_RO + 4)] (by rfl) ?_ | refine ft_go mi_k11 3 38 [(3, .int 0), (2, .int 1), (0, .int 1), (1, .int 1)] [.int 1, .ref (mi_RO + 4)] i a q r (by rfl) ?_
  refine ft_ro mi_k11 (w := 0) (by decide +kernel) (by decide +kernel) ?_
  first | refine fo_goL mi_k11 fz11_39_2_43 [(3, .int (0 + 1)), (2, .int 0), (0, .int 1), (1, .int 1)] [] (by rfl) ?_ | refine ft_go mi_k11 2 43 [(3, .int (0 + 1)), (2, .int 0), (0, .int 1), (1, .int 1)] [] i a q r (by rfl) ?_
  refine ko_loc (by decide : (0 + 1 : Int32) = 1) ?_
  first | refine ft_goL mi_k11 7 47 [(3, .int 1), (2, .int 0), (0, .int 1), (1, .int 1)] [.int 0] (by rfl) ?_ | refine ft_goS mi_k11 7 47 [.int 0] (by rfl) ?_ | refine ft_go mi_k11 7 47 [(3, .int 1), (2, .int 0), (0, .int 1), (1, .int 1)] [.int 0] i a q r (by rfl) ?_
  exact ft_ret mi_k11 (by rfl) (hP 0 (oz236 kn0))
def w14_94_l11_K1 : kW := ([6019], [96], [], [])
set_option maxRecDepth 100000 in
theorem kc14_94_l11_K1 {i : Nat → Int32} {a : Nat → List Int32} {q : Nat → List Int64} {r : Nat → Nat} (hI : kI i a q) (hr : kr r) (x1 : Int32) (x3 : Int32) (x4 : Int32) (hp0 : ((0 : Int) ≤ x1.toInt) ∧ (x1.toInt ≤ 49)) (hp1 : ((a 95).getD x1.toNatClampNeg 0).toInt = 1) (hp2 : ((0 : Int) ≤ x4.toInt) ∧ ((x4.toInt + 2) ≤ 39)) (hp3 : ((0 : Int) ≤ (i 6019).toInt) ∧ (((i 6019).toInt + 2) ≤ 900)) : km 7 14 [.ref 94, .int x1, .int 1, .int x3, .int x4] (ks i a q r) (kVI w14_94_l11_K1 i a q r (fun v i1 a1 q1 r1 => (i1 6019).toInt = ((i 6019).toInt + 2))) := by
  have hG := kG_self w14_94_l11_K1 hI hr
  refine km_ofI (q := (mi_h14, mi_c14)) rfl (by decide) (Nat.le_of_ble_eq_true rfl) ?_
  intro P hP
  have r1 : ((0 : Int) ≤ ((a 95).getD x1.toNatClampNeg 0).toInt) ∧ (((a 95).getD x1.toNatClampNeg 0).toInt ≤ 7) := hG.I.2.2.1 95 (x1.toNatClampNeg)
  have fi_6019 : ((0 : Int) ≤ (i 6019).toInt) ∧ ((i 6019).toInt ≤ 1000) := hG.I.1 6019
  first | refine fo_goL mi_k14 fz14_0_3_5 [(0, .ref 94), (1, .int x1), (2, .int 1), (3, .int x3), (4, .int x4)] [.int x1, .ref 95] (by rfl) ?_ | refine ft_go mi_k14 3 5 [(0, .ref 94), (1, .int x1), (2, .int 1), (3, .int x3), (4, .int x4)] [.int x1, .ref 95] i a q r (by rfl) ?_
  refine ko_iald3 mi_k14.1 (n := 50) (c := 50) (ax := (0, 0, 0, 0, 0)) (mi_k14.2 _ _ (by rfl)) (by rfl) (ksG95 _ _ _ _) (hG.I.2.1 95) rfl (oz3 hp0.1) (oz1336 hp0.2) ?_
  refine ko_top (kj_eq (oz1381 hp1) (by decide) : ((a 95).getD x1.toNatClampNeg 0) = 1) ?_
  first | refine ft_goL mi_k14 9 48 [(5, .int 1), (0, .ref 94), (1, .int x1), (2, .int 1), (3, .int x3), (4, .int x4)] [.int x4, .int x3, .int 0, .int 1, .int x1, .ref 94] (by rfl) ?_ | refine ft_go mi_k14 9 48 [(5, .int 1), (0, .ref 94), (1, .int x1), (2, .int 1), (3, .int x3), (4, .int x4)] [.int x4, .int x3, .int 0, .int 1, .int x1, .ref 94] i a q r (by rfl) ?_
  refine ko_callI mi_k14.1 (pc := 48) (ls := [(5, .int 1), (0, .ref 94), (1, .int x1), (2, .int 1), (3, .int x3), (4, .int x4)]) (st := [.int x4, .int x3, .int 0, .int 1, .int x1, .ref 94]) (h := ks i a q r) (i := (.invokevirtual 35, 3, 13, 0, 9, 0, 297)) (mi_k14.2 _ _ (by rfl)) (ft_invS mi_pq13 (by rfl)) (cy := mi_c13) mi_pq13 rfl (kc13_94_l11_l20_K1 hG.I hG.R x1 x3 x4 (oz1339 hp0.1 hp0.2) (oz1381 hp1) (oz1367 hp2.1 hp2.2) (oz1386 fi_6019.1 hp3.2)) (by decide) ?_
  intro vg2 ig2 ag2 qg2 rg2 kg2 hg2
  have hGg2 := kG_call hG kg2 (by decide +kernel)
  have z3 : (ig2 6019).toInt = ((i 6019).toInt + 2) := hg2
  have b4 : ((-2147483648 : Int) ≤ vg2.toInt) ∧ (vg2.toInt ≤ 2147483647) := kd_bd vg2
  first | refine fo_goS mi_k14 fz14_51_2_53 [.int (vg2 * 2)] (by rfl) ?_ | refine ft_go mi_k14 2 53 [(5, .int 1), (0, .ref 94), (1, .int x1), (2, .int 1), (3, .int x3), (4, .int x4)] [.int (vg2 * 2)] ig2 ag2 qg2 rg2 (by rfl) ?_
  exact ft_ret mi_k14 (by rfl) (hP (vg2 * 2) _ _ _ _ hGg2 (oz1387 z3))
def w13_94_l11_l21_K1 : kW := ([6019], [96], [], [])
set_option maxRecDepth 100000 in
theorem kc13_94_l11_l21_K1 {i : Nat → Int32} {a : Nat → List Int32} {q : Nat → List Int64} {r : Nat → Nat} (hI : kI i a q) (hr : kr r) (x1 : Int32) (x4 : Int32) (x5 : Int32) (hp0 : ((0 : Int) ≤ x1.toInt) ∧ (x1.toInt ≤ 49)) (hp1 : ((a 95).getD x1.toNatClampNeg 0).toInt = 1) (hp2 : ((0 : Int) ≤ x5.toInt) ∧ ((x5.toInt + 3) ≤ 39)) (hp3 : ((0 : Int) ≤ (i 6019).toInt) ∧ (((i 6019).toInt + 3) ≤ 900)) : km 9 13 [.ref 94, .int x1, .int 1, .int 1, .int x4, .int x5] (ks i a q r) (kVI w13_94_l11_l21_K1 i a q r (fun v i1 a1 q1 r1 => (i1 6019).toInt = ((i 6019).toInt + 3))) := by
  have hG := kG_self w13_94_l11_l21_K1 hI hr
  refine km_ofI (q := (mi_h13, mi_c13)) rfl (by decide) (Nat.le_of_ble_eq_true rfl) ?_
  intro P hP
  have r1 : ((0 : Int) ≤ ((a 95).getD x1.toNatClampNeg 0).toInt) ∧ (((a 95).getD x1.toNatClampNeg 0).toInt ≤ 7) := hG.I.2.2.1 95 (x1.toNatClampNeg)
  have fi_6019 : ((0 : Int) ≤ (i 6019).toInt) ∧ ((i 6019).toInt ≤ 1000) := hG.I.1 6019
  first | refine fo_goL mi_k13 fz13_0_2_4 [(0, .ref 94), (1, .int x1), (2, .int 1), (3, .int 1), (4, .int x4), (5, .int x5)] [.int 40, .int x5] (by rfl) ?_ | refine ft_go mi_k13 2 4 [(0, .ref 94), (1, .int x1), (2, .int 1), (3, .int 1), (4, .int x4), (5, .int x5)] [.int 40, .int x5] i a q r (by rfl) ?_
  refine ft_ifS mi_k13 (decide (x5 < 40)) 9 7 [] (by rfl) (fun c => ?_) (fun c => ?_)
  ·
    have c2 : x5.toInt < (40 : Int32).toInt := kd_lt c; clear c
    first | refine fo_goS mi_k13 fz13_9_2_11 [.int 1, .int 1] (by rfl) ?_ | refine ft_go mi_k13 2 11 [(0, .ref 94), (1, .int x1), (2, .int 1), (3, .int 1), (4, .int x4), (5, .int x5)] [.int 1, .int 1] i a q r (by rfl) ?_
    refine ko_callPI mi_k13.1 (pc := 11) (ls := [(0, .ref 94), (1, .int x1), (2, .int 1), (3, .int 1), (4, .int x4), (5, .int x5)]) (st := [.int 1, .int 1]) (h := ks i a q r) (i := (.invokestatic 39, 3, 11, 0, 9, 0, 298)) (mi_k13.2 _ _ (by rfl)) (ft_invS mi_pq11 (by rfl)) (cy := mi_c11) mi_pq11 rfl (kc11_l01_l11 hG.I hG.R ) (by decide) ?_
    intro vg3 hg3
    have z4 : vg3.toInt = 0 := hg3
    have evvg3 := kj_eq (oz236 z4) (by decide : (0 : Int32).toInt = 0)
    subst evvg3
    first | refine ft_goL mi_k13 5 23 [(6, .int 0), (0, .ref 94), (1, .int x1), (2, .int 1), (3, .int 1), (4, .int x4), (5, .int x5)] [.int (0 * 4), .ref (mi_RO + 3)] (by rfl) ?_ | refine ft_go mi_k13 5 23 [(6, .int 0), (0, .ref 94), (1, .int x1), (2, .int 1), (3, .int 1), (4, .int x4), (5, .int x5)] [.int (0 * 4), .ref (mi_RO + 3)] i a q r (by rfl) ?_
    refine ko_top (by decide : (0 * 4 : Int32) = 0) ?_
    first | refine fo_goS mi_k13 fz13_23_2_25 [.int (0 + 1), .ref (mi_RO + 3)] (by rfl) ?_ | refine ft_go mi_k13 2 25 [(6, .int 0), (0, .ref 94), (1, .int x1), (2, .int 1), (3, .int 1), (4, .int x4), (5, .int x5)] [.int (0 + 1), .ref (mi_RO + 3)] i a q r (by rfl) ?_
    refine ko_top (by decide : (0 + 1 : Int32) = 1) ?_
    refine ft_ro mi_k13 (w := 10) (by decide +kernel) (by decide +kernel) ?_
    first | refine fo_goL mi_k13 fz13_26_4_34 [(7, .int 10), (6, .int 0), (0, .ref 94), (1, .int x1), (2, .int 1), (3, .int 1), (4, .int x4), (5, .int x5)] [.int 24, .int (i 6019)] (by rfl) ?_ | refine ft_go mi_k13 4 34 [(7, .int 10), (6, .int 0), (0, .ref 94), (1, .int x1), (2, .int 1), (3, .int 1), (4, .int x4), (5, .int x5)] [.int 24, .int (i 6019)] i a q r (by rfl) ?_
    refine ft_ifS mi_k13 (decide (24 ≤ (i 6019))) 48 37 [] (by rfl) (fun c => ?_) (fun c => ?_)
    ·
      have c6 : (24 : Int32).toInt ≤ (i 6019).toInt := kd_le c; clear c
      have s7 : ((i 6019) + 1).toInt = (i 6019).toInt + (1 : Int32).toInt := kd_add (oz1332 c6 kn24 kn1) (oz951 fi_6019.2 kn1)
      have hJ8 := kG_i hG 6019 rfl (v := ((i 6019) + 1)) ⟨(oz1333 c6 s7 kn24 kn1), (oz1385 hp3.2 s7 kn1)⟩
      have s9 : (x5 + 1).toInt = x5.toInt + (1 : Int32).toInt := kd_add (oz12 hp2.1 kn1) (oz1366 hp2.2 kn1)
      first | refine fo_goI mi_k13 fz13_48_15_72 [.int (x5 + 1), .int x4, .int 1, .int x1, .ref 94] (ku i 6019 ((i 6019) + 1)) (by rfl) ?_ | refine ft_go mi_k13 15 72 [(7, .int 10), (6, .int 0), (0, .ref 94), (1, .int x1), (2, .int 1), (3, .int 1), (4, .int x4), (5, .int x5)] [.int (x5 + 1), .int x4, .int 1, .int x1, .ref 94] (ku i 6019 ((i 6019) + 1)) a q r (by rfl) ?_
      refine ko_callI mi_k13.1 (pc := 72) (ls := [(7, .int 10), (6, .int 0), (0, .ref 94), (1, .int x1), (2, .int 1), (3, .int 1), (4, .int x4), (5, .int x5)]) (st := [.int (x5 + 1), .int x4, .int 1, .int x1, .ref 94]) (h := ks (ku i 6019 ((i 6019) + 1)) a q r) (i := (.invokevirtual 43, 3, 14, 0, 9, 0, 301)) (mi_k13.2 _ _ (by rfl)) (ft_invS mi_pq14 (by rfl)) (cy := mi_c14) mi_pq14 rfl (kc14_94_l11_K1 hJ8.I hJ8.R x1 x4 (x5 + 1) (oz1339 hp0.1 hp0.2) (oz1381 hp1) (oz1372 hp2.1 hp2.2 s9 kn1) (oz1388 c6 hp3.2 s7 kn24 kn1)) (by decide) ?_
      intro vg10 ig10 ag10 qg10 rg10 kg10 hg10
      have hGg10 := kG_call hJ8 kg10 (by decide +kernel)
      have z11 : (ig10 6019).toInt = (((i 6019) + 1).toInt + 2) := hg10
      exact ft_ret mi_k13 (by rfl) (hP vg10 _ _ _ _ hGg10 (oz1389 s7 z11 kn1))
    ·
      have c12 : (i 6019).toInt < (24 : Int32).toInt := kd_leF c; clear c
      first | refine fo_goS mi_k13 fz13_37_5_47 [.int 10, .int (i 6019), .ref 96] (by rfl) ?_ | refine ft_go mi_k13 5 47 [(7, .int 10), (6, .int 0), (0, .ref 94), (1, .int x1), (2, .int 1), (3, .int 1), (4, .int x4), (5, .int x5)] [.int 10, .int (i 6019), .ref 96] i a q r (by rfl) ?_
      refine ko_iast3 mi_k13.1 (n := 24) (c := 24) (ax := (0, 0, 0, 0, 0)) (mi_k13.2 _ _ (by rfl)) (by rfl) (ksG96 _ _ _ _) (ksA96 _ _ _ _) (hG.I.2.1 96) rfl (oz3 fi_6019.1) (oz1343 c12 kn24) ?_
      intro a13 ea13 fa13
      have hJ13 := kG_a3 hG 96 rfl ea13 fa13 (kd_bd _)
      have s14 : ((i 6019) + 1).toInt = (i 6019).toInt + (1 : Int32).toInt := kd_add (oz12 fi_6019.1 kn1) (oz951 fi_6019.2 kn1)
      have hJ15 := kG_i hJ13 6019 rfl (v := ((i 6019) + 1)) ⟨(oz14 fi_6019.1 s14 kn1), (oz1385 hp3.2 s14 kn1)⟩
      have s16 : (x5 + 1).toInt = x5.toInt + (1 : Int32).toInt := kd_add (oz12 hp2.1 kn1) (oz1366 hp2.2 kn1)
      first | refine fo_goI mi_k13 fz13_48_15_72 [.int (x5 + 1), .int x4, .int 1, .int x1, .ref 94] (ku i 6019 ((i 6019) + 1)) (by rfl) ?_ | refine ft_go mi_k13 15 72 [(7, .int 10), (6, .int 0), (0, .ref 94), (1, .int x1), (2, .int 1), (3, .int 1), (4, .int x4), (5, .int x5)] [.int (x5 + 1), .int x4, .int 1, .int x1, .ref 94] (ku i 6019 ((i 6019) + 1)) a13 q r (by rfl) ?_
      have r17 : ((0 : Int) ≤ ((a13 95).getD x1.toNatClampNeg 0).toInt) ∧ (((a13 95).getD x1.toNatClampNeg 0).toInt ≤ 7) := hJ15.I.2.2.1 95 (x1.toNatClampNeg)
      have u18 : ((a13 95).getD x1.toNatClampNeg 0).toInt = ((a 95).getD x1.toNatClampNeg 0).toInt := congrArg (fun z : List Int32 => (z.getD x1.toNatClampNeg 0).toInt) (fa13 95 (by decide))
      refine ko_callI mi_k13.1 (pc := 72) (ls := [(7, .int 10), (6, .int 0), (0, .ref 94), (1, .int x1), (2, .int 1), (3, .int 1), (4, .int x4), (5, .int x5)]) (st := [.int (x5 + 1), .int x4, .int 1, .int x1, .ref 94]) (h := ks (ku i 6019 ((i 6019) + 1)) a13 q r) (i := (.invokevirtual 43, 3, 14, 0, 9, 0, 301)) (mi_k13.2 _ _ (by rfl)) (ft_invS mi_pq14 (by rfl)) (cy := mi_c14) mi_pq14 rfl (kc14_94_l11_K1 hJ15.I hJ15.R x1 x4 (x5 + 1) (oz1339 hp0.1 hp0.2) (oz1383 hp1 u18) (oz1372 hp2.1 hp2.2 s16 kn1) (oz1390 fi_6019.1 hp3.2 s14 kn1)) (by decide) ?_
      intro vg19 ig19 ag19 qg19 rg19 kg19 hg19
      have hGg19 := kG_call hJ15 kg19 (by decide +kernel)
      have z20 : (ig19 6019).toInt = (((i 6019) + 1).toInt + 2) := hg19
      exact ft_ret mi_k13 (by rfl) (hP vg19 _ _ _ _ hGg19 (oz1389 s14 z20 kn1))
  ·
    have c21 : (40 : Int32).toInt ≤ x5.toInt := kd_ltF c; clear c
    exact (oz1376 c21 hp2.2 kn40).elim
set_option maxRecDepth 100000 in
theorem kc11_l01_l12 {i : Nat → Int32} {a : Nat → List Int32} {q : Nat → List Int64} {r : Nat → Nat} (hI : kI i a q) (hr : kr r)  : km 1 11 [.int 1, .int 2] (ks i a q r) (kPI (ks i a q r) (fun v => v.toInt = 0)) := by
  have hG := kG_self kW0 hI hr
  refine km_ofPI (q := (mi_h11, mi_c11)) rfl (by decide) (Nat.le_of_ble_eq_true rfl) ?_
  intro P hP
  first | refine ft_goL mi_k11 16 26 [(3, .int 0), (2, .int 1), (0, .int 1), (1, .int 2)] [.int (1 * 4), .ref (mi_RO + 3)] (by rfl) ?_ | refine ft_go mi_k11 16 26 [(3, .int 0), (2, .int 1), (0, .int 1), (1, .int 2)] [.int (1 * 4), .ref (mi_RO + 3)] i a q r (by rfl) ?_
  refine ko_top (by decide : (1 * 4 : Int32) = 4) ?_
  first | refine fo_goS mi_k11 fz11_26_2_28 [.int (4 + 2), .ref (mi_RO + 3)] (by rfl) ?_ | refine ft_go mi_k11 2 28 [(3, .int 0), (2, .int 1), (0, .int 1), (1, .int 2)] [.int (4 + 2), .ref (mi_RO + 3)] i a q r (by rfl) ?_
  refine ko_top (by decide : (4 + 2 : Int32) = 6) ?_
  refine ft_ro mi_k11 (w := 0) (by decide +kernel) (by decide +kernel) ?_
  first | refine ft_goS mi_k11 3 38 [.int 1, .ref (mi_RO + 4)] (by rfl) ?_ | refine ft_go mi_k11 3 38 [(3, .int 0), (2, .int 1), (0, .int 1), (1, .int 2)] [.int 1, .ref (mi_RO + 4)] i a q r (by rfl) ?_
  refine ft_ro mi_k11 (w := 0) (by decide +kernel) (by decide +kernel) ?_
  first | refine fo_goL mi_k11 fz11_39_2_43 [(3, .int (0 + 1)), (2, .int 0), (0, .int 1), (1, .int 2)] [] (by rfl) ?_ | refine ft_go mi_k11 2 43 [(3, .int (0 + 1)), (2, .int 0), (0, .int 1), (1, .int 2)] [] i a q r (by rfl) ?_
  refine ko_loc (by decide : (0 + 1 : Int32) = 1) ?_
  first | refine ft_goL mi_k11 7 47 [(3, .int 1), (2, .int 0), (0, .int 1), (1, .int 2)] [.int 0] (by rfl) ?_ | refine ft_goS mi_k11 7 47 [.int 0] (by rfl) ?_ | refine ft_go mi_k11 7 47 [(3, .int 1), (2, .int 0), (0, .int 1), (1, .int 2)] [.int 0] i a q r (by rfl) ?_
  exact ft_ret mi_k11 (by rfl) (hP 0 (oz236 kn0))
def w14_94_l12_K1 : kW := ([], [], [], [])
set_option maxRecDepth 100000 in
theorem kc14_94_l12_K1 {i : Nat → Int32} {a : Nat → List Int32} {q : Nat → List Int64} {r : Nat → Nat} (hI : kI i a q) (hr : kr r) (x1 : Int32) (x3 : Int32) (x4 : Int32) (hp0 : ((0 : Int) ≤ x1.toInt) ∧ (x1.toInt ≤ 49)) (hp1 : ((a 95).getD x1.toNatClampNeg 0).toInt = 1) (hp2 : ((0 : Int) ≤ x4.toInt) ∧ ((x4.toInt + 0) ≤ 39)) (hp3 : ((0 : Int) ≤ (i 6019).toInt) ∧ (((i 6019).toInt + 0) ≤ 900)) : km 1 14 [.ref 94, .int x1, .int 2, .int x3, .int x4] (ks i a q r) (kVI w14_94_l12_K1 i a q r (fun v i1 a1 q1 r1 => (i1 6019).toInt = ((i 6019).toInt + 0))) := by
  have hG := kG_self w14_94_l12_K1 hI hr
  refine km_ofI (q := (mi_h14, mi_c14)) rfl (by decide) (Nat.le_of_ble_eq_true rfl) ?_
  intro P hP
  have r1 : ((0 : Int) ≤ ((a 95).getD x1.toNatClampNeg 0).toInt) ∧ (((a 95).getD x1.toNatClampNeg 0).toInt ≤ 7) := hG.I.2.2.1 95 (x1.toNatClampNeg)
  first | refine fo_goL mi_k14 fz14_0_3_5 [(0, .ref 94), (1, .int x1), (2, .int 2), (3, .int x3), (4, .int x4)] [.int x1, .ref 95] (by rfl) ?_ | refine ft_go mi_k14 3 5 [(0, .ref 94), (1, .int x1), (2, .int 2), (3, .int x3), (4, .int x4)] [.int x1, .ref 95] i a q r (by rfl) ?_
  refine ko_iald3 mi_k14.1 (n := 50) (c := 50) (ax := (0, 0, 0, 0, 0)) (mi_k14.2 _ _ (by rfl)) (by rfl) (ksG95 _ _ _ _) (hG.I.2.1 95) rfl (oz3 hp0.1) (oz1336 hp0.2) ?_
  refine ko_top (kj_eq (oz1381 hp1) (by decide) : ((a 95).getD x1.toNatClampNeg 0) = 1) ?_
  first | refine ft_goL mi_k14 6 57 [(5, .int 1), (0, .ref 94), (1, .int x1), (2, .int 2), (3, .int x3), (4, .int x4)] [.int (x3 ^^^ x1)] (by rfl) ?_ | refine ft_go mi_k14 6 57 [(5, .int 1), (0, .ref 94), (1, .int x1), (2, .int 2), (3, .int x3), (4, .int x4)] [.int (x3 ^^^ x1)] i a q r (by rfl) ?_
  exact ft_ret mi_k14 (by rfl) (hP (x3 ^^^ x1) _ _ _ _ hG oz1338)
def w13_94_l11_l22_K1 : kW := ([6019], [96], [], [])
set_option maxRecDepth 100000 in
theorem kc13_94_l11_l22_K1 {i : Nat → Int32} {a : Nat → List Int32} {q : Nat → List Int64} {r : Nat → Nat} (hI : kI i a q) (hr : kr r) (x1 : Int32) (x4 : Int32) (x5 : Int32) (hp0 : ((0 : Int) ≤ x1.toInt) ∧ (x1.toInt ≤ 49)) (hp1 : ((a 95).getD x1.toNatClampNeg 0).toInt = 1) (hp2 : ((0 : Int) ≤ x5.toInt) ∧ ((x5.toInt + 1) ≤ 39)) (hp3 : ((0 : Int) ≤ (i 6019).toInt) ∧ (((i 6019).toInt + 1) ≤ 900)) : km 3 13 [.ref 94, .int x1, .int 1, .int 2, .int x4, .int x5] (ks i a q r) (kVI w13_94_l11_l22_K1 i a q r (fun v i1 a1 q1 r1 => (i1 6019).toInt = ((i 6019).toInt + 1))) := by
  have hG := kG_self w13_94_l11_l22_K1 hI hr
  refine km_ofI (q := (mi_h13, mi_c13)) rfl (by decide) (Nat.le_of_ble_eq_true rfl) ?_
  intro P hP
  have r1 : ((0 : Int) ≤ ((a 95).getD x1.toNatClampNeg 0).toInt) ∧ (((a 95).getD x1.toNatClampNeg 0).toInt ≤ 7) := hG.I.2.2.1 95 (x1.toNatClampNeg)
  have fi_6019 : ((0 : Int) ≤ (i 6019).toInt) ∧ ((i 6019).toInt ≤ 1000) := hG.I.1 6019
  first | refine fo_goL mi_k13 fz13_0_2_4 [(0, .ref 94), (1, .int x1), (2, .int 1), (3, .int 2), (4, .int x4), (5, .int x5)] [.int 40, .int x5] (by rfl) ?_ | refine ft_go mi_k13 2 4 [(0, .ref 94), (1, .int x1), (2, .int 1), (3, .int 2), (4, .int x4), (5, .int x5)] [.int 40, .int x5] i a q r (by rfl) ?_
  refine ft_ifS mi_k13 (decide (x5 < 40)) 9 7 [] (by rfl) (fun c => ?_) (fun c => ?_)
  ·
    have c2 : x5.toInt < (40 : Int32).toInt := kd_lt c; clear c
    first | refine fo_goS mi_k13 fz13_9_2_11 [.int 2, .int 1] (by rfl) ?_ | refine ft_go mi_k13 2 11 [(0, .ref 94), (1, .int x1), (2, .int 1), (3, .int 2), (4, .int x4), (5, .int x5)] [.int 2, .int 1] i a q r (by rfl) ?_
    refine ko_callPI mi_k13.1 (pc := 11) (ls := [(0, .ref 94), (1, .int x1), (2, .int 1), (3, .int 2), (4, .int x4), (5, .int x5)]) (st := [.int 2, .int 1]) (h := ks i a q r) (i := (.invokestatic 39, 3, 11, 0, 9, 0, 298)) (mi_k13.2 _ _ (by rfl)) (ft_invS mi_pq11 (by rfl)) (cy := mi_c11) mi_pq11 rfl (kc11_l01_l12 hG.I hG.R ) (by decide) ?_
    intro vg3 hg3
    have z4 : vg3.toInt = 0 := hg3
    have evvg3 := kj_eq (oz236 z4) (by decide : (0 : Int32).toInt = 0)
    subst evvg3
    first | refine ft_goL mi_k13 5 23 [(6, .int 0), (0, .ref 94), (1, .int x1), (2, .int 1), (3, .int 2), (4, .int x4), (5, .int x5)] [.int (0 * 4), .ref (mi_RO + 3)] (by rfl) ?_ | refine ft_go mi_k13 5 23 [(6, .int 0), (0, .ref 94), (1, .int x1), (2, .int 1), (3, .int 2), (4, .int x4), (5, .int x5)] [.int (0 * 4), .ref (mi_RO + 3)] i a q r (by rfl) ?_
    refine ko_top (by decide : (0 * 4 : Int32) = 0) ?_
    first | refine fo_goS mi_k13 fz13_23_2_25 [.int (0 + 2), .ref (mi_RO + 3)] (by rfl) ?_ | refine ft_go mi_k13 2 25 [(6, .int 0), (0, .ref 94), (1, .int x1), (2, .int 1), (3, .int 2), (4, .int x4), (5, .int x5)] [.int (0 + 2), .ref (mi_RO + 3)] i a q r (by rfl) ?_
    refine ko_top (by decide : (0 + 2 : Int32) = 2) ?_
    refine ft_ro mi_k13 (w := 11) (by decide +kernel) (by decide +kernel) ?_
    first | refine fo_goL mi_k13 fz13_26_4_34 [(7, .int 11), (6, .int 0), (0, .ref 94), (1, .int x1), (2, .int 1), (3, .int 2), (4, .int x4), (5, .int x5)] [.int 24, .int (i 6019)] (by rfl) ?_ | refine ft_go mi_k13 4 34 [(7, .int 11), (6, .int 0), (0, .ref 94), (1, .int x1), (2, .int 1), (3, .int 2), (4, .int x4), (5, .int x5)] [.int 24, .int (i 6019)] i a q r (by rfl) ?_
    refine ft_ifS mi_k13 (decide (24 ≤ (i 6019))) 48 37 [] (by rfl) (fun c => ?_) (fun c => ?_)
    ·
      have c6 : (24 : Int32).toInt ≤ (i 6019).toInt := kd_le c; clear c
      have s7 : ((i 6019) + 1).toInt = (i 6019).toInt + (1 : Int32).toInt := kd_add (oz1332 c6 kn24 kn1) (oz951 fi_6019.2 kn1)
      have hJ8 := kG_i hG 6019 rfl (v := ((i 6019) + 1)) ⟨(oz1333 c6 s7 kn24 kn1), (oz1334 hp3.2 s7 kn1)⟩
      have s9 : (x5 + 1).toInt = x5.toInt + (1 : Int32).toInt := kd_add (oz12 hp2.1 kn1) (oz1335 hp2.2 kn1)
      first | refine fo_goI mi_k13 fz13_48_15_72 [.int (x5 + 1), .int x4, .int 2, .int x1, .ref 94] (ku i 6019 ((i 6019) + 1)) (by rfl) ?_ | refine ft_go mi_k13 15 72 [(7, .int 11), (6, .int 0), (0, .ref 94), (1, .int x1), (2, .int 1), (3, .int 2), (4, .int x4), (5, .int x5)] [.int (x5 + 1), .int x4, .int 2, .int x1, .ref 94] (ku i 6019 ((i 6019) + 1)) a q r (by rfl) ?_
      refine ko_callI mi_k13.1 (pc := 72) (ls := [(7, .int 11), (6, .int 0), (0, .ref 94), (1, .int x1), (2, .int 1), (3, .int 2), (4, .int x4), (5, .int x5)]) (st := [.int (x5 + 1), .int x4, .int 2, .int x1, .ref 94]) (h := ks (ku i 6019 ((i 6019) + 1)) a q r) (i := (.invokevirtual 43, 3, 14, 0, 9, 0, 301)) (mi_k13.2 _ _ (by rfl)) (ft_invS mi_pq14 (by rfl)) (cy := mi_c14) mi_pq14 rfl (kc14_94_l12_K1 hJ8.I hJ8.R x1 x4 (x5 + 1) (oz1339 hp0.1 hp0.2) (oz1381 hp1) (oz1340 hp2.1 hp2.2 s9 kn1) (oz1341 c6 hp3.2 s7 kn24 kn1)) (by decide) ?_
      intro vg10 ig10 ag10 qg10 rg10 kg10 hg10
      have hGg10 := kG_call hJ8 kg10 (by decide +kernel)
      have efig10_6019 : (ig10 6019).toInt = ((i 6019) + 1).toInt := kg10.ti 6019 rfl
      exact ft_ret mi_k13 (by rfl) (hP vg10 _ _ _ _ hGg10 (oz1342 efig10_6019 s7 kn1))
    ·
      have c12 : (i 6019).toInt < (24 : Int32).toInt := kd_leF c; clear c
      first | refine fo_goS mi_k13 fz13_37_5_47 [.int 11, .int (i 6019), .ref 96] (by rfl) ?_ | refine ft_go mi_k13 5 47 [(7, .int 11), (6, .int 0), (0, .ref 94), (1, .int x1), (2, .int 1), (3, .int 2), (4, .int x4), (5, .int x5)] [.int 11, .int (i 6019), .ref 96] i a q r (by rfl) ?_
      refine ko_iast3 mi_k13.1 (n := 24) (c := 24) (ax := (0, 0, 0, 0, 0)) (mi_k13.2 _ _ (by rfl)) (by rfl) (ksG96 _ _ _ _) (ksA96 _ _ _ _) (hG.I.2.1 96) rfl (oz3 fi_6019.1) (oz1343 c12 kn24) ?_
      intro a13 ea13 fa13
      have hJ13 := kG_a3 hG 96 rfl ea13 fa13 (kd_bd _)
      have s14 : ((i 6019) + 1).toInt = (i 6019).toInt + (1 : Int32).toInt := kd_add (oz12 fi_6019.1 kn1) (oz951 fi_6019.2 kn1)
      have hJ15 := kG_i hJ13 6019 rfl (v := ((i 6019) + 1)) ⟨(oz14 fi_6019.1 s14 kn1), (oz1334 hp3.2 s14 kn1)⟩
      have s16 : (x5 + 1).toInt = x5.toInt + (1 : Int32).toInt := kd_add (oz12 hp2.1 kn1) (oz1335 hp2.2 kn1)
      first | refine fo_goI mi_k13 fz13_48_15_72 [.int (x5 + 1), .int x4, .int 2, .int x1, .ref 94] (ku i 6019 ((i 6019) + 1)) (by rfl) ?_ | refine ft_go mi_k13 15 72 [(7, .int 11), (6, .int 0), (0, .ref 94), (1, .int x1), (2, .int 1), (3, .int 2), (4, .int x4), (5, .int x5)] [.int (x5 + 1), .int x4, .int 2, .int x1, .ref 94] (ku i 6019 ((i 6019) + 1)) a13 q r (by rfl) ?_
      have r17 : ((0 : Int) ≤ ((a13 95).getD x1.toNatClampNeg 0).toInt) ∧ (((a13 95).getD x1.toNatClampNeg 0).toInt ≤ 7) := hJ15.I.2.2.1 95 (x1.toNatClampNeg)
      have u18 : ((a13 95).getD x1.toNatClampNeg 0).toInt = ((a 95).getD x1.toNatClampNeg 0).toInt := congrArg (fun z : List Int32 => (z.getD x1.toNatClampNeg 0).toInt) (fa13 95 (by decide))
      refine ko_callI mi_k13.1 (pc := 72) (ls := [(7, .int 11), (6, .int 0), (0, .ref 94), (1, .int x1), (2, .int 1), (3, .int 2), (4, .int x4), (5, .int x5)]) (st := [.int (x5 + 1), .int x4, .int 2, .int x1, .ref 94]) (h := ks (ku i 6019 ((i 6019) + 1)) a13 q r) (i := (.invokevirtual 43, 3, 14, 0, 9, 0, 301)) (mi_k13.2 _ _ (by rfl)) (ft_invS mi_pq14 (by rfl)) (cy := mi_c14) mi_pq14 rfl (kc14_94_l12_K1 hJ15.I hJ15.R x1 x4 (x5 + 1) (oz1339 hp0.1 hp0.2) (oz1383 hp1 u18) (oz1340 hp2.1 hp2.2 s16 kn1) (oz1345 fi_6019.1 hp3.2 s14 kn1)) (by decide) ?_
      intro vg19 ig19 ag19 qg19 rg19 kg19 hg19
      have hGg19 := kG_call hJ15 kg19 (by decide +kernel)
      have efig19_6019 : (ig19 6019).toInt = ((i 6019) + 1).toInt := kg19.ti 6019 rfl
      exact ft_ret mi_k13 (by rfl) (hP vg19 _ _ _ _ hGg19 (oz1342 efig19_6019 s14 kn1))
  ·
    have c21 : (40 : Int32).toInt ≤ x5.toInt := kd_ltF c; clear c
    exact (oz1346 c21 hp2.2 kn40).elim
set_option maxRecDepth 100000 in
theorem kc11_l01_l13 {i : Nat → Int32} {a : Nat → List Int32} {q : Nat → List Int64} {r : Nat → Nat} (hI : kI i a q) (hr : kr r)  : km 1 11 [.int 1, .int 3] (ks i a q r) (kPI (ks i a q r) (fun v => v.toInt = 0)) := by
  have hG := kG_self kW0 hI hr
  refine km_ofPI (q := (mi_h11, mi_c11)) rfl (by decide) (Nat.le_of_ble_eq_true rfl) ?_
  intro P hP
  first | refine ft_goL mi_k11 16 26 [(3, .int 0), (2, .int 1), (0, .int 1), (1, .int 3)] [.int (1 * 4), .ref (mi_RO + 3)] (by rfl) ?_ | refine ft_go mi_k11 16 26 [(3, .int 0), (2, .int 1), (0, .int 1), (1, .int 3)] [.int (1 * 4), .ref (mi_RO + 3)] i a q r (by rfl) ?_
  refine ko_top (by decide : (1 * 4 : Int32) = 4) ?_
  first | refine fo_goS mi_k11 fz11_26_2_28 [.int (4 + 3), .ref (mi_RO + 3)] (by rfl) ?_ | refine ft_go mi_k11 2 28 [(3, .int 0), (2, .int 1), (0, .int 1), (1, .int 3)] [.int (4 + 3), .ref (mi_RO + 3)] i a q r (by rfl) ?_
  refine ko_top (by decide : (4 + 3 : Int32) = 7) ?_
  refine ft_ro mi_k11 (w := 0) (by decide +kernel) (by decide +kernel) ?_
  first | refine ft_goS mi_k11 3 38 [.int 1, .ref (mi_RO + 4)] (by rfl) ?_ | refine ft_go mi_k11 3 38 [(3, .int 0), (2, .int 1), (0, .int 1), (1, .int 3)] [.int 1, .ref (mi_RO + 4)] i a q r (by rfl) ?_
  refine ft_ro mi_k11 (w := 0) (by decide +kernel) (by decide +kernel) ?_
  first | refine fo_goL mi_k11 fz11_39_2_43 [(3, .int (0 + 1)), (2, .int 0), (0, .int 1), (1, .int 3)] [] (by rfl) ?_ | refine ft_go mi_k11 2 43 [(3, .int (0 + 1)), (2, .int 0), (0, .int 1), (1, .int 3)] [] i a q r (by rfl) ?_
  refine ko_loc (by decide : (0 + 1 : Int32) = 1) ?_
  first | refine ft_goL mi_k11 7 47 [(3, .int 1), (2, .int 0), (0, .int 1), (1, .int 3)] [.int 0] (by rfl) ?_ | refine ft_goS mi_k11 7 47 [.int 0] (by rfl) ?_ | refine ft_go mi_k11 7 47 [(3, .int 1), (2, .int 0), (0, .int 1), (1, .int 3)] [.int 0] i a q r (by rfl) ?_
  exact ft_ret mi_k11 (by rfl) (hP 0 (oz236 kn0))
def w14_94_l13_K1 : kW := ([6019], [96], [], [])
set_option maxRecDepth 100000 in
theorem kc14_94_l13_K1 {i : Nat → Int32} {a : Nat → List Int32} {q : Nat → List Int64} {r : Nat → Nat} (hI : kI i a q) (hr : kr r) (x1 : Int32) (x3 : Int32) (x4 : Int32) (hp0 : ((0 : Int) ≤ x1.toInt) ∧ (x1.toInt ≤ 49)) (hp1 : ((a 95).getD x1.toNatClampNeg 0).toInt = 1) (hp2 : ((0 : Int) ≤ x4.toInt) ∧ ((x4.toInt + 3) ≤ 39)) (hp3 : ((0 : Int) ≤ (i 6019).toInt) ∧ (((i 6019).toInt + 4) ≤ 900)) : km 11 14 [.ref 94, .int x1, .int 3, .int x3, .int x4] (ks i a q r) (kVI w14_94_l13_K1 i a q r (fun v i1 a1 q1 r1 => (i1 6019).toInt = ((i 6019).toInt + 4))) := by
  have hG := kG_self w14_94_l13_K1 hI hr
  refine km_ofI (q := (mi_h14, mi_c14)) rfl (by decide) (Nat.le_of_ble_eq_true rfl) ?_
  intro P hP
  have r1 : ((0 : Int) ≤ ((a 95).getD x1.toNatClampNeg 0).toInt) ∧ (((a 95).getD x1.toNatClampNeg 0).toInt ≤ 7) := hG.I.2.2.1 95 (x1.toNatClampNeg)
  have fi_6019 : ((0 : Int) ≤ (i 6019).toInt) ∧ ((i 6019).toInt ≤ 1000) := hG.I.1 6019
  first | refine fo_goL mi_k14 fz14_0_3_5 [(0, .ref 94), (1, .int x1), (2, .int 3), (3, .int x3), (4, .int x4)] [.int x1, .ref 95] (by rfl) ?_ | refine ft_go mi_k14 3 5 [(0, .ref 94), (1, .int x1), (2, .int 3), (3, .int x3), (4, .int x4)] [.int x1, .ref 95] i a q r (by rfl) ?_
  refine ko_iald3 mi_k14.1 (n := 50) (c := 50) (ax := (0, 0, 0, 0, 0)) (mi_k14.2 _ _ (by rfl)) (by rfl) (ksG95 _ _ _ _) (hG.I.2.1 95) rfl (oz3 hp0.1) (oz1336 hp0.2) ?_
  refine ko_top (kj_eq (oz1381 hp1) (by decide) : ((a 95).getD x1.toNatClampNeg 0) = 1) ?_
  first | refine ft_goL mi_k14 9 66 [(5, .int 1), (0, .ref 94), (1, .int x1), (2, .int 3), (3, .int x3), (4, .int x4)] [.int x4, .int x3, .int 1, .int 1, .int x1, .ref 94] (by rfl) ?_ | refine ft_go mi_k14 9 66 [(5, .int 1), (0, .ref 94), (1, .int x1), (2, .int 3), (3, .int x3), (4, .int x4)] [.int x4, .int x3, .int 1, .int 1, .int x1, .ref 94] i a q r (by rfl) ?_
  refine ko_callI mi_k14.1 (pc := 66) (ls := [(5, .int 1), (0, .ref 94), (1, .int x1), (2, .int 3), (3, .int x3), (4, .int x4)]) (st := [.int x4, .int x3, .int 1, .int 1, .int x1, .ref 94]) (h := ks i a q r) (i := (.invokevirtual 35, 3, 13, 0, 9, 0, 297)) (mi_k14.2 _ _ (by rfl)) (ft_invS mi_pq13 (by rfl)) (cy := mi_c13) mi_pq13 rfl (kc13_94_l11_l21_K1 hG.I hG.R x1 x3 x4 (oz1339 hp0.1 hp0.2) (oz1381 hp1) (oz1396 hp2.1 hp2.2) (oz1397 fi_6019.1 hp3.2)) (by decide) ?_
  intro vg2 ig2 ag2 qg2 rg2 kg2 hg2
  have hGg2 := kG_call hG kg2 (by decide +kernel)
  have fig2_6019 : ((0 : Int) ≤ (ig2 6019).toInt) ∧ ((ig2 6019).toInt ≤ 1000) := hGg2.I.1 6019
  have z3 : (ig2 6019).toInt = ((i 6019).toInt + 3) := hg2
  first | refine fo_goL mi_k14 fz14_69_8_81 [(6, .int vg2), (5, .int 1), (0, .ref 94), (1, .int x1), (2, .int 3), (3, .int x3), (4, .int x4)] [.int x4, .int 1, .int 2, .int 1, .int x1, .ref 94, .int vg2] (by rfl) ?_ | refine ft_go mi_k14 8 81 [(6, .int vg2), (5, .int 1), (0, .ref 94), (1, .int x1), (2, .int 3), (3, .int x3), (4, .int x4)] [.int x4, .int 1, .int 2, .int 1, .int x1, .ref 94, .int vg2] ig2 ag2 qg2 rg2 (by rfl) ?_
  have r4 : ((0 : Int) ≤ ((ag2 95).getD x1.toNatClampNeg 0).toInt) ∧ (((ag2 95).getD x1.toNatClampNeg 0).toInt ≤ 7) := hGg2.I.2.2.1 95 (x1.toNatClampNeg)
  have u5 : ((ag2 95).getD x1.toNatClampNeg 0).toInt = ((a 95).getD x1.toNatClampNeg 0).toInt := congrArg (fun z : List Int32 => (z.getD x1.toNatClampNeg 0).toInt) (kg2.fa 95 rfl)
  refine ko_callI mi_k14.1 (pc := 81) (ls := [(6, .int vg2), (5, .int 1), (0, .ref 94), (1, .int x1), (2, .int 3), (3, .int x3), (4, .int x4)]) (st := [.int x4, .int 1, .int 2, .int 1, .int x1, .ref 94, .int vg2]) (h := ks ig2 ag2 qg2 rg2) (i := (.invokevirtual 35, 3, 13, 0, 9, 0, 297)) (mi_k14.2 _ _ (by rfl)) (ft_invS mi_pq13 (by rfl)) (cy := mi_c13) mi_pq13 rfl (kc13_94_l11_l22_K1 hGg2.I hGg2.R x1 1 x4 (oz1339 hp0.1 hp0.2) (oz1383 hp1 u5) (oz1398 hp2.1 hp2.2) (oz1399 fig2_6019.1 hp3.2 z3)) (by decide) ?_
  intro vg6 ig6 ag6 qg6 rg6 kg6 hg6
  have hGg6 := kG_call hGg2 kg6 (by decide +kernel)
  have z7 : (ig6 6019).toInt = ((ig2 6019).toInt + 1) := hg6
  have b8 : ((-2147483648 : Int) ≤ vg2.toInt) ∧ (vg2.toInt ≤ 2147483647) := kd_bd vg2
  have b9 : ((-2147483648 : Int) ≤ vg6.toInt) ∧ (vg6.toInt ≤ 2147483647) := kd_bd vg6
  first | refine fo_goS mi_k14 fz14_84_1_85 [.int (vg2 - vg6)] (by rfl) ?_ | refine ft_go mi_k14 1 85 [(6, .int vg2), (5, .int 1), (0, .ref 94), (1, .int x1), (2, .int 3), (3, .int x3), (4, .int x4)] [.int (vg2 - vg6)] ig6 ag6 qg6 rg6 (by rfl) ?_
  exact ft_ret mi_k14 (by rfl) (hP (vg2 - vg6) _ _ _ _ hGg6 (oz1400 z3 z7))
def w13_94_l11_l23_K1 : kW := ([6019], [96], [], [])
set_option maxRecDepth 100000 in
theorem kc13_94_l11_l23_K1 {i : Nat → Int32} {a : Nat → List Int32} {q : Nat → List Int64} {r : Nat → Nat} (hI : kI i a q) (hr : kr r) (x1 : Int32) (x4 : Int32) (x5 : Int32) (hp0 : ((0 : Int) ≤ x1.toInt) ∧ (x1.toInt ≤ 49)) (hp1 : ((a 95).getD x1.toNatClampNeg 0).toInt = 1) (hp2 : ((0 : Int) ≤ x5.toInt) ∧ ((x5.toInt + 4) ≤ 39)) (hp3 : ((0 : Int) ≤ (i 6019).toInt) ∧ (((i 6019).toInt + 5) ≤ 900)) : km 13 13 [.ref 94, .int x1, .int 1, .int 3, .int x4, .int x5] (ks i a q r) (kVI w13_94_l11_l23_K1 i a q r (fun v i1 a1 q1 r1 => (i1 6019).toInt = ((i 6019).toInt + 5))) := by
  have hG := kG_self w13_94_l11_l23_K1 hI hr
  refine km_ofI (q := (mi_h13, mi_c13)) rfl (by decide) (Nat.le_of_ble_eq_true rfl) ?_
  intro P hP
  have r1 : ((0 : Int) ≤ ((a 95).getD x1.toNatClampNeg 0).toInt) ∧ (((a 95).getD x1.toNatClampNeg 0).toInt ≤ 7) := hG.I.2.2.1 95 (x1.toNatClampNeg)
  have fi_6019 : ((0 : Int) ≤ (i 6019).toInt) ∧ ((i 6019).toInt ≤ 1000) := hG.I.1 6019
  first | refine fo_goL mi_k13 fz13_0_2_4 [(0, .ref 94), (1, .int x1), (2, .int 1), (3, .int 3), (4, .int x4), (5, .int x5)] [.int 40, .int x5] (by rfl) ?_ | refine ft_go mi_k13 2 4 [(0, .ref 94), (1, .int x1), (2, .int 1), (3, .int 3), (4, .int x4), (5, .int x5)] [.int 40, .int x5] i a q r (by rfl) ?_
  refine ft_ifS mi_k13 (decide (x5 < 40)) 9 7 [] (by rfl) (fun c => ?_) (fun c => ?_)
  ·
    have c2 : x5.toInt < (40 : Int32).toInt := kd_lt c; clear c
    first | refine fo_goS mi_k13 fz13_9_2_11 [.int 3, .int 1] (by rfl) ?_ | refine ft_go mi_k13 2 11 [(0, .ref 94), (1, .int x1), (2, .int 1), (3, .int 3), (4, .int x4), (5, .int x5)] [.int 3, .int 1] i a q r (by rfl) ?_
    refine ko_callPI mi_k13.1 (pc := 11) (ls := [(0, .ref 94), (1, .int x1), (2, .int 1), (3, .int 3), (4, .int x4), (5, .int x5)]) (st := [.int 3, .int 1]) (h := ks i a q r) (i := (.invokestatic 39, 3, 11, 0, 9, 0, 298)) (mi_k13.2 _ _ (by rfl)) (ft_invS mi_pq11 (by rfl)) (cy := mi_c11) mi_pq11 rfl (kc11_l01_l13 hG.I hG.R ) (by decide) ?_
    intro vg3 hg3
    have z4 : vg3.toInt = 0 := hg3
    have evvg3 := kj_eq (oz236 z4) (by decide : (0 : Int32).toInt = 0)
    subst evvg3
    first | refine ft_goL mi_k13 5 23 [(6, .int 0), (0, .ref 94), (1, .int x1), (2, .int 1), (3, .int 3), (4, .int x4), (5, .int x5)] [.int (0 * 4), .ref (mi_RO + 3)] (by rfl) ?_ | refine ft_go mi_k13 5 23 [(6, .int 0), (0, .ref 94), (1, .int x1), (2, .int 1), (3, .int 3), (4, .int x4), (5, .int x5)] [.int (0 * 4), .ref (mi_RO + 3)] i a q r (by rfl) ?_
    refine ko_top (by decide : (0 * 4 : Int32) = 0) ?_
    first | refine fo_goS mi_k13 fz13_23_2_25 [.int (0 + 3), .ref (mi_RO + 3)] (by rfl) ?_ | refine ft_go mi_k13 2 25 [(6, .int 0), (0, .ref 94), (1, .int x1), (2, .int 1), (3, .int 3), (4, .int x4), (5, .int x5)] [.int (0 + 3), .ref (mi_RO + 3)] i a q r (by rfl) ?_
    refine ko_top (by decide : (0 + 3 : Int32) = 3) ?_
    refine ft_ro mi_k13 (w := 2) (by decide +kernel) (by decide +kernel) ?_
    first | refine fo_goL mi_k13 fz13_26_4_34 [(7, .int 2), (6, .int 0), (0, .ref 94), (1, .int x1), (2, .int 1), (3, .int 3), (4, .int x4), (5, .int x5)] [.int 24, .int (i 6019)] (by rfl) ?_ | refine ft_go mi_k13 4 34 [(7, .int 2), (6, .int 0), (0, .ref 94), (1, .int x1), (2, .int 1), (3, .int 3), (4, .int x4), (5, .int x5)] [.int 24, .int (i 6019)] i a q r (by rfl) ?_
    refine ft_ifS mi_k13 (decide (24 ≤ (i 6019))) 48 37 [] (by rfl) (fun c => ?_) (fun c => ?_)
    ·
      have c6 : (24 : Int32).toInt ≤ (i 6019).toInt := kd_le c; clear c
      have s7 : ((i 6019) + 1).toInt = (i 6019).toInt + (1 : Int32).toInt := kd_add (oz1332 c6 kn24 kn1) (oz951 fi_6019.2 kn1)
      have hJ8 := kG_i hG 6019 rfl (v := ((i 6019) + 1)) ⟨(oz1333 c6 s7 kn24 kn1), (oz1394 hp3.2 s7 kn1)⟩
      have s9 : (x5 + 1).toInt = x5.toInt + (1 : Int32).toInt := kd_add (oz12 hp2.1 kn1) (oz1395 hp2.2 kn1)
      first | refine fo_goI mi_k13 fz13_48_15_72 [.int (x5 + 1), .int x4, .int 3, .int x1, .ref 94] (ku i 6019 ((i 6019) + 1)) (by rfl) ?_ | refine ft_go mi_k13 15 72 [(7, .int 2), (6, .int 0), (0, .ref 94), (1, .int x1), (2, .int 1), (3, .int 3), (4, .int x4), (5, .int x5)] [.int (x5 + 1), .int x4, .int 3, .int x1, .ref 94] (ku i 6019 ((i 6019) + 1)) a q r (by rfl) ?_
      refine ko_callI mi_k13.1 (pc := 72) (ls := [(7, .int 2), (6, .int 0), (0, .ref 94), (1, .int x1), (2, .int 1), (3, .int 3), (4, .int x4), (5, .int x5)]) (st := [.int (x5 + 1), .int x4, .int 3, .int x1, .ref 94]) (h := ks (ku i 6019 ((i 6019) + 1)) a q r) (i := (.invokevirtual 43, 3, 14, 0, 9, 0, 301)) (mi_k13.2 _ _ (by rfl)) (ft_invS mi_pq14 (by rfl)) (cy := mi_c14) mi_pq14 rfl (kc14_94_l13_K1 hJ8.I hJ8.R x1 x4 (x5 + 1) (oz1339 hp0.1 hp0.2) (oz1381 hp1) (oz1401 hp2.1 hp2.2 s9 kn1) (oz1402 c6 hp3.2 s7 kn24 kn1)) (by decide) ?_
      intro vg10 ig10 ag10 qg10 rg10 kg10 hg10
      have hGg10 := kG_call hJ8 kg10 (by decide +kernel)
      have z11 : (ig10 6019).toInt = (((i 6019) + 1).toInt + 4) := hg10
      exact ft_ret mi_k13 (by rfl) (hP vg10 _ _ _ _ hGg10 (oz1403 s7 z11 kn1))
    ·
      have c12 : (i 6019).toInt < (24 : Int32).toInt := kd_leF c; clear c
      first | refine fo_goS mi_k13 fz13_37_5_47 [.int 2, .int (i 6019), .ref 96] (by rfl) ?_ | refine ft_go mi_k13 5 47 [(7, .int 2), (6, .int 0), (0, .ref 94), (1, .int x1), (2, .int 1), (3, .int 3), (4, .int x4), (5, .int x5)] [.int 2, .int (i 6019), .ref 96] i a q r (by rfl) ?_
      refine ko_iast3 mi_k13.1 (n := 24) (c := 24) (ax := (0, 0, 0, 0, 0)) (mi_k13.2 _ _ (by rfl)) (by rfl) (ksG96 _ _ _ _) (ksA96 _ _ _ _) (hG.I.2.1 96) rfl (oz3 fi_6019.1) (oz1343 c12 kn24) ?_
      intro a13 ea13 fa13
      have hJ13 := kG_a3 hG 96 rfl ea13 fa13 (kd_bd _)
      have s14 : ((i 6019) + 1).toInt = (i 6019).toInt + (1 : Int32).toInt := kd_add (oz12 fi_6019.1 kn1) (oz951 fi_6019.2 kn1)
      have hJ15 := kG_i hJ13 6019 rfl (v := ((i 6019) + 1)) ⟨(oz14 fi_6019.1 s14 kn1), (oz1394 hp3.2 s14 kn1)⟩
      have s16 : (x5 + 1).toInt = x5.toInt + (1 : Int32).toInt := kd_add (oz12 hp2.1 kn1) (oz1395 hp2.2 kn1)
      first | refine fo_goI mi_k13 fz13_48_15_72 [.int (x5 + 1), .int x4, .int 3, .int x1, .ref 94] (ku i 6019 ((i 6019) + 1)) (by rfl) ?_ | refine ft_go mi_k13 15 72 [(7, .int 2), (6, .int 0), (0, .ref 94), (1, .int x1), (2, .int 1), (3, .int 3), (4, .int x4), (5, .int x5)] [.int (x5 + 1), .int x4, .int 3, .int x1, .ref 94] (ku i 6019 ((i 6019) + 1)) a13 q r (by rfl) ?_
      have r17 : ((0 : Int) ≤ ((a13 95).getD x1.toNatClampNeg 0).toInt) ∧ (((a13 95).getD x1.toNatClampNeg 0).toInt ≤ 7) := hJ15.I.2.2.1 95 (x1.toNatClampNeg)
      have u18 : ((a13 95).getD x1.toNatClampNeg 0).toInt = ((a 95).getD x1.toNatClampNeg 0).toInt := congrArg (fun z : List Int32 => (z.getD x1.toNatClampNeg 0).toInt) (fa13 95 (by decide))
      refine ko_callI mi_k13.1 (pc := 72) (ls := [(7, .int 2), (6, .int 0), (0, .ref 94), (1, .int x1), (2, .int 1), (3, .int 3), (4, .int x4), (5, .int x5)]) (st := [.int (x5 + 1), .int x4, .int 3, .int x1, .ref 94]) (h := ks (ku i 6019 ((i 6019) + 1)) a13 q r) (i := (.invokevirtual 43, 3, 14, 0, 9, 0, 301)) (mi_k13.2 _ _ (by rfl)) (ft_invS mi_pq14 (by rfl)) (cy := mi_c14) mi_pq14 rfl (kc14_94_l13_K1 hJ15.I hJ15.R x1 x4 (x5 + 1) (oz1339 hp0.1 hp0.2) (oz1383 hp1 u18) (oz1401 hp2.1 hp2.2 s16 kn1) (oz1404 fi_6019.1 hp3.2 s14 kn1)) (by decide) ?_
      intro vg19 ig19 ag19 qg19 rg19 kg19 hg19
      have hGg19 := kG_call hJ15 kg19 (by decide +kernel)
      have z20 : (ig19 6019).toInt = (((i 6019) + 1).toInt + 4) := hg19
      exact ft_ret mi_k13 (by rfl) (hP vg19 _ _ _ _ hGg19 (oz1403 s14 z20 kn1))
  ·
    have c21 : (40 : Int32).toInt ≤ x5.toInt := kd_ltF c; clear c
    exact (oz1405 c21 hp2.2 kn40).elim
set_option maxRecDepth 100000 in
theorem kc11_l02_l10 {i : Nat → Int32} {a : Nat → List Int32} {q : Nat → List Int64} {r : Nat → Nat} (hI : kI i a q) (hr : kr r)  : km 1 11 [.int 2, .int 0] (ks i a q r) (kPI (ks i a q r) (fun v => v.toInt = 0)) := by
  have hG := kG_self kW0 hI hr
  refine km_ofPI (q := (mi_h11, mi_c11)) rfl (by decide) (Nat.le_of_ble_eq_true rfl) ?_
  intro P hP
  first | refine ft_goL mi_k11 16 26 [(3, .int 0), (2, .int 2), (0, .int 2), (1, .int 0)] [.int (2 * 4), .ref (mi_RO + 3)] (by rfl) ?_ | refine ft_go mi_k11 16 26 [(3, .int 0), (2, .int 2), (0, .int 2), (1, .int 0)] [.int (2 * 4), .ref (mi_RO + 3)] i a q r (by rfl) ?_
  refine ko_top (by decide : (2 * 4 : Int32) = 8) ?_
  first | refine fo_goS mi_k11 fz11_26_2_28 [.int (8 + 0), .ref (mi_RO + 3)] (by rfl) ?_ | refine ft_go mi_k11 2 28 [(3, .int 0), (2, .int 2), (0, .int 2), (1, .int 0)] [.int (8 + 0), .ref (mi_RO + 3)] i a q r (by rfl) ?_
  refine ko_top (by decide : (8 + 0 : Int32) = 8) ?_
  refine ft_ro mi_k11 (w := 0) (by decide +kernel) (by decide +kernel) ?_
  first | refine ft_goS mi_k11 3 38 [.int 2, .ref (mi_RO + 4)] (by rfl) ?_ | refine ft_go mi_k11 3 38 [(3, .int 0), (2, .int 2), (0, .int 2), (1, .int 0)] [.int 2, .ref (mi_RO + 4)] i a q r (by rfl) ?_
  refine ft_ro mi_k11 (w := 0) (by decide +kernel) (by decide +kernel) ?_
  first | refine fo_goL mi_k11 fz11_39_2_43 [(3, .int (0 + 1)), (2, .int 0), (0, .int 2), (1, .int 0)] [] (by rfl) ?_ | refine ft_go mi_k11 2 43 [(3, .int (0 + 1)), (2, .int 0), (0, .int 2), (1, .int 0)] [] i a q r (by rfl) ?_
  refine ko_loc (by decide : (0 + 1 : Int32) = 1) ?_
  first | refine ft_goL mi_k11 7 47 [(3, .int 1), (2, .int 0), (0, .int 2), (1, .int 0)] [.int 0] (by rfl) ?_ | refine ft_goS mi_k11 7 47 [.int 0] (by rfl) ?_ | refine ft_go mi_k11 7 47 [(3, .int 1), (2, .int 0), (0, .int 2), (1, .int 0)] [.int 0] i a q r (by rfl) ?_
  exact ft_ret mi_k11 (by rfl) (hP 0 (oz236 kn0))
def w14_94_l10_K2 : kW := ([], [], [], [])
set_option maxRecDepth 100000 in
theorem kc14_94_l10_K2 {i : Nat → Int32} {a : Nat → List Int32} {q : Nat → List Int64} {r : Nat → Nat} (hI : kI i a q) (hr : kr r) (x1 : Int32) (x3 : Int32) (x4 : Int32) (hp0 : ((0 : Int) ≤ x1.toInt) ∧ (x1.toInt ≤ 49)) (hp1 : ((a 95).getD x1.toNatClampNeg 0).toInt = 2) (hp2 : ((0 : Int) ≤ x4.toInt) ∧ ((x4.toInt + 0) ≤ 39)) (hp3 : ((0 : Int) ≤ (i 6019).toInt) ∧ (((i 6019).toInt + 0) ≤ 900)) : km 1 14 [.ref 94, .int x1, .int 0, .int x3, .int x4] (ks i a q r) (kVI w14_94_l10_K2 i a q r (fun v i1 a1 q1 r1 => (i1 6019).toInt = ((i 6019).toInt + 0))) := by
  have hG := kG_self w14_94_l10_K2 hI hr
  refine km_ofI (q := (mi_h14, mi_c14)) rfl (by decide) (Nat.le_of_ble_eq_true rfl) ?_
  intro P hP
  have r1 : ((0 : Int) ≤ ((a 95).getD x1.toNatClampNeg 0).toInt) ∧ (((a 95).getD x1.toNatClampNeg 0).toInt ≤ 7) := hG.I.2.2.1 95 (x1.toNatClampNeg)
  first | refine fo_goL mi_k14 fz14_0_3_5 [(0, .ref 94), (1, .int x1), (2, .int 0), (3, .int x3), (4, .int x4)] [.int x1, .ref 95] (by rfl) ?_ | refine ft_go mi_k14 3 5 [(0, .ref 94), (1, .int x1), (2, .int 0), (3, .int x3), (4, .int x4)] [.int x1, .ref 95] i a q r (by rfl) ?_
  refine ko_iald3 mi_k14.1 (n := 50) (c := 50) (ax := (0, 0, 0, 0, 0)) (mi_k14.2 _ _ (by rfl)) (by rfl) (ksG95 _ _ _ _) (hG.I.2.1 95) rfl (oz3 hp0.1) (oz1336 hp0.2) ?_
  refine ko_top (kj_eq (oz1411 hp1) (by decide) : ((a 95).getD x1.toNatClampNeg 0) = 2) ?_
  have b2 : ((-2147483648 : Int) ≤ x3.toInt) ∧ (x3.toInt ≤ 2147483647) := kd_bd x3
  have b3 : ((-2147483648 : Int) ≤ x1.toInt) ∧ (x1.toInt ≤ 2147483647) := kd_bd x1
  first | refine ft_goL mi_k14 6 39 [(5, .int 2), (0, .ref 94), (1, .int x1), (2, .int 0), (3, .int x3), (4, .int x4)] [.int (x3 + x1)] (by rfl) ?_ | refine ft_go mi_k14 6 39 [(5, .int 2), (0, .ref 94), (1, .int x1), (2, .int 0), (3, .int x3), (4, .int x4)] [.int (x3 + x1)] i a q r (by rfl) ?_
  exact ft_ret mi_k14 (by rfl) (hP (x3 + x1) _ _ _ _ hG oz1338)
def w13_94_l12_l20_K2 : kW := ([6019], [96], [], [])
set_option maxRecDepth 100000 in
theorem kc13_94_l12_l20_K2 {i : Nat → Int32} {a : Nat → List Int32} {q : Nat → List Int64} {r : Nat → Nat} (hI : kI i a q) (hr : kr r) (x1 : Int32) (x4 : Int32) (x5 : Int32) (hp0 : ((0 : Int) ≤ x1.toInt) ∧ (x1.toInt ≤ 49)) (hp1 : ((a 95).getD x1.toNatClampNeg 0).toInt = 2) (hp2 : ((0 : Int) ≤ x5.toInt) ∧ ((x5.toInt + 1) ≤ 39)) (hp3 : ((0 : Int) ≤ (i 6019).toInt) ∧ (((i 6019).toInt + 1) ≤ 900)) : km 3 13 [.ref 94, .int x1, .int 2, .int 0, .int x4, .int x5] (ks i a q r) (kVI w13_94_l12_l20_K2 i a q r (fun v i1 a1 q1 r1 => (i1 6019).toInt = ((i 6019).toInt + 1))) := by
  have hG := kG_self w13_94_l12_l20_K2 hI hr
  refine km_ofI (q := (mi_h13, mi_c13)) rfl (by decide) (Nat.le_of_ble_eq_true rfl) ?_
  intro P hP
  have r1 : ((0 : Int) ≤ ((a 95).getD x1.toNatClampNeg 0).toInt) ∧ (((a 95).getD x1.toNatClampNeg 0).toInt ≤ 7) := hG.I.2.2.1 95 (x1.toNatClampNeg)
  have fi_6019 : ((0 : Int) ≤ (i 6019).toInt) ∧ ((i 6019).toInt ≤ 1000) := hG.I.1 6019
  first | refine fo_goL mi_k13 fz13_0_2_4 [(0, .ref 94), (1, .int x1), (2, .int 2), (3, .int 0), (4, .int x4), (5, .int x5)] [.int 40, .int x5] (by rfl) ?_ | refine ft_go mi_k13 2 4 [(0, .ref 94), (1, .int x1), (2, .int 2), (3, .int 0), (4, .int x4), (5, .int x5)] [.int 40, .int x5] i a q r (by rfl) ?_
  refine ft_ifS mi_k13 (decide (x5 < 40)) 9 7 [] (by rfl) (fun c => ?_) (fun c => ?_)
  ·
    have c2 : x5.toInt < (40 : Int32).toInt := kd_lt c; clear c
    first | refine fo_goS mi_k13 fz13_9_2_11 [.int 0, .int 2] (by rfl) ?_ | refine ft_go mi_k13 2 11 [(0, .ref 94), (1, .int x1), (2, .int 2), (3, .int 0), (4, .int x4), (5, .int x5)] [.int 0, .int 2] i a q r (by rfl) ?_
    refine ko_callPI mi_k13.1 (pc := 11) (ls := [(0, .ref 94), (1, .int x1), (2, .int 2), (3, .int 0), (4, .int x4), (5, .int x5)]) (st := [.int 0, .int 2]) (h := ks i a q r) (i := (.invokestatic 39, 3, 11, 0, 9, 0, 298)) (mi_k13.2 _ _ (by rfl)) (ft_invS mi_pq11 (by rfl)) (cy := mi_c11) mi_pq11 rfl (kc11_l02_l10 hG.I hG.R ) (by decide) ?_
    intro vg3 hg3
    have z4 : vg3.toInt = 0 := hg3
    have evvg3 := kj_eq (oz236 z4) (by decide : (0 : Int32).toInt = 0)
    subst evvg3
    first | refine ft_goL mi_k13 5 23 [(6, .int 0), (0, .ref 94), (1, .int x1), (2, .int 2), (3, .int 0), (4, .int x4), (5, .int x5)] [.int (0 * 4), .ref (mi_RO + 3)] (by rfl) ?_ | refine ft_go mi_k13 5 23 [(6, .int 0), (0, .ref 94), (1, .int x1), (2, .int 2), (3, .int 0), (4, .int x4), (5, .int x5)] [.int (0 * 4), .ref (mi_RO + 3)] i a q r (by rfl) ?_
    refine ko_top (by decide : (0 * 4 : Int32) = 0) ?_
    first | refine fo_goS mi_k13 fz13_23_2_25 [.int (0 + 0), .ref (mi_RO + 3)] (by rfl) ?_ | refine ft_go mi_k13 2 25 [(6, .int 0), (0, .ref 94), (1, .int x1), (2, .int 2), (3, .int 0), (4, .int x4), (5, .int x5)] [.int (0 + 0), .ref (mi_RO + 3)] i a q r (by rfl) ?_
    refine ko_top (by decide : (0 + 0 : Int32) = 0) ?_
    refine ft_ro mi_k13 (w := 1) (by decide +kernel) (by decide +kernel) ?_
    first | refine fo_goL mi_k13 fz13_26_4_34 [(7, .int 1), (6, .int 0), (0, .ref 94), (1, .int x1), (2, .int 2), (3, .int 0), (4, .int x4), (5, .int x5)] [.int 24, .int (i 6019)] (by rfl) ?_ | refine ft_go mi_k13 4 34 [(7, .int 1), (6, .int 0), (0, .ref 94), (1, .int x1), (2, .int 2), (3, .int 0), (4, .int x4), (5, .int x5)] [.int 24, .int (i 6019)] i a q r (by rfl) ?_
    refine ft_ifS mi_k13 (decide (24 ≤ (i 6019))) 48 37 [] (by rfl) (fun c => ?_) (fun c => ?_)
    ·
      have c6 : (24 : Int32).toInt ≤ (i 6019).toInt := kd_le c; clear c
      have s7 : ((i 6019) + 1).toInt = (i 6019).toInt + (1 : Int32).toInt := kd_add (oz1332 c6 kn24 kn1) (oz951 fi_6019.2 kn1)
      have hJ8 := kG_i hG 6019 rfl (v := ((i 6019) + 1)) ⟨(oz1333 c6 s7 kn24 kn1), (oz1334 hp3.2 s7 kn1)⟩
      have s9 : (x5 + 1).toInt = x5.toInt + (1 : Int32).toInt := kd_add (oz12 hp2.1 kn1) (oz1335 hp2.2 kn1)
      first | refine fo_goI mi_k13 fz13_48_15_72 [.int (x5 + 1), .int x4, .int 0, .int x1, .ref 94] (ku i 6019 ((i 6019) + 1)) (by rfl) ?_ | refine ft_go mi_k13 15 72 [(7, .int 1), (6, .int 0), (0, .ref 94), (1, .int x1), (2, .int 2), (3, .int 0), (4, .int x4), (5, .int x5)] [.int (x5 + 1), .int x4, .int 0, .int x1, .ref 94] (ku i 6019 ((i 6019) + 1)) a q r (by rfl) ?_
      refine ko_callI mi_k13.1 (pc := 72) (ls := [(7, .int 1), (6, .int 0), (0, .ref 94), (1, .int x1), (2, .int 2), (3, .int 0), (4, .int x4), (5, .int x5)]) (st := [.int (x5 + 1), .int x4, .int 0, .int x1, .ref 94]) (h := ks (ku i 6019 ((i 6019) + 1)) a q r) (i := (.invokevirtual 43, 3, 14, 0, 9, 0, 301)) (mi_k13.2 _ _ (by rfl)) (ft_invS mi_pq14 (by rfl)) (cy := mi_c14) mi_pq14 rfl (kc14_94_l10_K2 hJ8.I hJ8.R x1 x4 (x5 + 1) (oz1339 hp0.1 hp0.2) (oz1411 hp1) (oz1340 hp2.1 hp2.2 s9 kn1) (oz1341 c6 hp3.2 s7 kn24 kn1)) (by decide) ?_
      intro vg10 ig10 ag10 qg10 rg10 kg10 hg10
      have hGg10 := kG_call hJ8 kg10 (by decide +kernel)
      have efig10_6019 : (ig10 6019).toInt = ((i 6019) + 1).toInt := kg10.ti 6019 rfl
      exact ft_ret mi_k13 (by rfl) (hP vg10 _ _ _ _ hGg10 (oz1342 efig10_6019 s7 kn1))
    ·
      have c12 : (i 6019).toInt < (24 : Int32).toInt := kd_leF c; clear c
      first | refine fo_goS mi_k13 fz13_37_5_47 [.int 1, .int (i 6019), .ref 96] (by rfl) ?_ | refine ft_go mi_k13 5 47 [(7, .int 1), (6, .int 0), (0, .ref 94), (1, .int x1), (2, .int 2), (3, .int 0), (4, .int x4), (5, .int x5)] [.int 1, .int (i 6019), .ref 96] i a q r (by rfl) ?_
      refine ko_iast3 mi_k13.1 (n := 24) (c := 24) (ax := (0, 0, 0, 0, 0)) (mi_k13.2 _ _ (by rfl)) (by rfl) (ksG96 _ _ _ _) (ksA96 _ _ _ _) (hG.I.2.1 96) rfl (oz3 fi_6019.1) (oz1343 c12 kn24) ?_
      intro a13 ea13 fa13
      have hJ13 := kG_a3 hG 96 rfl ea13 fa13 (kd_bd _)
      have s14 : ((i 6019) + 1).toInt = (i 6019).toInt + (1 : Int32).toInt := kd_add (oz12 fi_6019.1 kn1) (oz951 fi_6019.2 kn1)
      have hJ15 := kG_i hJ13 6019 rfl (v := ((i 6019) + 1)) ⟨(oz14 fi_6019.1 s14 kn1), (oz1334 hp3.2 s14 kn1)⟩
      have s16 : (x5 + 1).toInt = x5.toInt + (1 : Int32).toInt := kd_add (oz12 hp2.1 kn1) (oz1335 hp2.2 kn1)
      first | refine fo_goI mi_k13 fz13_48_15_72 [.int (x5 + 1), .int x4, .int 0, .int x1, .ref 94] (ku i 6019 ((i 6019) + 1)) (by rfl) ?_ | refine ft_go mi_k13 15 72 [(7, .int 1), (6, .int 0), (0, .ref 94), (1, .int x1), (2, .int 2), (3, .int 0), (4, .int x4), (5, .int x5)] [.int (x5 + 1), .int x4, .int 0, .int x1, .ref 94] (ku i 6019 ((i 6019) + 1)) a13 q r (by rfl) ?_
      have r17 : ((0 : Int) ≤ ((a13 95).getD x1.toNatClampNeg 0).toInt) ∧ (((a13 95).getD x1.toNatClampNeg 0).toInt ≤ 7) := hJ15.I.2.2.1 95 (x1.toNatClampNeg)
      have u18 : ((a13 95).getD x1.toNatClampNeg 0).toInt = ((a 95).getD x1.toNatClampNeg 0).toInt := congrArg (fun z : List Int32 => (z.getD x1.toNatClampNeg 0).toInt) (fa13 95 (by decide))
      refine ko_callI mi_k13.1 (pc := 72) (ls := [(7, .int 1), (6, .int 0), (0, .ref 94), (1, .int x1), (2, .int 2), (3, .int 0), (4, .int x4), (5, .int x5)]) (st := [.int (x5 + 1), .int x4, .int 0, .int x1, .ref 94]) (h := ks (ku i 6019 ((i 6019) + 1)) a13 q r) (i := (.invokevirtual 43, 3, 14, 0, 9, 0, 301)) (mi_k13.2 _ _ (by rfl)) (ft_invS mi_pq14 (by rfl)) (cy := mi_c14) mi_pq14 rfl (kc14_94_l10_K2 hJ15.I hJ15.R x1 x4 (x5 + 1) (oz1339 hp0.1 hp0.2) (oz1412 hp1 u18) (oz1340 hp2.1 hp2.2 s16 kn1) (oz1345 fi_6019.1 hp3.2 s14 kn1)) (by decide) ?_
      intro vg19 ig19 ag19 qg19 rg19 kg19 hg19
      have hGg19 := kG_call hJ15 kg19 (by decide +kernel)
      have efig19_6019 : (ig19 6019).toInt = ((i 6019) + 1).toInt := kg19.ti 6019 rfl
      exact ft_ret mi_k13 (by rfl) (hP vg19 _ _ _ _ hGg19 (oz1342 efig19_6019 s14 kn1))
  ·
    have c21 : (40 : Int32).toInt ≤ x5.toInt := kd_ltF c; clear c
    exact (oz1346 c21 hp2.2 kn40).elim
set_option maxRecDepth 100000 in
theorem kc11_l02_l11 {i : Nat → Int32} {a : Nat → List Int32} {q : Nat → List Int64} {r : Nat → Nat} (hI : kI i a q) (hr : kr r)  : km 1 11 [.int 2, .int 1] (ks i a q r) (kPI (ks i a q r) (fun v => v.toInt = 2)) := by
  have hG := kG_self kW0 hI hr
  refine km_ofPI (q := (mi_h11, mi_c11)) rfl (by decide) (Nat.le_of_ble_eq_true rfl) ?_
  intro P hP
  first | refine ft_goL mi_k11 16 26 [(3, .int 0), (2, .int 2), (0, .int 2), (1, .int 1)] [.int (2 * 4), .ref (mi_RO + 3)] (by rfl) ?_ | refine ft_go mi_k11 16 26 [(3, .int 0), (2, .int 2), (0, .int 2), (1, .int 1)] [.int (2 * 4), .ref (mi_RO + 3)] i a q r (by rfl) ?_
  refine ko_top (by decide : (2 * 4 : Int32) = 8) ?_
  first | refine fo_goS mi_k11 fz11_26_2_28 [.int (8 + 1), .ref (mi_RO + 3)] (by rfl) ?_ | refine ft_go mi_k11 2 28 [(3, .int 0), (2, .int 2), (0, .int 2), (1, .int 1)] [.int (8 + 1), .ref (mi_RO + 3)] i a q r (by rfl) ?_
  refine ko_top (by decide : (8 + 1 : Int32) = 9) ?_
  refine ft_ro mi_k11 (w := 30) (by decide +kernel) (by decide +kernel) ?_
  first | refine fo_goS mi_k11 fz11_29_2_33 [.int 2] (by rfl) ?_ | refine ft_go mi_k11 2 33 [(3, .int 0), (2, .int 2), (0, .int 2), (1, .int 1)] [.int 2] i a q r (by rfl) ?_
  exact ft_ret mi_k11 (by rfl) (hP 2 (oz1411 kn2))
def w14_94_l11_K2 : kW := ([6019], [96], [], [])
set_option maxRecDepth 100000 in
theorem kc14_94_l11_K2 {i : Nat → Int32} {a : Nat → List Int32} {q : Nat → List Int64} {r : Nat → Nat} (hI : kI i a q) (hr : kr r) (x1 : Int32) (x3 : Int32) (x4 : Int32) (hp0 : ((0 : Int) ≤ x1.toInt) ∧ (x1.toInt ≤ 49)) (hp1 : ((a 95).getD x1.toNatClampNeg 0).toInt = 2) (hp2 : ((0 : Int) ≤ x4.toInt) ∧ ((x4.toInt + 1) ≤ 39)) (hp3 : ((0 : Int) ≤ (i 6019).toInt) ∧ (((i 6019).toInt + 1) ≤ 900)) : km 5 14 [.ref 94, .int x1, .int 1, .int x3, .int x4] (ks i a q r) (kVI w14_94_l11_K2 i a q r (fun v i1 a1 q1 r1 => (i1 6019).toInt = ((i 6019).toInt + 1))) := by
  have hG := kG_self w14_94_l11_K2 hI hr
  refine km_ofI (q := (mi_h14, mi_c14)) rfl (by decide) (Nat.le_of_ble_eq_true rfl) ?_
  intro P hP
  have r1 : ((0 : Int) ≤ ((a 95).getD x1.toNatClampNeg 0).toInt) ∧ (((a 95).getD x1.toNatClampNeg 0).toInt ≤ 7) := hG.I.2.2.1 95 (x1.toNatClampNeg)
  have fi_6019 : ((0 : Int) ≤ (i 6019).toInt) ∧ ((i 6019).toInt ≤ 1000) := hG.I.1 6019
  first | refine fo_goL mi_k14 fz14_0_3_5 [(0, .ref 94), (1, .int x1), (2, .int 1), (3, .int x3), (4, .int x4)] [.int x1, .ref 95] (by rfl) ?_ | refine ft_go mi_k14 3 5 [(0, .ref 94), (1, .int x1), (2, .int 1), (3, .int x3), (4, .int x4)] [.int x1, .ref 95] i a q r (by rfl) ?_
  refine ko_iald3 mi_k14.1 (n := 50) (c := 50) (ax := (0, 0, 0, 0, 0)) (mi_k14.2 _ _ (by rfl)) (by rfl) (ksG95 _ _ _ _) (hG.I.2.1 95) rfl (oz3 hp0.1) (oz1336 hp0.2) ?_
  refine ko_top (kj_eq (oz1411 hp1) (by decide) : ((a 95).getD x1.toNatClampNeg 0) = 2) ?_
  first | refine ft_goL mi_k14 9 48 [(5, .int 2), (0, .ref 94), (1, .int x1), (2, .int 1), (3, .int x3), (4, .int x4)] [.int x4, .int x3, .int 0, .int 2, .int x1, .ref 94] (by rfl) ?_ | refine ft_go mi_k14 9 48 [(5, .int 2), (0, .ref 94), (1, .int x1), (2, .int 1), (3, .int x3), (4, .int x4)] [.int x4, .int x3, .int 0, .int 2, .int x1, .ref 94] i a q r (by rfl) ?_
  refine ko_callI mi_k14.1 (pc := 48) (ls := [(5, .int 2), (0, .ref 94), (1, .int x1), (2, .int 1), (3, .int x3), (4, .int x4)]) (st := [.int x4, .int x3, .int 0, .int 2, .int x1, .ref 94]) (h := ks i a q r) (i := (.invokevirtual 35, 3, 13, 0, 9, 0, 297)) (mi_k14.2 _ _ (by rfl)) (ft_invS mi_pq13 (by rfl)) (cy := mi_c13) mi_pq13 rfl (kc13_94_l12_l20_K2 hG.I hG.R x1 x3 x4 (oz1339 hp0.1 hp0.2) (oz1411 hp1) (oz1353 hp2.1 hp2.2) (oz1354 fi_6019.1 hp3.2)) (by decide) ?_
  intro vg2 ig2 ag2 qg2 rg2 kg2 hg2
  have hGg2 := kG_call hG kg2 (by decide +kernel)
  have z3 : (ig2 6019).toInt = ((i 6019).toInt + 1) := hg2
  have b4 : ((-2147483648 : Int) ≤ vg2.toInt) ∧ (vg2.toInt ≤ 2147483647) := kd_bd vg2
  first | refine fo_goS mi_k14 fz14_51_2_53 [.int (vg2 * 2)] (by rfl) ?_ | refine ft_go mi_k14 2 53 [(5, .int 2), (0, .ref 94), (1, .int x1), (2, .int 1), (3, .int x3), (4, .int x4)] [.int (vg2 * 2)] ig2 ag2 qg2 rg2 (by rfl) ?_
  exact ft_ret mi_k14 (by rfl) (hP (vg2 * 2) _ _ _ _ hGg2 (oz1355 z3))
def w13_94_l10_l21_K2 : kW := ([6019], [96], [], [])
set_option maxRecDepth 100000 in
theorem kc13_94_l10_l21_K2 {i : Nat → Int32} {a : Nat → List Int32} {q : Nat → List Int64} {r : Nat → Nat} (hI : kI i a q) (hr : kr r) (x1 : Int32) (x4 : Int32) (x5 : Int32) (hp0 : ((0 : Int) ≤ x1.toInt) ∧ (x1.toInt ≤ 49)) (hp1 : ((a 95).getD x1.toNatClampNeg 0).toInt = 2) (hp2 : ((0 : Int) ≤ x5.toInt) ∧ ((x5.toInt + 2) ≤ 39)) (hp3 : ((0 : Int) ≤ (i 6019).toInt) ∧ (((i 6019).toInt + 2) ≤ 900)) : km 7 13 [.ref 94, .int x1, .int 0, .int 1, .int x4, .int x5] (ks i a q r) (kVI w13_94_l10_l21_K2 i a q r (fun v i1 a1 q1 r1 => (i1 6019).toInt = ((i 6019).toInt + 2))) := by
  have hG := kG_self w13_94_l10_l21_K2 hI hr
  refine km_ofI (q := (mi_h13, mi_c13)) rfl (by decide) (Nat.le_of_ble_eq_true rfl) ?_
  intro P hP
  have r1 : ((0 : Int) ≤ ((a 95).getD x1.toNatClampNeg 0).toInt) ∧ (((a 95).getD x1.toNatClampNeg 0).toInt ≤ 7) := hG.I.2.2.1 95 (x1.toNatClampNeg)
  have fi_6019 : ((0 : Int) ≤ (i 6019).toInt) ∧ ((i 6019).toInt ≤ 1000) := hG.I.1 6019
  first | refine fo_goL mi_k13 fz13_0_2_4 [(0, .ref 94), (1, .int x1), (2, .int 0), (3, .int 1), (4, .int x4), (5, .int x5)] [.int 40, .int x5] (by rfl) ?_ | refine ft_go mi_k13 2 4 [(0, .ref 94), (1, .int x1), (2, .int 0), (3, .int 1), (4, .int x4), (5, .int x5)] [.int 40, .int x5] i a q r (by rfl) ?_
  refine ft_ifS mi_k13 (decide (x5 < 40)) 9 7 [] (by rfl) (fun c => ?_) (fun c => ?_)
  ·
    have c2 : x5.toInt < (40 : Int32).toInt := kd_lt c; clear c
    first | refine fo_goS mi_k13 fz13_9_2_11 [.int 1, .int 0] (by rfl) ?_ | refine ft_go mi_k13 2 11 [(0, .ref 94), (1, .int x1), (2, .int 0), (3, .int 1), (4, .int x4), (5, .int x5)] [.int 1, .int 0] i a q r (by rfl) ?_
    refine ko_callPI mi_k13.1 (pc := 11) (ls := [(0, .ref 94), (1, .int x1), (2, .int 0), (3, .int 1), (4, .int x4), (5, .int x5)]) (st := [.int 1, .int 0]) (h := ks i a q r) (i := (.invokestatic 39, 3, 11, 0, 9, 0, 298)) (mi_k13.2 _ _ (by rfl)) (ft_invS mi_pq11 (by rfl)) (cy := mi_c11) mi_pq11 rfl (kc11_l00_l11 hG.I hG.R ) (by decide) ?_
    intro vg3 hg3
    have z4 : vg3.toInt = 0 := hg3
    have evvg3 := kj_eq (oz236 z4) (by decide : (0 : Int32).toInt = 0)
    subst evvg3
    first | refine ft_goL mi_k13 5 23 [(6, .int 0), (0, .ref 94), (1, .int x1), (2, .int 0), (3, .int 1), (4, .int x4), (5, .int x5)] [.int (0 * 4), .ref (mi_RO + 3)] (by rfl) ?_ | refine ft_go mi_k13 5 23 [(6, .int 0), (0, .ref 94), (1, .int x1), (2, .int 0), (3, .int 1), (4, .int x4), (5, .int x5)] [.int (0 * 4), .ref (mi_RO + 3)] i a q r (by rfl) ?_
    refine ko_top (by decide : (0 * 4 : Int32) = 0) ?_
    first | refine fo_goS mi_k13 fz13_23_2_25 [.int (0 + 1), .ref (mi_RO + 3)] (by rfl) ?_ | refine ft_go mi_k13 2 25 [(6, .int 0), (0, .ref 94), (1, .int x1), (2, .int 0), (3, .int 1), (4, .int x4), (5, .int x5)] [.int (0 + 1), .ref (mi_RO + 3)] i a q r (by rfl) ?_
    refine ko_top (by decide : (0 + 1 : Int32) = 1) ?_
    refine ft_ro mi_k13 (w := 10) (by decide +kernel) (by decide +kernel) ?_
    first | refine fo_goL mi_k13 fz13_26_4_34 [(7, .int 10), (6, .int 0), (0, .ref 94), (1, .int x1), (2, .int 0), (3, .int 1), (4, .int x4), (5, .int x5)] [.int 24, .int (i 6019)] (by rfl) ?_ | refine ft_go mi_k13 4 34 [(7, .int 10), (6, .int 0), (0, .ref 94), (1, .int x1), (2, .int 0), (3, .int 1), (4, .int x4), (5, .int x5)] [.int 24, .int (i 6019)] i a q r (by rfl) ?_
    refine ft_ifS mi_k13 (decide (24 ≤ (i 6019))) 48 37 [] (by rfl) (fun c => ?_) (fun c => ?_)
    ·
      have c6 : (24 : Int32).toInt ≤ (i 6019).toInt := kd_le c; clear c
      have s7 : ((i 6019) + 1).toInt = (i 6019).toInt + (1 : Int32).toInt := kd_add (oz1332 c6 kn24 kn1) (oz951 fi_6019.2 kn1)
      have hJ8 := kG_i hG 6019 rfl (v := ((i 6019) + 1)) ⟨(oz1333 c6 s7 kn24 kn1), (oz1351 hp3.2 s7 kn1)⟩
      have s9 : (x5 + 1).toInt = x5.toInt + (1 : Int32).toInt := kd_add (oz12 hp2.1 kn1) (oz1352 hp2.2 kn1)
      first | refine fo_goI mi_k13 fz13_48_15_72 [.int (x5 + 1), .int x4, .int 1, .int x1, .ref 94] (ku i 6019 ((i 6019) + 1)) (by rfl) ?_ | refine ft_go mi_k13 15 72 [(7, .int 10), (6, .int 0), (0, .ref 94), (1, .int x1), (2, .int 0), (3, .int 1), (4, .int x4), (5, .int x5)] [.int (x5 + 1), .int x4, .int 1, .int x1, .ref 94] (ku i 6019 ((i 6019) + 1)) a q r (by rfl) ?_
      refine ko_callI mi_k13.1 (pc := 72) (ls := [(7, .int 10), (6, .int 0), (0, .ref 94), (1, .int x1), (2, .int 0), (3, .int 1), (4, .int x4), (5, .int x5)]) (st := [.int (x5 + 1), .int x4, .int 1, .int x1, .ref 94]) (h := ks (ku i 6019 ((i 6019) + 1)) a q r) (i := (.invokevirtual 43, 3, 14, 0, 9, 0, 301)) (mi_k13.2 _ _ (by rfl)) (ft_invS mi_pq14 (by rfl)) (cy := mi_c14) mi_pq14 rfl (kc14_94_l11_K2 hJ8.I hJ8.R x1 x4 (x5 + 1) (oz1339 hp0.1 hp0.2) (oz1411 hp1) (oz1356 hp2.1 hp2.2 s9 kn1) (oz1357 c6 hp3.2 s7 kn24 kn1)) (by decide) ?_
      intro vg10 ig10 ag10 qg10 rg10 kg10 hg10
      have hGg10 := kG_call hJ8 kg10 (by decide +kernel)
      have z11 : (ig10 6019).toInt = (((i 6019) + 1).toInt + 1) := hg10
      exact ft_ret mi_k13 (by rfl) (hP vg10 _ _ _ _ hGg10 (oz1358 s7 z11 kn1))
    ·
      have c12 : (i 6019).toInt < (24 : Int32).toInt := kd_leF c; clear c
      first | refine fo_goS mi_k13 fz13_37_5_47 [.int 10, .int (i 6019), .ref 96] (by rfl) ?_ | refine ft_go mi_k13 5 47 [(7, .int 10), (6, .int 0), (0, .ref 94), (1, .int x1), (2, .int 0), (3, .int 1), (4, .int x4), (5, .int x5)] [.int 10, .int (i 6019), .ref 96] i a q r (by rfl) ?_
      refine ko_iast3 mi_k13.1 (n := 24) (c := 24) (ax := (0, 0, 0, 0, 0)) (mi_k13.2 _ _ (by rfl)) (by rfl) (ksG96 _ _ _ _) (ksA96 _ _ _ _) (hG.I.2.1 96) rfl (oz3 fi_6019.1) (oz1343 c12 kn24) ?_
      intro a13 ea13 fa13
      have hJ13 := kG_a3 hG 96 rfl ea13 fa13 (kd_bd _)
      have s14 : ((i 6019) + 1).toInt = (i 6019).toInt + (1 : Int32).toInt := kd_add (oz12 fi_6019.1 kn1) (oz951 fi_6019.2 kn1)
      have hJ15 := kG_i hJ13 6019 rfl (v := ((i 6019) + 1)) ⟨(oz14 fi_6019.1 s14 kn1), (oz1351 hp3.2 s14 kn1)⟩
      have s16 : (x5 + 1).toInt = x5.toInt + (1 : Int32).toInt := kd_add (oz12 hp2.1 kn1) (oz1352 hp2.2 kn1)
      first | refine fo_goI mi_k13 fz13_48_15_72 [.int (x5 + 1), .int x4, .int 1, .int x1, .ref 94] (ku i 6019 ((i 6019) + 1)) (by rfl) ?_ | refine ft_go mi_k13 15 72 [(7, .int 10), (6, .int 0), (0, .ref 94), (1, .int x1), (2, .int 0), (3, .int 1), (4, .int x4), (5, .int x5)] [.int (x5 + 1), .int x4, .int 1, .int x1, .ref 94] (ku i 6019 ((i 6019) + 1)) a13 q r (by rfl) ?_
      have r17 : ((0 : Int) ≤ ((a13 95).getD x1.toNatClampNeg 0).toInt) ∧ (((a13 95).getD x1.toNatClampNeg 0).toInt ≤ 7) := hJ15.I.2.2.1 95 (x1.toNatClampNeg)
      have u18 : ((a13 95).getD x1.toNatClampNeg 0).toInt = ((a 95).getD x1.toNatClampNeg 0).toInt := congrArg (fun z : List Int32 => (z.getD x1.toNatClampNeg 0).toInt) (fa13 95 (by decide))
      refine ko_callI mi_k13.1 (pc := 72) (ls := [(7, .int 10), (6, .int 0), (0, .ref 94), (1, .int x1), (2, .int 0), (3, .int 1), (4, .int x4), (5, .int x5)]) (st := [.int (x5 + 1), .int x4, .int 1, .int x1, .ref 94]) (h := ks (ku i 6019 ((i 6019) + 1)) a13 q r) (i := (.invokevirtual 43, 3, 14, 0, 9, 0, 301)) (mi_k13.2 _ _ (by rfl)) (ft_invS mi_pq14 (by rfl)) (cy := mi_c14) mi_pq14 rfl (kc14_94_l11_K2 hJ15.I hJ15.R x1 x4 (x5 + 1) (oz1339 hp0.1 hp0.2) (oz1412 hp1 u18) (oz1356 hp2.1 hp2.2 s16 kn1) (oz1359 fi_6019.1 hp3.2 s14 kn1)) (by decide) ?_
      intro vg19 ig19 ag19 qg19 rg19 kg19 hg19
      have hGg19 := kG_call hJ15 kg19 (by decide +kernel)
      have z20 : (ig19 6019).toInt = (((i 6019) + 1).toInt + 1) := hg19
      exact ft_ret mi_k13 (by rfl) (hP vg19 _ _ _ _ hGg19 (oz1358 s14 z20 kn1))
  ·
    have c21 : (40 : Int32).toInt ≤ x5.toInt := kd_ltF c; clear c
    exact (oz1360 c21 hp2.2 kn40).elim
def w13_94_l12_l21_K2 : kW := ([6019], [96], [], [])
set_option maxRecDepth 100000 in
theorem kc13_94_l12_l21_K2 {i : Nat → Int32} {a : Nat → List Int32} {q : Nat → List Int64} {r : Nat → Nat} (hI : kI i a q) (hr : kr r) (x1 : Int32) (x4 : Int32) (x5 : Int32) (hp0 : ((0 : Int) ≤ x1.toInt) ∧ (x1.toInt ≤ 49)) (hp1 : ((a 95).getD x1.toNatClampNeg 0).toInt = 2) (hp2 : ((0 : Int) ≤ x5.toInt) ∧ ((x5.toInt + 3) ≤ 39)) (hp3 : ((0 : Int) ≤ (i 6019).toInt) ∧ (((i 6019).toInt + 3) ≤ 900)) : km 9 13 [.ref 94, .int x1, .int 2, .int 1, .int x4, .int x5] (ks i a q r) (kVI w13_94_l12_l21_K2 i a q r (fun v i1 a1 q1 r1 => (i1 6019).toInt = ((i 6019).toInt + 3))) := by
  have hG := kG_self w13_94_l12_l21_K2 hI hr
  refine km_ofI (q := (mi_h13, mi_c13)) rfl (by decide) (Nat.le_of_ble_eq_true rfl) ?_
  intro P hP
  have r1 : ((0 : Int) ≤ ((a 95).getD x1.toNatClampNeg 0).toInt) ∧ (((a 95).getD x1.toNatClampNeg 0).toInt ≤ 7) := hG.I.2.2.1 95 (x1.toNatClampNeg)
  have fi_6019 : ((0 : Int) ≤ (i 6019).toInt) ∧ ((i 6019).toInt ≤ 1000) := hG.I.1 6019
  first | refine fo_goL mi_k13 fz13_0_2_4 [(0, .ref 94), (1, .int x1), (2, .int 2), (3, .int 1), (4, .int x4), (5, .int x5)] [.int 40, .int x5] (by rfl) ?_ | refine ft_go mi_k13 2 4 [(0, .ref 94), (1, .int x1), (2, .int 2), (3, .int 1), (4, .int x4), (5, .int x5)] [.int 40, .int x5] i a q r (by rfl) ?_
  refine ft_ifS mi_k13 (decide (x5 < 40)) 9 7 [] (by rfl) (fun c => ?_) (fun c => ?_)
  ·
    have c2 : x5.toInt < (40 : Int32).toInt := kd_lt c; clear c
    first | refine fo_goS mi_k13 fz13_9_2_11 [.int 1, .int 2] (by rfl) ?_ | refine ft_go mi_k13 2 11 [(0, .ref 94), (1, .int x1), (2, .int 2), (3, .int 1), (4, .int x4), (5, .int x5)] [.int 1, .int 2] i a q r (by rfl) ?_
    refine ko_callPI mi_k13.1 (pc := 11) (ls := [(0, .ref 94), (1, .int x1), (2, .int 2), (3, .int 1), (4, .int x4), (5, .int x5)]) (st := [.int 1, .int 2]) (h := ks i a q r) (i := (.invokestatic 39, 3, 11, 0, 9, 0, 298)) (mi_k13.2 _ _ (by rfl)) (ft_invS mi_pq11 (by rfl)) (cy := mi_c11) mi_pq11 rfl (kc11_l02_l11 hG.I hG.R ) (by decide) ?_
    intro vg3 hg3
    have z4 : vg3.toInt = 2 := hg3
    have evvg3 := kj_eq (oz1411 z4) (by decide : (2 : Int32).toInt = 2)
    subst evvg3
    first | refine ft_goL mi_k13 5 23 [(6, .int 2), (0, .ref 94), (1, .int x1), (2, .int 2), (3, .int 1), (4, .int x4), (5, .int x5)] [.int (2 * 4), .ref (mi_RO + 3)] (by rfl) ?_ | refine ft_go mi_k13 5 23 [(6, .int 2), (0, .ref 94), (1, .int x1), (2, .int 2), (3, .int 1), (4, .int x4), (5, .int x5)] [.int (2 * 4), .ref (mi_RO + 3)] i a q r (by rfl) ?_
    refine ko_top (by decide : (2 * 4 : Int32) = 8) ?_
    first | refine fo_goS mi_k13 fz13_23_2_25 [.int (8 + 1), .ref (mi_RO + 3)] (by rfl) ?_ | refine ft_go mi_k13 2 25 [(6, .int 2), (0, .ref 94), (1, .int x1), (2, .int 2), (3, .int 1), (4, .int x4), (5, .int x5)] [.int (8 + 1), .ref (mi_RO + 3)] i a q r (by rfl) ?_
    refine ko_top (by decide : (8 + 1 : Int32) = 9) ?_
    refine ft_ro mi_k13 (w := 30) (by decide +kernel) (by decide +kernel) ?_
    first | refine fo_goL mi_k13 fz13_26_4_34 [(7, .int 30), (6, .int 2), (0, .ref 94), (1, .int x1), (2, .int 2), (3, .int 1), (4, .int x4), (5, .int x5)] [.int 24, .int (i 6019)] (by rfl) ?_ | refine ft_go mi_k13 4 34 [(7, .int 30), (6, .int 2), (0, .ref 94), (1, .int x1), (2, .int 2), (3, .int 1), (4, .int x4), (5, .int x5)] [.int 24, .int (i 6019)] i a q r (by rfl) ?_
    refine ft_ifS mi_k13 (decide (24 ≤ (i 6019))) 48 37 [] (by rfl) (fun c => ?_) (fun c => ?_)
    ·
      have c6 : (24 : Int32).toInt ≤ (i 6019).toInt := kd_le c; clear c
      have s7 : ((i 6019) + 1).toInt = (i 6019).toInt + (1 : Int32).toInt := kd_add (oz1332 c6 kn24 kn1) (oz951 fi_6019.2 kn1)
      have hJ8 := kG_i hG 6019 rfl (v := ((i 6019) + 1)) ⟨(oz1333 c6 s7 kn24 kn1), (oz1385 hp3.2 s7 kn1)⟩
      first | refine ft_goI mi_k13 12 83 [.int 2, .ref (mi_RO + 4), .int x1, .ref 94] (ku i 6019 ((i 6019) + 1)) (by rfl) ?_ | refine ft_go mi_k13 12 83 [(7, .int 30), (6, .int 2), (0, .ref 94), (1, .int x1), (2, .int 2), (3, .int 1), (4, .int x4), (5, .int x5)] [.int 2, .ref (mi_RO + 4), .int x1, .ref 94] (ku i 6019 ((i 6019) + 1)) a q r (by rfl) ?_
      refine ft_ro mi_k13 (w := 0) (by decide +kernel) (by decide +kernel) ?_
      have s10 : (x5 + 1).toInt = x5.toInt + (1 : Int32).toInt := kd_add (oz12 hp2.1 kn1) (oz1366 hp2.2 kn1)
      first | refine ft_goS mi_k13 8 105 [.int (x5 + 1), .int x4, .int 1, .int 0, .int x1, .ref 94] (by rfl) ?_ | refine ft_go mi_k13 8 105 [(7, .int 30), (6, .int 2), (0, .ref 94), (1, .int x1), (2, .int 2), (3, .int 1), (4, .int x4), (5, .int x5)] [.int (x5 + 1), .int x4, .int 1, .int 0, .int x1, .ref 94] (ku i 6019 ((i 6019) + 1)) a q r (by rfl) ?_
      refine ko_callI mi_k13.1 (pc := 105) (ls := [(7, .int 30), (6, .int 2), (0, .ref 94), (1, .int x1), (2, .int 2), (3, .int 1), (4, .int x4), (5, .int x5)]) (st := [.int (x5 + 1), .int x4, .int 1, .int 0, .int x1, .ref 94]) (h := ks (ku i 6019 ((i 6019) + 1)) a q r) (i := (.invokevirtual 35, 3, 13, 0, 9, 0, 297)) (mi_k13.2 _ _ (by rfl)) (ft_invS mi_pq13 (by rfl)) (cy := mi_c13) mi_pq13 rfl (kc13_94_l10_l21_K2 hJ8.I hJ8.R x1 x4 (x5 + 1) (oz1339 hp0.1 hp0.2) (oz1411 hp1) (oz1372 hp2.1 hp2.2 s10 kn1) (oz1388 c6 hp3.2 s7 kn24 kn1)) (by decide) ?_
      intro vg11 ig11 ag11 qg11 rg11 kg11 hg11
      have hGg11 := kG_call hJ8 kg11 (by decide +kernel)
      have z12 : (ig11 6019).toInt = (((i 6019) + 1).toInt + 2) := hg11
      first | refine ft_goL mi_k13 5 196 [(8, .int vg11), (7, .int 30), (6, .int 2), (0, .ref 94), (1, .int x1), (2, .int 2), (3, .int 1), (4, .int x4), (5, .int x5)] [.int (-vg11)] (by rfl) ?_ | refine ft_go mi_k13 5 196 [(8, .int vg11), (7, .int 30), (6, .int 2), (0, .ref 94), (1, .int x1), (2, .int 2), (3, .int 1), (4, .int x4), (5, .int x5)] [.int (-vg11)] ig11 ag11 qg11 rg11 (by rfl) ?_
      exact ft_ret mi_k13 (by rfl) (hP (-vg11) _ _ _ _ hGg11 (oz1389 s7 z12 kn1))
    ·
      have c13 : (i 6019).toInt < (24 : Int32).toInt := kd_leF c; clear c
      first | refine fo_goS mi_k13 fz13_37_5_47 [.int 30, .int (i 6019), .ref 96] (by rfl) ?_ | refine ft_go mi_k13 5 47 [(7, .int 30), (6, .int 2), (0, .ref 94), (1, .int x1), (2, .int 2), (3, .int 1), (4, .int x4), (5, .int x5)] [.int 30, .int (i 6019), .ref 96] i a q r (by rfl) ?_
      refine ko_iast3 mi_k13.1 (n := 24) (c := 24) (ax := (0, 0, 0, 0, 0)) (mi_k13.2 _ _ (by rfl)) (by rfl) (ksG96 _ _ _ _) (ksA96 _ _ _ _) (hG.I.2.1 96) rfl (oz3 fi_6019.1) (oz1343 c13 kn24) ?_
      intro a14 ea14 fa14
      have hJ14 := kG_a3 hG 96 rfl ea14 fa14 (kd_bd _)
      have s15 : ((i 6019) + 1).toInt = (i 6019).toInt + (1 : Int32).toInt := kd_add (oz12 fi_6019.1 kn1) (oz951 fi_6019.2 kn1)
      have hJ16 := kG_i hJ14 6019 rfl (v := ((i 6019) + 1)) ⟨(oz14 fi_6019.1 s15 kn1), (oz1385 hp3.2 s15 kn1)⟩
      first | refine ft_goI mi_k13 12 83 [.int 2, .ref (mi_RO + 4), .int x1, .ref 94] (ku i 6019 ((i 6019) + 1)) (by rfl) ?_ | refine ft_go mi_k13 12 83 [(7, .int 30), (6, .int 2), (0, .ref 94), (1, .int x1), (2, .int 2), (3, .int 1), (4, .int x4), (5, .int x5)] [.int 2, .ref (mi_RO + 4), .int x1, .ref 94] (ku i 6019 ((i 6019) + 1)) a14 q r (by rfl) ?_
      refine ft_ro mi_k13 (w := 0) (by decide +kernel) (by decide +kernel) ?_
      have s18 : (x5 + 1).toInt = x5.toInt + (1 : Int32).toInt := kd_add (oz12 hp2.1 kn1) (oz1366 hp2.2 kn1)
      first | refine ft_goS mi_k13 8 105 [.int (x5 + 1), .int x4, .int 1, .int 0, .int x1, .ref 94] (by rfl) ?_ | refine ft_go mi_k13 8 105 [(7, .int 30), (6, .int 2), (0, .ref 94), (1, .int x1), (2, .int 2), (3, .int 1), (4, .int x4), (5, .int x5)] [.int (x5 + 1), .int x4, .int 1, .int 0, .int x1, .ref 94] (ku i 6019 ((i 6019) + 1)) a14 q r (by rfl) ?_
      have r19 : ((0 : Int) ≤ ((a14 95).getD x1.toNatClampNeg 0).toInt) ∧ (((a14 95).getD x1.toNatClampNeg 0).toInt ≤ 7) := hJ16.I.2.2.1 95 (x1.toNatClampNeg)
      have u20 : ((a14 95).getD x1.toNatClampNeg 0).toInt = ((a 95).getD x1.toNatClampNeg 0).toInt := congrArg (fun z : List Int32 => (z.getD x1.toNatClampNeg 0).toInt) (fa14 95 (by decide))
      refine ko_callI mi_k13.1 (pc := 105) (ls := [(7, .int 30), (6, .int 2), (0, .ref 94), (1, .int x1), (2, .int 2), (3, .int 1), (4, .int x4), (5, .int x5)]) (st := [.int (x5 + 1), .int x4, .int 1, .int 0, .int x1, .ref 94]) (h := ks (ku i 6019 ((i 6019) + 1)) a14 q r) (i := (.invokevirtual 35, 3, 13, 0, 9, 0, 297)) (mi_k13.2 _ _ (by rfl)) (ft_invS mi_pq13 (by rfl)) (cy := mi_c13) mi_pq13 rfl (kc13_94_l10_l21_K2 hJ16.I hJ16.R x1 x4 (x5 + 1) (oz1339 hp0.1 hp0.2) (oz1412 hp1 u20) (oz1372 hp2.1 hp2.2 s18 kn1) (oz1390 fi_6019.1 hp3.2 s15 kn1)) (by decide) ?_
      intro vg21 ig21 ag21 qg21 rg21 kg21 hg21
      have hGg21 := kG_call hJ16 kg21 (by decide +kernel)
      have z22 : (ig21 6019).toInt = (((i 6019) + 1).toInt + 2) := hg21
      first | refine ft_goL mi_k13 5 196 [(8, .int vg21), (7, .int 30), (6, .int 2), (0, .ref 94), (1, .int x1), (2, .int 2), (3, .int 1), (4, .int x4), (5, .int x5)] [.int (-vg21)] (by rfl) ?_ | refine ft_go mi_k13 5 196 [(8, .int vg21), (7, .int 30), (6, .int 2), (0, .ref 94), (1, .int x1), (2, .int 2), (3, .int 1), (4, .int x4), (5, .int x5)] [.int (-vg21)] ig21 ag21 qg21 rg21 (by rfl) ?_
      exact ft_ret mi_k13 (by rfl) (hP (-vg21) _ _ _ _ hGg21 (oz1389 s15 z22 kn1))
  ·
    have c23 : (40 : Int32).toInt ≤ x5.toInt := kd_ltF c; clear c
    exact (oz1376 c23 hp2.2 kn40).elim
end
