/-! tables by program: the classes of the worlds, the statics, the Strings, the heads of the methods -/
def mi_ft (ci : Nat) : Nat → FieldType := match ci with
  | 0 => tyX0
  | 1 => tyX1
  | 2 => tyX2
  | 3 => tyX3
  | 4 => tyX4
  | 5 => tyX5
  | 6 => tyX6
  | 7 => tyX7
  | 8 => tyX8
  | _ => tyX9
def mi_df (ci : Nat) : List Value := match ci with
  | 0 => [.null, .null, .int 0]
  | 1 => [.null, .null, .null, .null, .int 0, .int 0]
  | 2 => [.null, .int 0, .null, .int 0]
  | 3 => [.int 0, .null, .null, .int 0, .null, .int 0]
  | 4 => [.int 0, .null, .null, .null, .null, .null, .int 0, .int 0, .int 0, .int 0, .null, .null, .null, .null, .int 0, .int 0, .int 0, .null]
  | 5 => [.int 0, .int 0, .int 0, .int 0, .null]
  | 6 => [.null, .int 0, .int 0, .int 0, .null]
  | 7 => [.null, .null, .int 0, .null, .null, .null, .int 0, .null, .null, .null]
  | 8 => [.null, .null, .int 0, .null, .null, .null, .null, .null]
  | _ => [.int 0, .null, .int 0, .int 0, .null, .int 0, .null, .int 0, .int 0, .null, .null, .null, .null, .int 0, .int 0, .int 0, .int 0, .null, .null, .null, .null, .null, .null, .null, .int 0, .int 0, .null, .null, .int 0, .int 0, .null, .int 0, .null, .int 0, .null, .null, .null, .null, .null, .null, .int 0, .int 0, .int 0, .int 0, .null, .int 0, .null, .null, .null, .null, .null, .null, .int 0, .null]
theorem mi_cz0 : (((List.range 3).all fun k => mi_wd ([129, 131, 133].getD k 0) (u_lay RX0 TX0 k)) && mi_wd 115 (.instantiable RX0 3) && mi_wd 84 (.initialized RX0)) = true := by decide +kernel
theorem mi_cd0 : (∀ j, j < 3 → defaultValue (tyX0 j) = vp_V (mi_df 0) j) ∧ (mi_df 0).length = 3 ∧ ∀ k, k < 3 → (TX0 k).1 = RX0 := by decide +kernel
theorem mi_cz1 : (((List.range 6).all fun k => mi_wd ([313, 315, 317, 319, 321, 323].getD k 0) (u_lay RX1 TX1 k)) && mi_wd 296 (.instantiable RX1 6) && mi_wd 88 (.initialized RX1)) = true := by decide +kernel
theorem mi_cd1 : (∀ j, j < 6 → defaultValue (tyX1 j) = vp_V (mi_df 1) j) ∧ (mi_df 1).length = 6 ∧ ∀ k, k < 6 → (TX1 k).1 = RX1 := by decide +kernel
theorem mi_cz2 : (((List.range 4).all fun k => mi_wd ([340, 342, 344, 346].getD k 0) (u_lay RX2 TX2 k)) && mi_wd 327 (.instantiable RX2 4) && mi_wd 89 (.initialized RX2)) = true := by decide +kernel
theorem mi_cd2 : (∀ j, j < 4 → defaultValue (tyX2 j) = vp_V (mi_df 2) j) ∧ (mi_df 2).length = 4 ∧ ∀ k, k < 4 → (TX2 k).1 = RX2 := by decide +kernel
theorem mi_cz3 : (((List.range 6).all fun k => mi_wd ([151, 153, 155, 157, 159, 161].getD k 0) (u_lay RX3 TX3 k)) && mi_wd 138 (.instantiable RX3 6) && mi_wd 85 (.initialized RX3)) = true := by decide +kernel
theorem mi_cd3 : (∀ j, j < 6 → defaultValue (tyX3 j) = vp_V (mi_df 3) j) ∧ (mi_df 3).length = 6 ∧ ∀ k, k < 6 → (TX3 k).1 = RX3 := by decide +kernel
theorem mi_cz4 : (((List.range 18).all fun k => mi_wd ([209, 211, 213, 215, 217, 219, 221, 223, 225, 227, 229, 231, 233, 235, 237, 239, 241, 243].getD k 0) (u_lay RX4 TX4 k)) && mi_wd 109 (.instantiable RX4 18) && mi_wd 83 (.initialized RX4)) = true := by decide +kernel
theorem mi_cd4 : (∀ j, j < 18 → defaultValue (tyX4 j) = vp_V (mi_df 4) j) ∧ (mi_df 4).length = 18 ∧ ∀ k, k < 18 → (TX4 k).1 = RX4 := by decide +kernel
theorem mi_cz5 : (((List.range 5).all fun k => mi_wd ([393, 395, 397, 399, 401].getD k 0) (u_lay RX5 TX5 k)) && mi_wd 376 (.instantiable RX5 5) && mi_wd 91 (.initialized RX5)) = true := by decide +kernel
theorem mi_cd5 : (∀ j, j < 5 → defaultValue (tyX5 j) = vp_V (mi_df 5) j) ∧ (mi_df 5).length = 5 ∧ ∀ k, k < 5 → (TX5 k).1 = RX5 := by decide +kernel
theorem mi_cz6 : (((List.range 5).all fun k => mi_wd ([365, 367, 369, 371, 373].getD k 0) (u_lay RX6 TX6 k)) && mi_wd 352 (.instantiable RX6 5) && mi_wd 90 (.initialized RX6)) = true := by decide +kernel
theorem mi_cd6 : (∀ j, j < 5 → defaultValue (tyX6 j) = vp_V (mi_df 6) j) ∧ (mi_df 6).length = 5 ∧ ∀ k, k < 5 → (TX6 k).1 = RX6 := by decide +kernel
theorem mi_cz7 : (((List.range 10).all fun k => mi_wd ([274, 276, 278, 280, 282, 284, 286, 288, 290, 292].getD k 0) (u_lay RX7 TX7 k)) && mi_wd 248 (.instantiable RX7 10) && mi_wd 87 (.initialized RX7)) = true := by decide +kernel
theorem mi_cd7 : (∀ j, j < 10 → defaultValue (tyX7 j) = vp_V (mi_df 7) j) ∧ (mi_df 7).length = 10 ∧ ∀ k, k < 10 → (TX7 k).1 = RX7 := by decide +kernel
theorem mi_cz8 : (((List.range 8).all fun k => mi_wd ([413, 415, 417, 419, 421, 423, 425, 427].getD k 0) (u_lay RX8 TX8 k)) && mi_wd 101 (.instantiable RX8 8) && mi_wd 82 (.initialized RX8)) = true := by decide +kernel
theorem mi_cd8 : (∀ j, j < 8 → defaultValue (tyX8 j) = vp_V (mi_df 8) j) ∧ (mi_df 8).length = 8 ∧ ∀ k, k < 8 → (TX8 k).1 = RX8 := by decide +kernel
theorem mi_cz9 : (((List.range 54).all fun k => mi_wd ([1091, 1093, 1095, 1097, 1099, 1101, 1103, 1105, 1107, 1109, 1111, 1113, 1115, 1117, 1119, 1121, 1123, 1125, 1127, 1129, 1131, 1133, 1135, 1137, 1139, 1141, 1143, 1145, 1147, 1149, 1151, 1153, 1155, 1157, 1159, 1161, 1163, 1165, 1167, 1169, 1171, 1173, 1175, 1177, 1179, 1181, 1183, 1185, 1187, 1189, 1191, 1193, 1195, 1197].getD k 0) (u_lay RX9 TX9 k)) && mi_wd 1032 (.instantiable RX9 54) && mi_wd 92 (.initialized RX9)) = true := by decide +kernel
theorem mi_cd9 : (∀ j, j < 54 → defaultValue (tyX9 j) = vp_V (mi_df 9) j) ∧ (mi_df 9).length = 54 ∧ ∀ k, k < 54 → (TX9 k).1 = RX9 := by decide +kernel
/-- what is so of class c, which is number ci -/
def mi_Cl (ci : Nat) (c : vw_C) : Prop := (∀ w ∈ u_ws c.1 c.2.1 c.2.2, w ∈ mi_good) ∧ (∀ a, a < c.2.2 → ∀ b, b < c.2.2 → a ≠ b → (c.2.1 a).2.1 ≠ (c.2.1 b).2.1) ∧ (∀ k, k < c.2.2 → parseFieldDescriptor (c.2.1 k).2.2.1 = some (mi_ft ci k)) ∧ (∀ j, j < c.2.2 → defaultValue (mi_ft ci j) = vp_V (mi_df ci) j) ∧ (mi_df ci).length = c.2.2 ∧ Cond.instantiable c.1 c.2.2 ∈ mi_good ∧ Cond.initialized c.1 ∈ mi_good ∧ ∀ k, k < c.2.2 → (c.2.1 k).1 = c.1
theorem mi_b1 {a b : Bool} (h : (a && b) = true) : a = true := (Bool.and_eq_true_iff.mp h).1
theorem mi_b2 {a b : Bool} (h : (a && b) = true) : b = true := (Bool.and_eq_true_iff.mp h).2
theorem mi_lays {C : String} {T : u_T} {N : Nat} {pl : List Nat} (h : ((List.range N).all fun k => mi_wd (pl.getD k 0) (u_lay C T k)) = true) : ∀ w ∈ u_ws C T N, w ∈ mi_good := by
  intro w hw
  obtain ⟨k, hk, rfl⟩ := List.mem_map.mp hw
  exact mi_wd_in (List.all_eq_true.mp h k hk)
theorem mi_cl_ok (ci : Nat) (c : vw_C) (h : vwCl[ci]? = some c) : mi_Cl ci c := by
  match ci, h with
  | 0, h => cases h; exact ⟨mi_lays (mi_b1 (mi_b1 mi_cz0)), nmX0, tyX0_ok, mi_cd0.1, mi_cd0.2.1, mi_wd_in (mi_b2 (mi_b1 mi_cz0)), mi_wd_in (mi_b2 mi_cz0), mi_cd0.2.2⟩
  | 1, h => cases h; exact ⟨mi_lays (mi_b1 (mi_b1 mi_cz1)), nmX1, tyX1_ok, mi_cd1.1, mi_cd1.2.1, mi_wd_in (mi_b2 (mi_b1 mi_cz1)), mi_wd_in (mi_b2 mi_cz1), mi_cd1.2.2⟩
  | 2, h => cases h; exact ⟨mi_lays (mi_b1 (mi_b1 mi_cz2)), nmX2, tyX2_ok, mi_cd2.1, mi_cd2.2.1, mi_wd_in (mi_b2 (mi_b1 mi_cz2)), mi_wd_in (mi_b2 mi_cz2), mi_cd2.2.2⟩
  | 3, h => cases h; exact ⟨mi_lays (mi_b1 (mi_b1 mi_cz3)), nmX3, tyX3_ok, mi_cd3.1, mi_cd3.2.1, mi_wd_in (mi_b2 (mi_b1 mi_cz3)), mi_wd_in (mi_b2 mi_cz3), mi_cd3.2.2⟩
  | 4, h => cases h; exact ⟨mi_lays (mi_b1 (mi_b1 mi_cz4)), nmX4, tyX4_ok, mi_cd4.1, mi_cd4.2.1, mi_wd_in (mi_b2 (mi_b1 mi_cz4)), mi_wd_in (mi_b2 mi_cz4), mi_cd4.2.2⟩
  | 5, h => cases h; exact ⟨mi_lays (mi_b1 (mi_b1 mi_cz5)), nmX5, tyX5_ok, mi_cd5.1, mi_cd5.2.1, mi_wd_in (mi_b2 (mi_b1 mi_cz5)), mi_wd_in (mi_b2 mi_cz5), mi_cd5.2.2⟩
  | 6, h => cases h; exact ⟨mi_lays (mi_b1 (mi_b1 mi_cz6)), nmX6, tyX6_ok, mi_cd6.1, mi_cd6.2.1, mi_wd_in (mi_b2 (mi_b1 mi_cz6)), mi_wd_in (mi_b2 mi_cz6), mi_cd6.2.2⟩
  | 7, h => cases h; exact ⟨mi_lays (mi_b1 (mi_b1 mi_cz7)), nmX7, tyX7_ok, mi_cd7.1, mi_cd7.2.1, mi_wd_in (mi_b2 (mi_b1 mi_cz7)), mi_wd_in (mi_b2 mi_cz7), mi_cd7.2.2⟩
  | 8, h => cases h; exact ⟨mi_lays (mi_b1 (mi_b1 mi_cz8)), nmX8, tyX8_ok, mi_cd8.1, mi_cd8.2.1, mi_wd_in (mi_b2 (mi_b1 mi_cz8)), mi_wd_in (mi_b2 mi_cz8), mi_cd8.2.2⟩
  | 9, h => cases h; exact ⟨mi_lays (mi_b1 (mi_b1 mi_cz9)), nmX9, tyX9_ok, mi_cd9.1, mi_cd9.2.1, mi_wd_in (mi_b2 (mi_b1 mi_cz9)), mi_wd_in (mi_b2 mi_cz9), mi_cd9.2.2⟩
  | k + 10, h => simp [vwCl] at h
def mi_sn : List (String × String × String) := [("java/lang/String", "COMPACT_STRINGS", "Z"), ("ThirdAfter", "LEAST_NUMBER", "[I"), ("ThirdAfter", "MOST_NUMBER", "[I"), ("ThirdAfter$Latches", "OWN_BODY", "[I"), ("ThirdAfter$Latches", "ABOVE", "[I")]
def mi_of : List (String × String) := [("coder", "B"), ("value", "[B")]
def mi_nest : List Cond := [.methodLinkNest "ThirdAfter" 9 ⟨"ThirdAfter$Market", "<init>", "()V"⟩ "ThirdAfter", .methodLinkNest "ThirdAfter$Market" 45 ⟨"ThirdAfter$Book", "<init>", "()V"⟩ "ThirdAfter", .methodLinkNest "ThirdAfter$Market" 52 ⟨"ThirdAfter$Law", "<init>", "()V"⟩ "ThirdAfter", .methodLinkNest "ThirdAfter" 25 ⟨"ThirdAfter$Thought", "<init>", "()V"⟩ "ThirdAfter", .methodLinkNest "ThirdAfter$Thought" 11 ⟨"ThirdAfter$Market", "<init>", "()V"⟩ "ThirdAfter", .methodLinkNest "ThirdAfter" 32 ⟨"ThirdAfter$Changes", "<init>", "()V"⟩ "ThirdAfter", .methodLinkNest "ThirdAfter" 39 ⟨"ThirdAfter$Latches", "<init>", "()V"⟩ "ThirdAfter", .methodLinkNest "ThirdAfter" 52 ⟨"ThirdAfter$Tape", "<init>", "()V"⟩ "ThirdAfter", .methodLinkNest "ThirdAfter$Tape" 28 ⟨"ThirdAfter$Law", "<init>", "()V"⟩ "ThirdAfter", .methodLinkNest "ThirdAfter" 57 ⟨"ThirdAfter$Shelf", "<init>", "()V"⟩ "ThirdAfter", .fieldLinkNest "ThirdAfter$Thought" 130 "ThirdAfter" "LEAST_NUMBER" "[I" "ThirdAfter", .fieldLinkNest "ThirdAfter$Thought" 133 "ThirdAfter" "MOST_NUMBER" "[I" "ThirdAfter"]
def mi_nestB (w : Nat) (q : Cond) : Bool := decide (mi_nest[w]? = some q)
/-- own class, entry, text, the number of the text -/
def mi_strs : List (String × Nat × String × Nat) := [("ThirdAfter$Market", 74, "wphnod", 0), ("ThirdAfter$Tape", 98, "wphnod", 0), ("ThirdAfter$Tape", 100, "(!-", 1), ("ThirdAfter$Tape", 90, "*/%", 2), ("ThirdAfter$Tape", 85, "+-", 3), ("ThirdAfter$Tape", 76, "<=>", 4)]
def mi_txt : List String := ["wphnod", "(!-", "*/%", "+-", "<=>"]
def mi_byt : List (List Int32) := [[119, 112, 104, 110, 111, 100], [40, 33, 45], [42, 47, 37], [43, 45], [60, 61, 62]]
/-- the bytes of a method, as the tables have them -/
def mi_cb (w : Nat) : ByteArray := match mi_ta w with
  | some (.code _ b _ _) => b
  | _ => ⟨#[]⟩
def mi_isC (w : Nat) (y : MethodName) (n : Nat) (r : Option FieldType) : Bool := match mi_ta w with
  | some (.code y1 _ n1 r1) => decide (y1 = y) && Nat.beq n1 n && decide (r1 = r)
  | _ => false
theorem mi_isC_ok {w : Nat} {y : MethodName} {n : Nat} {r : Option FieldType} (h : mi_isC w y n r = true) : Cond.code y (mi_cb w) n r ∈ mi_good := by
  unfold mi_isC at h
  unfold mi_cb
  split at h
  next y1 b n1 r1 e =>
    obtain ⟨h1, h2⟩ := Bool.and_eq_true_iff.mp h
    obtain ⟨h0, h1⟩ := Bool.and_eq_true_iff.mp h1
    rw [← of_decide_eq_true h0, ← of_decide_eq_true h2, ← Nat.eq_of_beq_eq_true h1]
    exact List.mem_filter.mpr ⟨mi_ta_in e, rfl⟩
  next => cases h
/-- a method's head: its name, the place of its code (99999: the law), its locals, what it returns, its class (100: String ..), how many numbers it takes, 0 static 1 virtual 2 constructor 3 the law, cells and slots that it makes -/
abbrev mi_M : Type := MethodName × Nat × Nat × Option FieldType × Nat × Nat × Nat × Nat × Nat
def mi_bytes (r : mi_M) : ByteArray := match Nat.beq r.2.1 99999 with
  | true => code
  | false => mi_cb r.2.1
def mi_h0 : mi_M := (yX0_init, 118, 1, none, 0, 0, 2, 2, 10)
def mi_h1 : mi_M := (yX0_add, 746, 3, none, 0, 2, 1, 0, 0)
def mi_h2 : mi_M := (yX0_dropOldest, 723, 1, none, 0, 0, 1, 0, 0)
def mi_h3 : mi_M := (yX0_become, 706, 2, none, 0, 1, 1, 0, 0)
def mi_h4 : mi_M := (yX1_init, 299, 1, none, 1, 0, 2, 4, 160)
def mi_h5 : mi_M := (yX1_add, 495, 5, none, 1, 4, 1, 0, 0)
def mi_h6 : mi_M := (yX1_forgetOldest, 499, 1, none, 1, 0, 1, 0, 0)
def mi_h7 : mi_M := (yX2_init, 330, 1, none, 2, 0, 2, 2, 74)
def mi_h8 : mi_M := (yX2_isThere, 955, 2, (some .boolean), 2, 1, 1, 0, 0)
def mi_h9 : mi_M := (yX2_add, 943, 2, (some .int), 2, 1, 1, 0, 0)
def mi_h10 : mi_M := (yX2_isUnder, 1026, 4, (some .boolean), 2, 2, 0, 0, 0)
def mi_h11 : mi_M := (yX2_kindWithBody, 962, 4, (some .int), 2, 2, 0, 0, 0)
def mi_h12 : mi_M := (yX2_perform, 951, 4, (some .int), 2, 3, 1, 0, 0)
def mi_h13 : mi_M := (yX2_run, 959, 9, (some .int), 2, 5, 1, 0, 0)
def mi_h14 : mi_M := (yX2_runTopmost, 970, 7, (some .int), 2, 4, 1, 0, 0)
def mi_h15 : mi_M := (yX3_init, 141, 1, none, 3, 0, 2, 3, 363)
def mi_h16 : mi_M := (yX3_clear, 526, 1, none, 3, 0, 1, 0, 0)
def mi_h17 : mi_M := (yX3_add, 569, 3, (some .int), 3, 2, 1, 0, 0)
def mi_h18 : mi_M := (yX3_aimAtNext, 663, 2, none, 3, 1, 1, 0, 0)
def mi_h19 : mi_M := (yX3_push, 735, 2, none, 3, 1, 1, 0, 0)
def mi_h20 : mi_M := (yX3_pop, 739, 1, (some .int), 3, 0, 1, 0, 0)
def mi_h21 : mi_M := (yX3_value, 731, 7, (some .int), 3, 1, 1, 0, 0)
def mi_h22 : mi_M := (yX3_joined, 742, 3, (some .int), 3, 3, 0, 0, 0)
def mi_h23 : mi_M := (yX4_init, 112, 1, none, 4, 0, 2, 23, 505)
def mi_h24 : mi_M := (yX4_has, 478, 2, (some .boolean), 4, 1, 1, 0, 0)
def mi_h25 : mi_M := (yX4_add, 447, 4, (some .int), 4, 3, 1, 0, 0)
def mi_h26 : mi_M := (yX4_column, 487, 2, (some (.array .int)), 4, 1, 1, 0, 0)
def mi_h27 : mi_M := (yX4_number, 482, 3, (some .int), 4, 2, 1, 0, 0)
def mi_h28 : mi_M := (yX4_setNumber, 491, 4, none, 4, 3, 1, 0, 0)
def mi_h29 : mi_M := (yX4_comesIn, 715, 4, (some .int), 4, 1, 1, 0, 0)
def mi_h30 : mi_M := (yX4_payOldestTo, 719, 5, none, 4, 1, 1, 0, 0)
def mi_h31 : mi_M := (yX4_buysFor, 727, 4, (some .int), 4, 2, 1, 0, 0)
def mi_h32 : mi_M := (yX4_dusk, 762, 2, none, 4, 0, 1, 0, 0)
def mi_h33 : mi_M := (yX4_takeDeeds, 699, 4, none, 4, 2, 1, 0, 0)
def mi_h34 : mi_M := (yX4_become, 695, 4, none, 4, 1, 1, 0, 0)
def mi_h35 : mi_M := (yX5_init, 379, 1, none, 5, 0, 2, 1, 60)
def mi_h36 : mi_M := (yX5_isRowOf, 458, 2, (some .boolean), 5, 1, 1, 0, 0)
def mi_h37 : mi_M := (yX5_hasCells, 1018, 3, (some .boolean), 5, 2, 1, 0, 0)
def mi_h38 : mi_M := (yX5_holdLatch, 983, 2, none, 5, 1, 1, 0, 0)
def mi_h39 : mi_M := (yX5_holdRow, 991, 4, none, 5, 2, 1, 0, 0)
def mi_h40 : mi_M := (yX5_narrowed, 1005, 3, (some .long), 5, 1, 1, 0, 0)
def mi_h41 : mi_M := (yX6_init, 355, 1, none, 6, 0, 2, 5, 489)
def mi_h42 : mi_M := (yX6_add, 514, 2, (some .int), 6, 1, 1, 0, 0)
def mi_h43 : mi_M := (yX6_exchange, 667, 3, (some (.object "ThirdAfter$Law")), 6, 1, 1, 0, 0)
def mi_h44 : mi_M := (yX6_read, 522, 2, (some .int), 6, 0, 1, 0, 0)
def mi_h45 : mi_M := (yX6_here, 558, 1, (some .int), 6, 0, 1, 0, 0)
def mi_h46 : mi_M := (yX6_take, 656, 2, (some .boolean), 6, 1, 1, 0, 0)
def mi_h47 : mi_M := (yX6_takeOf, 574, 3, (some .int), 6, 1, 1, 0, 0)
def mi_h48 : mi_M := (yX6_readLine, 530, 2, none, 6, 0, 1, 0, 0)
def mi_h49 : mi_M := (yX6_readEither, 534, 3, none, 6, 1, 1, 0, 0)
def mi_h50 : mi_M := (yX6_readBoth, 538, 3, none, 6, 1, 1, 0, 0)
def mi_h51 : mi_M := (yX6_readCompared, 542, 3, none, 6, 1, 1, 0, 0)
def mi_h52 : mi_M := (yX6_readSum, 546, 4, none, 6, 1, 1, 0, 0)
def mi_h53 : mi_M := (yX6_readProduct, 550, 4, none, 6, 1, 1, 0, 0)
def mi_h54 : mi_M := (yX6_readPart, 554, 4, none, 6, 1, 1, 0, 0)
def mi_h55 : mi_M := (yX6_readNumber, 565, 3, none, 6, 0, 1, 0, 0)
def mi_h56 : mi_M := (yX6_isDigit, 561, 1, (some .boolean), 6, 1, 0, 0, 0)
def mi_h57 : mi_M := (yX7_init, 251, 1, none, 7, 0, 2, 39, 712)
def mi_h58 : mi_M := (yX7_read, 687, 5, none, 7, 2, 1, 0, 0)
def mi_h59 : mi_M := (yX7_runFrom, 691, 2, none, 7, 1, 1, 0, 0)
def mi_h60 : mi_M := (yX7_run, 711, 2, none, 7, 0, 1, 0, 0)
def mi_h61 : mi_M := (yX7_runDays, 758, 4, none, 7, 2, 1, 0, 0)
def mi_h62 : mi_M := (yX7_purseOrLacking, 766, 2, (some .int), 7, 1, 1, 0, 0)
def mi_h63 : mi_M := (yX7_purseBehind, 784, 4, (some .int), 7, 2, 1, 0, 0)
def mi_h64 : mi_M := (yX7_swap, 789, 4, none, 7, 2, 1, 0, 0)
def mi_h65 : mi_M := (yX7_insert, 779, 3, none, 7, 2, 1, 0, 0)
def mi_h66 : mi_M := (yX7_bestPlace, 775, 6, (some .int), 7, 2, 1, 0, 0)
def mi_h67 : mi_M := (yX7_bestHired, 797, 7, (some .int), 7, 3, 1, 0, 0)
def mi_h68 : mi_M := (yX7_bestChanged, 805, 6, (some .int), 7, 2, 1, 0, 0)
def mi_h69 : mi_M := (yX7_findBestOrder, 819, 7, none, 7, 3, 1, 0, 0)
def mi_h70 : mi_M := (yX7_goToNextOrder, 823, 5, (some .boolean), 7, 0, 1, 0, 0)
def mi_h71 : mi_M := (yX7_smallestRing, 839, 4, (some .int), 7, 0, 1, 0, 0)
def mi_h72 : mi_M := (yX7_whoGainsMost, 844, 6, (some .int), 7, 1, 1, 0, 0)
def mi_h73 : mi_M := (yX7_firstUnlike, 855, 3, (some .int), 7, 1, 1, 0, 0)
def mi_h74 : mi_M := (yX7_thirdsThatFit, 864, 5, (some .int), 7, 2, 1, 0, 0)
def mi_h75 : mi_M := (yX7_buyersThatFit, 869, 6, (some .int), 7, 3, 1, 0, 0)
def mi_h76 : mi_M := (yX7_wantsThatFit, 873, 6, (some .int), 7, 3, 1, 0, 0)
def mi_h77 : mi_M := (yX7_playTurns, 888, 9, none, 7, 4, 1, 0, 0)
def mi_h78 : mi_M := (yX7_draw, 898, 7, (some .int), 7, 4, 1, 0, 0)
def mi_h79 : mi_M := (yX8_init, 104, 2, none, 8, 0, 2, 115, 2902)
def mi_h80 : mi_M := (yX8_buyer, 433, 3, (some .int), 8, 2, 1, 0, 0)
def mi_h81 : mi_M := (yX8_buyers, 451, 7, (some .int), 8, 3, 1, 0, 0)
def mi_h82 : mi_M := (yX8_addFromThree, 462, 6, (some .boolean), 8, 2, 1, 0, 0)
def mi_h83 : mi_M := (yX8_mend, 466, 5, (some .int), 8, 3, 1, 0, 0)
def mi_h84 : mi_M := (yX8_of, 506, 3, (some .int), 8, 2, 1, 0, 0)
def mi_h85 : mi_M := (yX8_feed, 510, 2, (some .int), 8, 1, 1, 0, 0)
def mi_h86 : mi_M := (yX8_law, 518, 2, (some .int), 8, 0, 1, 0, 0)
def mi_h87 : mi_M := (yX8_book, 671, 3, (some .int), 8, 2, 1, 0, 0)
def mi_h88 : mi_M := (yX8_market, 675, 5, (some .int), 8, 3, 1, 0, 0)
def mi_h89 : mi_M := (yX8_coming, 750, 5, (some .int), 8, 3, 1, 0, 0)
def mi_h90 : mi_M := (yX8_later, 754, 5, (some .int), 8, 3, 1, 0, 0)
def mi_h91 : mi_M := (yX8_onceMore, 771, 6, (some .int), 8, 3, 1, 0, 0)
def mi_h92 : mi_M := (yX8_hired, 793, 7, (some .int), 8, 4, 1, 0, 0)
def mi_h93 : mi_M := (yX8_latch, 801, 6, (some .int), 8, 3, 1, 0, 0)
def mi_h94 : mi_M := (yX8_order, 809, 5, (some .int), 8, 3, 1, 0, 0)
def mi_h95 : mi_M := (yX8_flow, 827, 4, (some .int), 8, 2, 1, 0, 0)
def mi_h96 : mi_M := (yX8_round, 835, 4, (some .int), 8, 2, 1, 0, 0)
def mi_h97 : mi_M := (yX8_judge, 848, 3, (some .int), 8, 1, 1, 0, 0)
def mi_h98 : mi_M := (yX8_fits, 860, 6, (some .int), 8, 3, 1, 0, 0)
def mi_h99 : mi_M := (yX8_leastBit, 879, 2, (some .int), 8, 1, 0, 0, 0)
def mi_h100 : mi_M := (yX8_byTurns, 883, 6, (some .int), 8, 3, 1, 0, 0)
def mi_h101 : mi_M := (yX8_drawn, 894, 10, (some .int), 8, 3, 1, 0, 0)
def mi_h102 : mi_M := (yX8_comes, 903, 2, (some .int), 8, 1, 1, 0, 0)
def mi_h103 : mi_M := (yX8_evening, 908, 1, (some .int), 8, 0, 1, 0, 0)
def mi_h104 : mi_M := (yX8_gives, 913, 4, (some .int), 8, 3, 1, 0, 0)
def mi_h105 : mi_M := (yX8_led, 918, 2, (some .int), 8, 1, 1, 0, 0)
def mi_h106 : mi_M := (yX8_image, 922, 1, (some .int), 8, 0, 1, 0, 0)
def mi_h107 : mi_M := (yX8_back, 927, 1, (some .int), 8, 0, 1, 0, 0)
def mi_h108 : mi_M := (yX8_undo, 931, 2, (some .int), 8, 0, 1, 0, 0)
def mi_h109 : mi_M := (yX8_redo, 935, 2, (some .int), 8, 0, 1, 0, 0)
def mi_h110 : mi_M := (yX8_body, 939, 2, (some .int), 8, 1, 1, 0, 0)
def mi_h111 : mi_M := (yX8_act, 947, 4, (some .int), 8, 3, 1, 0, 0)
def mi_h112 : mi_M := (yX8_trace, 974, 2, (some .int), 8, 1, 1, 0, 0)
def mi_h113 : mi_M := (yX8_keep, 978, 3, (some .int), 8, 2, 1, 0, 0)
def mi_h114 : mi_M := (yX8_row, 987, 4, (some .int), 8, 3, 1, 0, 0)
def mi_h115 : mi_M := (yX8_put, 997, 6, (some .int), 8, 3, 1, 0, 0)
def mi_h116 : mi_M := (yX8_element, 1009, 3, (some .long), 8, 2, 1, 0, 0)
def mi_h117 : mi_M := (yX8_shift, 1014, 8, (some .int), 8, 5, 1, 0, 0)
def mi_h118 : mi_M := (yX8_taken, 1023, 5, (some .int), 8, 2, 1, 0, 0)
def mi_h119 : mi_M := (yX8_count, 1030, 2, (some .int), 8, 1, 1, 0, 0)
def mi_h120 : mi_M := (yX8_within, 439, 3, (some .boolean), 8, 3, 0, 0, 0)
def mi_h121 : mi_M := (yX8_isShelf, 454, 1, (some .boolean), 8, 1, 0, 0, 0)
def mi_h122 : mi_M := (yX8_areShelves, 851, 1, (some .boolean), 8, 1, 0, 0, 0)
def mi_h123 : mi_M := (yX8_isBuyer, 474, 2, (some .boolean), 8, 1, 1, 0, 0)
def mi_h124 : mi_M := (yX8_isPair, 831, 2, (some .boolean), 8, 1, 1, 0, 0)
def mi_h125 : mi_M := (yX8_isTold, 470, 3, (some .boolean), 8, 2, 1, 0, 0)
def mi_h126 : mi_M := (yX8_isNumber, 436, 2, (some .boolean), 8, 2, 0, 0, 0)
def mi_h127 : mi_M := (yX8_refusalOfBytes, 683, 2, (some .int), 8, 1, 1, 0, 0)
def mi_h128 : mi_M := (yX8_refusalOfCell, 1001, 4, (some .int), 8, 2, 1, 0, 0)
def mi_h129 : mi_M := (yX8_plan, 679, 3, (some .int), 8, 1, 1, 0, 0)
def mi_h130 : mi_M := (yX9_init, 1035, 2, none, 9, 0, 2, 32, 2199)
def mi_h131 : mi_M := (yX9_within, 1206, 3, (some .boolean), 9, 3, 0, 0, 0)
def mi_h132 : mi_M := (yX9_isBuyer, 1234, 2, (some .boolean), 9, 1, 1, 0, 0)
def mi_h133 : mi_M := (yX9_isShelf, 1217, 1, (some .boolean), 9, 1, 0, 0, 0)
def mi_h134 : mi_M := (yX9_newBuyer, 1210, 4, (some .int), 9, 3, 1, 0, 0)
def mi_h135 : mi_M := (yX9_buyer, 1203, 3, (some .int), 9, 2, 1, 0, 0)
def mi_h136 : mi_M := (yX9_buyers, 1214, 9, (some .int), 9, 3, 1, 0, 0)
def mi_h137 : mi_M := (yX9_toldAt, 1222, 3, (some .int), 9, 2, 1, 0, 0)
def mi_h138 : mi_M := (yX9_isOf, 1230, 3, (some .boolean), 9, 2, 1, 0, 0)
def mi_h139 : mi_M := (yX9_isFit, 1237, 2, (some .boolean), 9, 2, 0, 0, 0)
def mi_h140 : mi_M := (yX9_get, 1241, 3, (some .int), 9, 2, 1, 0, 0)
def mi_h141 : mi_M := (yX9_becomes, 1245, 4, none, 9, 3, 1, 0, 0)
def mi_h142 : mi_M := (yX9_mend, 1226, 6, (some .int), 9, 3, 1, 0, 0)
def mi_h143 : mi_M := (yX9_of, 1249, 3, (some .int), 9, 2, 1, 0, 0)
def mi_h144 : mi_M := (yX9_undo, 1253, 1, (some .int), 9, 0, 1, 0, 0)
def mi_h145 : mi_M := (yX9_redo, 1257, 1, (some .int), 9, 0, 1, 0, 0)
def mi_h146 : mi_M := (yX9_feed, 1261, 2, (some .int), 9, 1, 1, 0, 0)
def mi_h147 : mi_M := (yX9_sign, 1301, 1, (some .int), 9, 0, 1, 0, 0)
def mi_h148 : mi_M := (yX9_is, 1312, 2, (some .boolean), 9, 1, 1, 0, 0)
def mi_h149 : mi_M := (yX9_codes, 1305, 2, (some .boolean), 9, 1, 1, 0, 0)
def mi_h150 : mi_M := (yX9_isDigit, 1297, 1, (some .boolean), 9, 0, 1, 0, 0)
def mi_h151 : mi_M := (yX9_nameOf, 1308, 1, (some .int), 9, 1, 0, 0, 0)
def mi_h152 : mi_M := (yX9_isO, 1293, 3, (some .boolean), 9, 0, 1, 0, 0)
def mi_h153 : mi_M := (yX9_isP, 1289, 2, (some .boolean), 9, 0, 1, 0, 0)
def mi_h154 : mi_M := (yX9_isS, 1285, 2, (some .boolean), 9, 0, 1, 0, 0)
def mi_h155 : mi_M := (yX9_isB, 1281, 2, (some .boolean), 9, 0, 1, 0, 0)
def mi_h156 : mi_M := (yX9_isA, 1277, 1, (some .boolean), 9, 0, 1, 0, 0)
def mi_h157 : mi_M := (yX9_isE, 1273, 1, (some .boolean), 9, 0, 1, 0, 0)
def mi_h158 : mi_M := (yX9_isLine, 1269, 1, (some .boolean), 9, 0, 1, 0, 0)
def mi_h159 : mi_M := (yX9_law, 1265, 4, (some .int), 9, 0, 1, 0, 0)
def mi_h160 : mi_M := (yX9_both, 1364, 3, (some .int), 9, 3, 0, 0, 0)
def mi_h161 : mi_M := (yX9_worked, 1361, 6, (some .int), 9, 2, 1, 0, 0)
def mi_h162 : mi_M := (yX9_byLaw, 1357, 3, (some .int), 9, 1, 1, 0, 0)
def mi_h163 : mi_M := (yX9_buysFor, 1353, 4, (some .int), 9, 2, 1, 0, 0)
def mi_h164 : mi_M := (yX9_book, 1316, 3, (some .int), 9, 2, 1, 0, 0)
def mi_h165 : mi_M := (yX9_pays, 1348, 5, none, 9, 1, 1, 0, 0)
def mi_h166 : mi_M := (yX9_goesIn, 1344, 3, (some .boolean), 9, 1, 1, 0, 0)
def mi_h167 : mi_M := (yX9_ends, 1381, 2, none, 9, 0, 1, 0, 0)
def mi_h168 : mi_M := (yX9_keeps, 1336, 4, none, 9, 2, 1, 0, 0)
def mi_h169 : mi_M := (yX9_laysBack, 1369, 4, none, 9, 2, 1, 0, 0)
def mi_h170 : mi_M := (yX9_goes, 1340, 2, none, 9, 0, 1, 0, 0)
def mi_h171 : mi_M := (yX9_begins, 1332, 2, none, 9, 0, 1, 0, 0)
def mi_h172 : mi_M := (yX9_purseBehind, 1393, 3, (some .int), 9, 1, 1, 0, 0)
def mi_h173 : mi_M := (yX9_noBytes, 1324, 2, (some .int), 9, 1, 1, 0, 0)
def mi_h174 : mi_M := (yX9_reads, 1328, 2, none, 9, 1, 1, 0, 0)
def mi_h175 : mi_M := (yX9_market, 1320, 6, (some .int), 9, 3, 1, 0, 0)
def mi_h176 : mi_M := (yX9_coming, 1373, 5, (some .int), 9, 3, 1, 0, 0)
def mi_h177 : mi_M := (yX9_later, 1377, 6, (some .int), 9, 3, 1, 0, 0)
def mi_h178 : mi_M := (yX9_puts, 1389, 4, none, 9, 2, 1, 0, 0)
def mi_h179 : mi_M := (yX9_takes, 1397, 3, none, 9, 1, 1, 0, 0)
def mi_h180 : mi_M := (yX9_onceMore, 1385, 10, (some .int), 9, 3, 1, 0, 0)
def mi_h181 : mi_M := (yX9_hired, 1401, 10, (some .int), 9, 4, 1, 0, 0)
def mi_h182 : mi_M := (yX9_swaps, 1409, 3, none, 9, 1, 1, 0, 0)
def mi_h183 : mi_M := (yX9_latch, 1405, 9, (some .int), 9, 3, 1, 0, 0)
def mi_h184 : mi_M := (yX9_orders, 1418, 6, none, 9, 3, 1, 0, 0)
def mi_h185 : mi_M := (yX9_order, 1413, 4, (some .int), 9, 3, 1, 0, 0)
def mi_h186 : mi_M := (yX9_isPair, 1426, 2, (some .boolean), 9, 1, 1, 0, 0)
def mi_h187 : mi_M := (yX9_flow, 1422, 4, (some .int), 9, 2, 1, 0, 0)
def mi_h188 : mi_M := (yX9_ring, 1434, 3, (some .int), 9, 0, 1, 0, 0)
def mi_h189 : mi_M := (yX9_round, 1430, 6, (some .int), 9, 2, 1, 0, 0)
def mi_h190 : mi_M := (yX9_areShelves, 1442, 2, (some .boolean), 9, 1, 1, 0, 0)
def mi_h191 : mi_M := (yX9_noRows, 1446, 3, (some .int), 9, 1, 1, 0, 0)
def mi_h192 : mi_M := (yX9_unlike, 1450, 3, (some .int), 9, 1, 1, 0, 0)
def mi_h193 : mi_M := (yX9_judge, 1438, 3, (some .int), 9, 1, 1, 0, 0)
def mi_h194 : mi_M := (yX9_thirds, 1458, 5, (some .int), 9, 1, 1, 0, 0)
def mi_h195 : mi_M := (yX9_whose, 1462, 6, (some .int), 9, 2, 1, 0, 0)
def mi_h196 : mi_M := (yX9_wanted, 1466, 8, (some .int), 9, 3, 1, 0, 0)
def mi_h197 : mi_M := (yX9_fits, 1454, 5, (some .int), 9, 3, 1, 0, 0)
def mi_h198 : mi_M := (yX9_comesAt, 1479, 6, (some .int), 9, 4, 1, 0, 0)
def mi_h199 : mi_M := (yX9_turnFrom, 1475, 7, (some .int), 9, 4, 1, 0, 0)
def mi_h200 : mi_M := (yX9_byTurns, 1470, 6, (some .int), 9, 3, 1, 0, 0)
def mi_h201 : mi_M := (yX9_drawn, 1483, 8, (some .int), 9, 3, 1, 0, 0)
def mi_h202 : mi_M := (yX9_comes, 1488, 2, (some .int), 9, 1, 1, 0, 0)
def mi_h203 : mi_M := (yX9_evening, 1492, 1, (some .int), 9, 0, 1, 0, 0)
def mi_h204 : mi_M := (yX9_gives, 1496, 4, (some .int), 9, 3, 1, 0, 0)
def mi_h205 : mi_M := (yX9_led, 1500, 2, (some .int), 9, 1, 1, 0, 0)
def mi_h206 : mi_M := (yX9_image, 1504, 2, (some .int), 9, 0, 1, 0, 0)
def mi_h207 : mi_M := (yX9_back, 1508, 3, (some .int), 9, 0, 1, 0, 0)
def mi_h208 : mi_M := (yX9_above, 1527, 1, (some .int), 9, 1, 0, 0, 0)
def mi_h209 : mi_M := (yX9_ran, 1524, 2, none, 9, 1, 1, 0, 0)
def mi_h210 : mi_M := (yX9_comesBy, 1520, 4, (some .int), 9, 3, 1, 0, 0)
def mi_h211 : mi_M := (yX9_owesBy, 1531, 5, (some .int), 9, 3, 1, 0, 0)
def mi_h212 : mi_M := (yX9_paysBy, 1535, 5, (some .int), 9, 3, 1, 0, 0)
def mi_h213 : mi_M := (yX9_tells, 1539, 5, (some .int), 9, 3, 1, 0, 0)
def mi_h214 : mi_M := (yX9_body, 1512, 2, (some .int), 9, 1, 1, 0, 0)
def mi_h215 : mi_M := (yX9_act, 1516, 5, (some .int), 9, 3, 1, 0, 0)
def mi_h216 : mi_M := (yX9_trace, 1543, 2, (some .int), 9, 1, 1, 0, 0)
def mi_h217 : mi_M := (yX9_keep, 1547, 3, (some .int), 9, 2, 1, 0, 0)
def mi_h218 : mi_M := (yX9_row, 1551, 5, (some .int), 9, 3, 1, 0, 0)
def mi_h219 : mi_M := (yX9_isRow, 1559, 2, (some .boolean), 9, 1, 1, 0, 0)
def mi_h220 : mi_M := (yX9_kept, 1562, 3, (some .long), 9, 2, 0, 0, 0)
def mi_h221 : mi_M := (yX9_put, 1555, 5, (some .int), 9, 3, 1, 0, 0)
def mi_h222 : mi_M := (yX9_element, 1566, 3, (some .long), 9, 2, 1, 0, 0)
def mi_h223 : mi_M := (yX9_shift, 1571, 7, (some .int), 9, 5, 1, 0, 0)
def mi_h224 : mi_M := (yX9_taken, 1575, 5, (some .int), 9, 2, 1, 0, 0)
def mi_h225 : mi_M := (yX9_count, 1579, 2, (some .int), 9, 1, 1, 0, 0)
def mi_h226 : mi_M := (yJ6_bitCount_0f7a4, 812, 1, (some .int), 203, 1, 0, 0, 0)
def mi_h227 : mi_M := (yJ0_length_8abf5, 170, 1, (some .int), 100, 0, 1, 0, 0)
def mi_h228 : mi_M := (yJ0_indexOf_0f7a4, 578, 2, (some .int), 100, 1, 1, 0, 0)
def mi_h229 : mi_M := (yJ0_indexOf_7cf53, 582, 3, (some .int), 100, 2, 1, 0, 0)
def mi_h230 : mi_M := (yJ0_coder_7d493, 174, 1, (some .byte), 100, 0, 1, 0, 0)
def mi_h231 : mi_M := (yJ0_isLatin1_aae02, 586, 1, (some .boolean), 100, 0, 1, 0, 0)
def mi_h232 : mi_M := (yJ1_canEncode_9a6ad, 593, 1, (some .boolean), 201, 1, 0, 0, 0)
def mi_h233 : mi_M := (yJ1_indexOf_4cfef, 590, 4, (some .int), 201, 4, 0, 0, 0)
def mi_h234 : mi_M := (yJ1_indexOfChar_4cfef, 602, 6, (some .int), 201, 4, 0, 0, 0)
def mi_h235 : mi_M := (yL_law, 99999, 4, (some .boolean), 204, 1, 3, 149, 5163)
def mi_hq0 : List (mi_M × Nat × Nat × Nat) := [(mi_h0, 84, 117, 0), (mi_h1, 84, 744, 745), (mi_h2, 84, 721, 722), (mi_h3, 84, 704, 705), (mi_h4, 88, 298, 0), (mi_h5, 88, 493, 494), (mi_h6, 88, 498, 4), (mi_h7, 89, 329, 0), (mi_h8, 89, 953, 954), (mi_h9, 89, 941, 942), (mi_h10, 89, 1025, 0), (mi_h11, 89, 961, 0), (mi_h12, 89, 949, 950), (mi_h13, 89, 958, 28), (mi_h14, 89, 969, 29), (mi_h15, 85, 140, 0), (mi_h16, 85, 524, 525), (mi_h17, 85, 567, 568), (mi_h18, 85, 661, 662), (mi_h19, 85, 734, 21), (mi_h20, 85, 738, 22), (mi_h21, 85, 729, 730), (mi_h22, 85, 741, 0), (mi_h23, 83, 111, 0), (mi_h24, 83, 476, 477), (mi_h25, 83, 445, 446), (mi_h26, 83, 486, 3), (mi_h27, 83, 480, 481), (mi_h28, 83, 489, 490), (mi_h29, 83, 713, 714), (mi_h30, 83, 718, 19), (mi_h31, 83, 726, 20), (mi_h32, 83, 760, 761), (mi_h33, 83, 697, 698), (mi_h34, 83, 693, 694), (mi_h35, 91, 378, 0), (mi_h36, 91, 456, 457), (mi_h37, 91, 1016, 1017), (mi_h38, 91, 981, 982), (mi_h39, 91, 989, 990)]
def mi_hq1 : List (mi_M × Nat × Nat × Nat) := [(mi_h40, 91, 1003, 1004), (mi_h41, 90, 354, 0), (mi_h42, 90, 512, 513), (mi_h43, 90, 665, 666), (mi_h44, 90, 520, 521), (mi_h45, 90, 557, 12), (mi_h46, 90, 655, 15), (mi_h47, 90, 573, 14), (mi_h48, 90, 529, 5), (mi_h49, 90, 533, 6), (mi_h50, 90, 537, 7), (mi_h51, 90, 541, 8), (mi_h52, 90, 545, 9), (mi_h53, 90, 549, 10), (mi_h54, 90, 553, 11), (mi_h55, 90, 564, 13), (mi_h56, 90, 560, 0), (mi_h57, 87, 250, 0), (mi_h58, 87, 685, 686), (mi_h59, 87, 689, 690), (mi_h60, 87, 710, 18), (mi_h61, 87, 756, 757), (mi_h62, 87, 764, 765), (mi_h63, 87, 783, 24), (mi_h64, 87, 788, 25), (mi_h65, 87, 778, 23), (mi_h66, 87, 773, 774), (mi_h67, 87, 795, 796), (mi_h68, 87, 803, 804), (mi_h69, 87, 817, 818), (mi_h70, 87, 822, 26), (mi_h71, 87, 837, 838), (mi_h72, 87, 842, 843), (mi_h73, 87, 853, 854), (mi_h74, 87, 862, 863), (mi_h75, 87, 867, 868), (mi_h76, 87, 871, 872), (mi_h77, 87, 886, 887), (mi_h78, 87, 896, 897), (mi_h79, 82, 103, 0)]
def mi_hq2 : List (mi_M × Nat × Nat × Nat) := [(mi_h80, 82, 431, 432), (mi_h81, 82, 449, 450), (mi_h82, 82, 461, 0), (mi_h83, 82, 464, 465), (mi_h84, 82, 504, 505), (mi_h85, 82, 508, 509), (mi_h86, 82, 516, 517), (mi_h87, 82, 669, 670), (mi_h88, 82, 673, 674), (mi_h89, 82, 748, 749), (mi_h90, 82, 752, 753), (mi_h91, 82, 769, 770), (mi_h92, 82, 791, 792), (mi_h93, 82, 799, 800), (mi_h94, 82, 807, 808), (mi_h95, 82, 825, 826), (mi_h96, 82, 833, 834), (mi_h97, 82, 846, 847), (mi_h98, 82, 858, 859), (mi_h99, 82, 878, 0), (mi_h100, 82, 881, 882), (mi_h101, 82, 892, 893), (mi_h102, 82, 901, 902), (mi_h103, 82, 906, 907), (mi_h104, 82, 911, 912), (mi_h105, 82, 916, 917), (mi_h106, 82, 920, 921), (mi_h107, 82, 925, 926), (mi_h108, 82, 929, 930), (mi_h109, 82, 933, 934), (mi_h110, 82, 937, 938), (mi_h111, 82, 945, 946), (mi_h112, 82, 972, 973), (mi_h113, 82, 976, 977), (mi_h114, 82, 985, 986), (mi_h115, 82, 995, 996), (mi_h116, 82, 1007, 1008), (mi_h117, 82, 1012, 1013), (mi_h118, 82, 1021, 1022), (mi_h119, 82, 1028, 1029)]
def mi_hq3 : List (mi_M × Nat × Nat × Nat) := [(mi_h120, 82, 438, 0), (mi_h121, 82, 453, 0), (mi_h122, 82, 850, 0), (mi_h123, 82, 473, 2), (mi_h124, 82, 830, 27), (mi_h125, 82, 469, 1), (mi_h126, 82, 435, 0), (mi_h127, 82, 682, 17), (mi_h128, 82, 1000, 30), (mi_h129, 82, 678, 16), (mi_h130, 92, 1034, 0), (mi_h131, 92, 1205, 0), (mi_h132, 92, 1233, 34), (mi_h133, 92, 1216, 0), (mi_h134, 92, 1209, 31), (mi_h135, 92, 1201, 1202), (mi_h136, 92, 1212, 1213), (mi_h137, 92, 1221, 32), (mi_h138, 92, 1229, 33), (mi_h139, 92, 1236, 0), (mi_h140, 92, 1240, 35), (mi_h141, 92, 1244, 36), (mi_h142, 92, 1224, 1225), (mi_h143, 92, 1247, 1248), (mi_h144, 92, 1251, 1252), (mi_h145, 92, 1255, 1256), (mi_h146, 92, 1259, 1260), (mi_h147, 92, 1300, 45), (mi_h148, 92, 1311, 47), (mi_h149, 92, 1304, 46), (mi_h150, 92, 1296, 44), (mi_h151, 92, 1307, 0), (mi_h152, 92, 1292, 43), (mi_h153, 92, 1288, 42), (mi_h154, 92, 1284, 41), (mi_h155, 92, 1280, 40), (mi_h156, 92, 1276, 39), (mi_h157, 92, 1272, 38), (mi_h158, 92, 1268, 37), (mi_h159, 92, 1263, 1264)]
def mi_hq4 : List (mi_M × Nat × Nat × Nat) := [(mi_h160, 92, 1363, 0), (mi_h161, 92, 1360, 57), (mi_h162, 92, 1356, 56), (mi_h163, 92, 1352, 55), (mi_h164, 92, 1314, 1315), (mi_h165, 92, 1347, 54), (mi_h166, 92, 1343, 53), (mi_h167, 92, 1380, 59), (mi_h168, 92, 1335, 51), (mi_h169, 92, 1368, 58), (mi_h170, 92, 1339, 52), (mi_h171, 92, 1331, 50), (mi_h172, 92, 1392, 61), (mi_h173, 92, 1323, 48), (mi_h174, 92, 1327, 49), (mi_h175, 92, 1318, 1319), (mi_h176, 92, 1371, 1372), (mi_h177, 92, 1375, 1376), (mi_h178, 92, 1388, 60), (mi_h179, 92, 1396, 62), (mi_h180, 92, 1383, 1384), (mi_h181, 92, 1399, 1400), (mi_h182, 92, 1408, 63), (mi_h183, 92, 1403, 1404), (mi_h184, 92, 1417, 64), (mi_h185, 92, 1411, 1412), (mi_h186, 92, 1425, 65), (mi_h187, 92, 1420, 1421), (mi_h188, 92, 1433, 66), (mi_h189, 92, 1428, 1429), (mi_h190, 92, 1441, 67), (mi_h191, 92, 1445, 68), (mi_h192, 92, 1449, 69), (mi_h193, 92, 1436, 1437), (mi_h194, 92, 1457, 70), (mi_h195, 92, 1461, 71), (mi_h196, 92, 1465, 72), (mi_h197, 92, 1452, 1453), (mi_h198, 92, 1478, 74), (mi_h199, 92, 1474, 73)]
def mi_hq5 : List (mi_M × Nat × Nat × Nat) := [(mi_h200, 92, 1468, 1469), (mi_h201, 92, 1481, 1482), (mi_h202, 92, 1486, 1487), (mi_h203, 92, 1490, 1491), (mi_h204, 92, 1494, 1495), (mi_h205, 92, 1498, 1499), (mi_h206, 92, 1502, 1503), (mi_h207, 92, 1506, 1507), (mi_h208, 92, 1526, 0), (mi_h209, 92, 1523, 76), (mi_h210, 92, 1519, 75), (mi_h211, 92, 1530, 77), (mi_h212, 92, 1534, 78), (mi_h213, 92, 1538, 79), (mi_h214, 92, 1510, 1511), (mi_h215, 92, 1514, 1515), (mi_h216, 92, 1541, 1542), (mi_h217, 92, 1545, 1546), (mi_h218, 92, 1549, 1550), (mi_h219, 92, 1558, 80), (mi_h220, 92, 1561, 0), (mi_h221, 92, 1553, 1554), (mi_h222, 92, 1564, 1565), (mi_h223, 92, 1569, 1570), (mi_h224, 92, 1573, 1574), (mi_h225, 92, 1577, 1578), (mi_h226, 99, 811, 0), (mi_h227, 86, 168, 169), (mi_h228, 86, 576, 577), (mi_h229, 86, 580, 581), (mi_h230, 86, 172, 173), (mi_h231, 86, 584, 585), (mi_h232, 94, 592, 0), (mi_h233, 94, 589, 0), (mi_h234, 94, 601, 0), (mi_h235, 81, 0, 0)]
def mi_hqs : List (mi_M × Nat × Nat × Nat) := mi_hq0 ++ (mi_hq1 ++ (mi_hq2 ++ (mi_hq3 ++ (mi_hq4 ++ (mi_hq5)))))
def mi_heads : List mi_M := mi_hqs.map (fun q => q.1)
def mi_cname (ci : Nat) : String := match ci with
  | 100 => "java/lang/String"
  | 201 => "java/lang/StringLatin1"
  | 202 => "java/lang/Math"
  | 203 => "java/lang/Integer"
  | 204 => "ThirdAfterLaw"
  | _ => match vwCl[ci]? with
    | some c => c.1
    | none => ""
/-- the words of a head, by their places: its class initialized, static or instanceMethod, selects (of a virtual one) -/
def mi_mB (r : mi_M) (p1 p2 p3 : Nat) : Bool := match r.2.2.2.2.2.2.1 with
  | 3 => true
  | k => mi_isC r.2.1 r.1 r.2.2.1 r.2.2.2.1 && !(Nat.beq r.2.1 99999) && mi_wd p1 (.initialized r.1.cls) && (match k with
    | 0 => mi_wd p2 (.static r.1)
    | 1 => mi_wd p2 (.instanceMethod r.1) && mi_wd p3 (.selects r.1.cls r.1 r.1)
    | _ => mi_wd p2 (.instanceMethod r.1) && decide (r.1.name = "<init>") && decide (r.2.2.2.1 = none)) && plainName r.1.cls && decide (r.1.cls ≠ "java/lang/invoke/MethodHandle") && decide (r.1.cls ≠ "java/lang/invoke/VarHandle") && decide ((parseMethodDescriptor r.1.desc).map (fun d => d.parameters.length) = some r.2.2.2.2.2.1) && Nat.ble r.2.2.1 40 && decide (mi_cname r.2.2.2.2.1 = r.1.cls)

theorem mi_hz0 : (mi_hq0.all fun q => mi_mB q.1 q.2.1 q.2.2.1 q.2.2.2) = true := by decide +kernel
theorem mi_hz1 : (mi_hq1.all fun q => mi_mB q.1 q.2.1 q.2.2.1 q.2.2.2) = true := by decide +kernel
theorem mi_hz2 : (mi_hq2.all fun q => mi_mB q.1 q.2.1 q.2.2.1 q.2.2.2) = true := by decide +kernel
theorem mi_hz3 : (mi_hq3.all fun q => mi_mB q.1 q.2.1 q.2.2.1 q.2.2.2) = true := by decide +kernel
theorem mi_hz4 : (mi_hq4.all fun q => mi_mB q.1 q.2.1 q.2.2.1 q.2.2.2) = true := by decide +kernel
theorem mi_hz5 : (mi_hq5.all fun q => mi_mB q.1 q.2.1 q.2.2.1 q.2.2.2) = true := by decide +kernel
theorem mi_hz : ∀ q ∈ mi_hqs, mi_mB q.1 q.2.1 q.2.2.1 q.2.2.2 = true := by
  intro q hq
  unfold mi_hqs at hq
  simp only [List.mem_append] at hq
  rcases hq with h | h | h | h | h | h
  · exact List.all_eq_true.mp mi_hz0 q h
  · exact List.all_eq_true.mp mi_hz1 q h
  · exact List.all_eq_true.mp mi_hz2 q h
  · exact List.all_eq_true.mp mi_hz3 q h
  · exact List.all_eq_true.mp mi_hz4 q h
  · exact List.all_eq_true.mp mi_hz5 q h
theorem mi_head_in {y : Nat} {r : mi_M} (h : mi_heads[y]? = some r) : ∃ p1 p2 p3, mi_mB r p1 p2 p3 = true := by
  obtain ⟨q, hq, rfl⟩ := List.mem_map.mp (List.mem_of_getElem? h)
  exact ⟨_, _, _, mi_hz q hq⟩
/-- what is so of a method that can be called -/
def mi_Mk (r : mi_M) : Prop := Cond.code r.1 (mi_bytes r) r.2.2.1 r.2.2.2.1 ∈ mi_good ∧ Cond.initialized r.1.cls ∈ mi_good ∧ plainName r.1.cls = true ∧ (r.1.cls ≠ "java/lang/invoke/MethodHandle" ∧ r.1.cls ≠ "java/lang/invoke/VarHandle" ∧ (parseMethodDescriptor r.1.desc).map (fun d => d.parameters.length) = some r.2.2.2.2.2.1) ∧ r.2.2.1 ≤ 40 ∧ mi_cname r.2.2.2.2.1 = r.1.cls ∧ (r.2.2.2.2.2.2.1 = 0 → Cond.static r.1 ∈ mi_good) ∧ (r.2.2.2.2.2.2.1 = 1 → Cond.instanceMethod r.1 ∈ mi_good ∧ Cond.selects r.1.cls r.1 r.1 ∈ mi_good) ∧ (r.2.2.2.2.2.2.1 = 2 → Cond.instanceMethod r.1 ∈ mi_good ∧ r.1.name = "<init>" ∧ r.2.2.2.1 = none)
theorem mi_head_ok {y : Nat} {r : mi_M} (h : mi_heads[y]? = some r) (h3 : r.2.2.2.2.2.2.1 ≠ 3) : mi_Mk r := by
  obtain ⟨p1, p2, p3, hb⟩ := mi_head_in h
  unfold mi_mB at hb
  split at hb
  next e => exact absurd e h3
  next k hk =>
    have a1 := mi_b2 hb
    have hb := mi_b1 hb
    have a2 := mi_b2 hb
    have hb := mi_b1 hb
    have a3 := mi_b2 hb
    have hb := mi_b1 hb
    have a4 := mi_b2 hb
    have hb := mi_b1 hb
    have a5 := mi_b2 hb
    have hb := mi_b1 hb
    have a6 := mi_b2 hb
    have hb := mi_b1 hb
    have a7 := mi_b2 hb
    have hb := mi_b1 hb
    have a8 := mi_b2 hb
    have hb := mi_b1 hb
    have a9 := mi_b2 hb
    have a10 := mi_b1 hb
    have hby : mi_bytes r = mi_cb r.2.1 := by
      unfold mi_bytes
      have : Nat.beq r.2.1 99999 = false := by simpa using a9
      rw [this]
    refine ⟨by rw [hby]; exact mi_isC_ok a10, mi_wd_in a8, a6, ⟨of_decide_eq_true a5, of_decide_eq_true a4, of_decide_eq_true a3⟩, Nat.le_of_ble_eq_true a2, of_decide_eq_true a1, fun e => ?_, fun e => ?_, fun e => ?_⟩
    · rw [e] at a7
      exact mi_wd_in a7
    · rw [e] at a7
      exact ⟨mi_wd_in (mi_b1 a7), mi_wd_in (mi_b2 a7)⟩
    · rw [e] at a7
      exact ⟨mi_wd_in (mi_b1 (mi_b1 a7)), of_decide_eq_true (mi_b2 (mi_b1 a7)), of_decide_eq_true (mi_b2 a7)⟩
