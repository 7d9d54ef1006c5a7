/-! INSTRUCTIONS BY THEIR BYTES, one behind the other -/
def wn_Fx (pc : Nat) : {F : Nat → Decoder Instr // Decoder.instr pc = Reader.u1 >>= F} := ⟨_, rfl⟩
def en_b (bs : List UInt8) (k : Nat) : Nat := (bs.getD k 0).toNat
theorem en_at {B : ByteArray} {pc k : Nat} (h : pc + k < B.size) : B[pc + k].toNat = en_b (B.data.toList.drop pc) k := by
  have h2 : pc + k < B.data.toList.length := h
  have e : (B.data.toList.drop pc).getD k 0 = B.data.toList[pc + k] := by
    rw [List.getD_eq_getElem?_getD, List.getElem?_drop, List.getElem?_eq_getElem h2]
    rfl
  unfold en_b
  rw [e]
  rfl
theorem en_run {B : ByteArray} {pc op k : Nat} {i : Instr} (h0 : pc < B.size) (hb : en_b (B.data.toList.drop pc) 0 = op) (hr : Reader.runAt ((wn_Fx pc).1 op) B (pc + 1) = .ok (i, pc + 1 + k)) : decode B pc = .ok (i, k + 1) := by
  have hd : decode B pc = (match Reader.runAt (Decoder.instr pc) B pc with
      | .ok p => .ok (p.1, p.2 - pc)
      | .error e => .error e) := by
    show Except.bind (Reader.runAt (Decoder.instr pc) B pc) (fun p => Except.ok (p.1, p.2 - pc)) = _
    cases Reader.runAt (Decoder.instr pc) B pc <;> rfl
  have e := en_at (B := B) (pc := pc) (k := 0) h0
  rw [hd, (wn_Fx pc).2, wn_bindE, wn_u1E, dif_pos h0]
  dsimp only
  rw [show B[pc].toNat = op from (show B[pc + 0].toNat = op from e.trans hb), hr]
  dsimp only
  rw [show pc + 1 + k - pc = k + 1 by omega]
section EN
variable {B : ByteArray} {pc l op x : Nat} {i : Instr} {v : Int}
theorem en_u1E {k : Nat} (h : pc + k < B.size) : Reader.runAt (Reader.u1 : Decoder Nat) B (pc + k) = .ok (en_b (B.data.toList.drop pc) k, pc + k + 1) := by
  rw [wn_u1E, dif_pos h, en_at h]
theorem en_u2E {k : Nat} (h : pc + (k + 1) < B.size) : Reader.runAt (Reader.u2 : Decoder Nat) B (pc + k) = .ok (en_b (B.data.toList.drop pc) k * 256 + en_b (B.data.toList.drop pc) (k + 1), pc + k + 2) := by
  have e : Reader.runAt (Reader.u2 : Decoder Nat) B (pc + k) = Reader.runAt ((Reader.u1 : Decoder Nat) >>= fun hi => (Reader.u1 : Decoder Nat) >>= fun lo => pure (hi * 256 + lo)) B (pc + k) := rfl
  rw [e, wn_bindE, en_u1E (by omega)]
  dsimp only
  rw [wn_bindE, show pc + k + 1 = pc + (k + 1) from rfl, en_u1E h]
  rfl
theorem en_sz {n : Nat} (hs : l ≤ (B.data.toList.drop pc).length) (hl : n < l) : pc + n < B.size := by
  rw [List.length_drop] at hs
  show pc + n < B.data.toList.length
  omega
theorem en_K1 (hs : l ≤ (B.data.toList.drop pc).length) (h : (Nat.beq (en_b (B.data.toList.drop pc) 0) op && Nat.beq l 1) = true) (hF : (wn_Fx pc).1 op = Pure.pure i) : decode B pc = .ok (i, l) := by
  obtain ⟨h1, h2⟩ := Bool.and_eq_true_iff.mp h
  have h2 := Nat.eq_of_beq_eq_true h2
  subst h2
  refine en_run (k := 0) (en_sz (n := 0) hs (by omega)) (Nat.eq_of_beq_eq_true h1) ?_
  rw [hF]
  rfl
theorem en_K2 {f : Nat → Instr} (hs : l ≤ (B.data.toList.drop pc).length) (h : (Nat.beq (en_b (B.data.toList.drop pc) 0) op && (Nat.beq x (en_b (B.data.toList.drop pc) 1) && Nat.beq l 2)) = true) (hF : (wn_Fx pc).1 op = (Reader.u1 >>= fun z => pure (f z))) : decode B pc = .ok (f x, l) := by
  obtain ⟨h1, h2⟩ := Bool.and_eq_true_iff.mp h
  obtain ⟨g2, g3⟩ := Bool.and_eq_true_iff.mp h2
  have h3 := Nat.eq_of_beq_eq_true g3
  subst h3
  refine en_run (k := 1) (en_sz (n := 0) hs (by omega)) (Nat.eq_of_beq_eq_true h1) ?_
  rw [hF, wn_bindE, en_u1E (en_sz (n := 1) hs (by omega)), Nat.eq_of_beq_eq_true g2]
  rfl
theorem en_K3 {f : Nat → Instr} (hs : l ≤ (B.data.toList.drop pc).length) (h : (Nat.beq (en_b (B.data.toList.drop pc) 0) op && (Nat.beq x (en_b (B.data.toList.drop pc) 1 * 256 + en_b (B.data.toList.drop pc) 2) && Nat.beq l 3)) = true) (hF : (wn_Fx pc).1 op = (Reader.u2 >>= fun z => pure (f z))) : decode B pc = .ok (f x, l) := by
  obtain ⟨h1, h2⟩ := Bool.and_eq_true_iff.mp h
  obtain ⟨g2, g3⟩ := Bool.and_eq_true_iff.mp h2
  have h3 := Nat.eq_of_beq_eq_true g3
  subst h3
  refine en_run (k := 2) (en_sz (n := 0) hs (by omega)) (Nat.eq_of_beq_eq_true h1) ?_
  rw [hF, wn_bindE, en_u2E (k := 1) (en_sz (n := 2) hs (by omega)), Nat.eq_of_beq_eq_true g2]
  rfl
theorem en_K4 {f : Int → Instr} (hs : l ≤ (B.data.toList.drop pc).length) (h : (Nat.beq (en_b (B.data.toList.drop pc) 0) op && (decide (v = Reader.signed 8 (en_b (B.data.toList.drop pc) 1)) && Nat.beq l 2)) = true) (hF : (wn_Fx pc).1 op = (Reader.s1 >>= fun z => pure (f z))) : decode B pc = .ok (f v, l) := by
  obtain ⟨h1, h2⟩ := Bool.and_eq_true_iff.mp h
  obtain ⟨g2, g3⟩ := Bool.and_eq_true_iff.mp h2
  have h3 := Nat.eq_of_beq_eq_true g3
  subst h3
  refine en_run (k := 1) (en_sz (n := 0) hs (by omega)) (Nat.eq_of_beq_eq_true h1) ?_
  have e : Reader.runAt (Reader.s1 : Decoder Int) B (pc + 1) = Reader.runAt (Reader.signed 8 <$> (Reader.u1 : Decoder Nat)) B (pc + 1) := rfl
  rw [hF, wn_bindE, e, wn_mapE, en_u1E (en_sz (n := 1) hs (by omega)), of_decide_eq_true g2]
  rfl
theorem en_K5 {f : Int → Instr} (hs : l ≤ (B.data.toList.drop pc).length) (h : (Nat.beq (en_b (B.data.toList.drop pc) 0) op && (decide (v = Reader.signed 16 (en_b (B.data.toList.drop pc) 1 * 256 + en_b (B.data.toList.drop pc) 2)) && Nat.beq l 3)) = true) (hF : (wn_Fx pc).1 op = (Reader.s2 >>= fun z => pure (f z))) : decode B pc = .ok (f v, l) := by
  obtain ⟨h1, h2⟩ := Bool.and_eq_true_iff.mp h
  obtain ⟨g2, g3⟩ := Bool.and_eq_true_iff.mp h2
  have h3 := Nat.eq_of_beq_eq_true g3
  subst h3
  refine en_run (k := 2) (en_sz (n := 0) hs (by omega)) (Nat.eq_of_beq_eq_true h1) ?_
  have e : Reader.runAt (Reader.s2 : Decoder Int) B (pc + 1) = Reader.runAt (Reader.signed 16 <$> (Reader.u2 : Decoder Nat)) B (pc + 1) := rfl
  rw [hF, wn_bindE, e, wn_mapE, en_u2E (k := 1) (en_sz (n := 2) hs (by omega)), of_decide_eq_true g2]
  rfl
theorem en_K6 (hs : l ≤ (B.data.toList.drop pc).length) (h : (Nat.beq (en_b (B.data.toList.drop pc) 0) op && ((Nat.beq x (en_b (B.data.toList.drop pc) 1) && decide (v = Reader.signed 8 (en_b (B.data.toList.drop pc) 2))) && Nat.beq l 3)) = true) (hF : (wn_Fx pc).1 op = (Reader.u1 >>= fun z => Reader.s1 >>= fun w => pure (.iinc z w))) : decode B pc = .ok (.iinc x v, l) := by
  obtain ⟨h1, h2⟩ := Bool.and_eq_true_iff.mp h
  obtain ⟨g2, g3⟩ := Bool.and_eq_true_iff.mp h2
  obtain ⟨k2, k4⟩ := Bool.and_eq_true_iff.mp g2
  have h3 := Nat.eq_of_beq_eq_true g3
  subst h3
  refine en_run (k := 2) (en_sz (n := 0) hs (by omega)) (Nat.eq_of_beq_eq_true h1) ?_
  have e : Reader.runAt (Reader.s1 : Decoder Int) B (pc + 1 + 1) = Reader.runAt (Reader.signed 8 <$> (Reader.u1 : Decoder Nat)) B (pc + 2) := rfl
  rw [hF, wn_bindE, en_u1E (en_sz (n := 1) hs (by omega))]
  dsimp only
  rw [wn_bindE, e, wn_mapE, en_u1E (en_sz (n := 2) hs (by omega)), of_decide_eq_true k4, Nat.eq_of_beq_eq_true k2]
  rfl
def en_ic (n : Int) (b0 : Nat) : Bool := (Nat.beq b0 2 && decide (n = (-1))) || (Nat.beq b0 3 && decide (n = 0)) || (Nat.beq b0 4 && decide (n = 1)) || (Nat.beq b0 5 && decide (n = 2)) || (Nat.beq b0 6 && decide (n = 3)) || (Nat.beq b0 7 && decide (n = 4)) || (Nat.beq b0 8 && decide (n = 5))
theorem en_ic_ok {n : Int} (hs : l ≤ (B.data.toList.drop pc).length) (h : (en_ic n (en_b (B.data.toList.drop pc) 0) && Nat.beq l 1) = true) : decode B pc = .ok (.iconst n, l) := by
  obtain ⟨h1, h2⟩ := Bool.and_eq_true_iff.mp h
  unfold en_ic at h1
  simp only [Bool.or_eq_true, Bool.and_eq_true, decide_eq_true_eq] at h1
  rcases h1 with ((((((h1 | h1) | h1) | h1) | h1) | h1) | h1)
  · rw [h1.2]; exact en_K1 (op := 2) hs (Bool.and_eq_true_iff.mpr ⟨h1.1, h2⟩) rfl
  · rw [h1.2]; exact en_K1 (op := 3) hs (Bool.and_eq_true_iff.mpr ⟨h1.1, h2⟩) rfl
  · rw [h1.2]; exact en_K1 (op := 4) hs (Bool.and_eq_true_iff.mpr ⟨h1.1, h2⟩) rfl
  · rw [h1.2]; exact en_K1 (op := 5) hs (Bool.and_eq_true_iff.mpr ⟨h1.1, h2⟩) rfl
  · rw [h1.2]; exact en_K1 (op := 6) hs (Bool.and_eq_true_iff.mpr ⟨h1.1, h2⟩) rfl
  · rw [h1.2]; exact en_K1 (op := 7) hs (Bool.and_eq_true_iff.mpr ⟨h1.1, h2⟩) rfl
  · rw [h1.2]; exact en_K1 (op := 8) hs (Bool.and_eq_true_iff.mpr ⟨h1.1, h2⟩) rfl
end EN
def en_c (i : Instr) (l b0 b1 b2 : Nat) : Bool := match i with
  | .aaload => Nat.beq b0 50 && Nat.beq l 1
  | .aastore => Nat.beq b0 83 && Nat.beq l 1
  | .areturn => Nat.beq b0 176 && Nat.beq l 1
  | .arraylength => Nat.beq b0 190 && Nat.beq l 1
  | .baload => Nat.beq b0 51 && Nat.beq l 1
  | .dup => Nat.beq b0 89 && Nat.beq l 1
  | .dup2 => Nat.beq b0 92 && Nat.beq l 1
  | .dup_x1 => Nat.beq b0 90 && Nat.beq l 1
  | .i2b => Nat.beq b0 145 && Nat.beq l 1
  | .i2c => Nat.beq b0 146 && Nat.beq l 1
  | .i2l => Nat.beq b0 133 && Nat.beq l 1
  | .i2s => Nat.beq b0 147 && Nat.beq l 1
  | .iadd => Nat.beq b0 96 && Nat.beq l 1
  | .iaload => Nat.beq b0 46 && Nat.beq l 1
  | .iand => Nat.beq b0 126 && Nat.beq l 1
  | .iastore => Nat.beq b0 79 && Nat.beq l 1
  | .idiv => Nat.beq b0 108 && Nat.beq l 1
  | .imul => Nat.beq b0 104 && Nat.beq l 1
  | .ineg => Nat.beq b0 116 && Nat.beq l 1
  | .ior => Nat.beq b0 128 && Nat.beq l 1
  | .irem => Nat.beq b0 112 && Nat.beq l 1
  | .ireturn => Nat.beq b0 172 && Nat.beq l 1
  | .ishl => Nat.beq b0 120 && Nat.beq l 1
  | .ishr => Nat.beq b0 122 && Nat.beq l 1
  | .isub => Nat.beq b0 100 && Nat.beq l 1
  | .iushr => Nat.beq b0 124 && Nat.beq l 1
  | .ixor => Nat.beq b0 130 && Nat.beq l 1
  | .l2i => Nat.beq b0 136 && Nat.beq l 1
  | .ladd => Nat.beq b0 97 && Nat.beq l 1
  | .laload => Nat.beq b0 47 && Nat.beq l 1
  | .land => Nat.beq b0 127 && Nat.beq l 1
  | .lastore => Nat.beq b0 80 && Nat.beq l 1
  | .lcmp => Nat.beq b0 148 && Nat.beq l 1
  | .lmul => Nat.beq b0 105 && Nat.beq l 1
  | .lor => Nat.beq b0 129 && Nat.beq l 1
  | .lreturn => Nat.beq b0 173 && Nat.beq l 1
  | .lshl => Nat.beq b0 121 && Nat.beq l 1
  | .pop => Nat.beq b0 87 && Nat.beq l 1
  | .pop2 => Nat.beq b0 88 && Nat.beq l 1
  | .return_ => Nat.beq b0 177 && Nat.beq l 1
  | .aload_n n => Nat.beq b0 (42 + n.val) && Nat.beq l 1
  | .astore_n n => Nat.beq b0 (75 + n.val) && Nat.beq l 1
  | .iload_n n => Nat.beq b0 (26 + n.val) && Nat.beq l 1
  | .istore_n n => Nat.beq b0 (59 + n.val) && Nat.beq l 1
  | .lload_n n => Nat.beq b0 (30 + n.val) && Nat.beq l 1
  | .lstore_n n => Nat.beq b0 (63 + n.val) && Nat.beq l 1
  | .lconst n => Nat.beq b0 (9 + n.val) && Nat.beq l 1
  | .aload x => Nat.beq b0 25 && (Nat.beq x b1 && Nat.beq l 2)
  | .astore x => Nat.beq b0 58 && (Nat.beq x b1 && Nat.beq l 2)
  | .iload x => Nat.beq b0 21 && (Nat.beq x b1 && Nat.beq l 2)
  | .istore x => Nat.beq b0 54 && (Nat.beq x b1 && Nat.beq l 2)
  | .ldc x => Nat.beq b0 18 && (Nat.beq x b1 && Nat.beq l 2)
  | .lload x => Nat.beq b0 22 && (Nat.beq x b1 && Nat.beq l 2)
  | .lstore x => Nat.beq b0 55 && (Nat.beq x b1 && Nat.beq l 2)
  | .anewarray x => Nat.beq b0 189 && (Nat.beq x (b1 * 256 + b2) && Nat.beq l 3)
  | .getfield x => Nat.beq b0 180 && (Nat.beq x (b1 * 256 + b2) && Nat.beq l 3)
  | .getstatic x => Nat.beq b0 178 && (Nat.beq x (b1 * 256 + b2) && Nat.beq l 3)
  | .invokespecial x => Nat.beq b0 183 && (Nat.beq x (b1 * 256 + b2) && Nat.beq l 3)
  | .invokestatic x => Nat.beq b0 184 && (Nat.beq x (b1 * 256 + b2) && Nat.beq l 3)
  | .invokevirtual x => Nat.beq b0 182 && (Nat.beq x (b1 * 256 + b2) && Nat.beq l 3)
  | .ldc_w x => Nat.beq b0 19 && (Nat.beq x (b1 * 256 + b2) && Nat.beq l 3)
  | .ldc2_w x => Nat.beq b0 20 && (Nat.beq x (b1 * 256 + b2) && Nat.beq l 3)
  | .new x => Nat.beq b0 187 && (Nat.beq x (b1 * 256 + b2) && Nat.beq l 3)
  | .putfield x => Nat.beq b0 181 && (Nat.beq x (b1 * 256 + b2) && Nat.beq l 3)
  | .bipush v => Nat.beq b0 16 && (decide (v = Reader.signed 8 b1) && Nat.beq l 2)
  | .sipush v => Nat.beq b0 17 && (decide (v = Reader.signed 16 (b1 * 256 + b2)) && Nat.beq l 3)
  | .goto v => Nat.beq b0 167 && (decide (v = Reader.signed 16 (b1 * 256 + b2)) && Nat.beq l 3)
  | .ifCond .eq v => Nat.beq b0 153 && (decide (v = Reader.signed 16 (b1 * 256 + b2)) && Nat.beq l 3)
  | .ifCond .ne v => Nat.beq b0 154 && (decide (v = Reader.signed 16 (b1 * 256 + b2)) && Nat.beq l 3)
  | .ifCond .lt v => Nat.beq b0 155 && (decide (v = Reader.signed 16 (b1 * 256 + b2)) && Nat.beq l 3)
  | .ifCond .ge v => Nat.beq b0 156 && (decide (v = Reader.signed 16 (b1 * 256 + b2)) && Nat.beq l 3)
  | .ifCond .gt v => Nat.beq b0 157 && (decide (v = Reader.signed 16 (b1 * 256 + b2)) && Nat.beq l 3)
  | .ifCond .le v => Nat.beq b0 158 && (decide (v = Reader.signed 16 (b1 * 256 + b2)) && Nat.beq l 3)
  | .if_icmp .eq v => Nat.beq b0 159 && (decide (v = Reader.signed 16 (b1 * 256 + b2)) && Nat.beq l 3)
  | .if_icmp .ne v => Nat.beq b0 160 && (decide (v = Reader.signed 16 (b1 * 256 + b2)) && Nat.beq l 3)
  | .if_icmp .lt v => Nat.beq b0 161 && (decide (v = Reader.signed 16 (b1 * 256 + b2)) && Nat.beq l 3)
  | .if_icmp .ge v => Nat.beq b0 162 && (decide (v = Reader.signed 16 (b1 * 256 + b2)) && Nat.beq l 3)
  | .if_icmp .gt v => Nat.beq b0 163 && (decide (v = Reader.signed 16 (b1 * 256 + b2)) && Nat.beq l 3)
  | .if_icmp .le v => Nat.beq b0 164 && (decide (v = Reader.signed 16 (b1 * 256 + b2)) && Nat.beq l 3)
  | .iinc x v => Nat.beq b0 132 && ((Nat.beq x b1 && decide (v = Reader.signed 8 b2)) && Nat.beq l 3)
  | .iconst n => en_ic n b0 && Nat.beq l 1
  | _ => false
set_option maxRecDepth 100000 in
theorem en_ok {B : ByteArray} {pc l : Nat} {i : Instr} (hs : l ≤ (B.data.toList.drop pc).length) (h : en_c i l (en_b (B.data.toList.drop pc) 0) (en_b (B.data.toList.drop pc) 1) (en_b (B.data.toList.drop pc) 2) = true) : decode B pc = .ok (i, l) := by
  cases i with
  | aaload => exact en_K1 hs h rfl
  | aastore => exact en_K1 hs h rfl
  | areturn => exact en_K1 hs h rfl
  | arraylength => exact en_K1 hs h rfl
  | baload => exact en_K1 hs h rfl
  | dup => exact en_K1 hs h rfl
  | dup2 => exact en_K1 hs h rfl
  | dup_x1 => exact en_K1 hs h rfl
  | i2b => exact en_K1 hs h rfl
  | i2c => exact en_K1 hs h rfl
  | i2l => exact en_K1 hs h rfl
  | i2s => exact en_K1 hs h rfl
  | iadd => exact en_K1 hs h rfl
  | iaload => exact en_K1 hs h rfl
  | iand => exact en_K1 hs h rfl
  | iastore => exact en_K1 hs h rfl
  | idiv => exact en_K1 hs h rfl
  | imul => exact en_K1 hs h rfl
  | ineg => exact en_K1 hs h rfl
  | ior => exact en_K1 hs h rfl
  | irem => exact en_K1 hs h rfl
  | ireturn => exact en_K1 hs h rfl
  | ishl => exact en_K1 hs h rfl
  | ishr => exact en_K1 hs h rfl
  | isub => exact en_K1 hs h rfl
  | iushr => exact en_K1 hs h rfl
  | ixor => exact en_K1 hs h rfl
  | l2i => exact en_K1 hs h rfl
  | ladd => exact en_K1 hs h rfl
  | laload => exact en_K1 hs h rfl
  | land => exact en_K1 hs h rfl
  | lastore => exact en_K1 hs h rfl
  | lcmp => exact en_K1 hs h rfl
  | lmul => exact en_K1 hs h rfl
  | lor => exact en_K1 hs h rfl
  | lreturn => exact en_K1 hs h rfl
  | lshl => exact en_K1 hs h rfl
  | pop => exact en_K1 hs h rfl
  | pop2 => exact en_K1 hs h rfl
  | return_ => exact en_K1 hs h rfl
  | aload_n n =>
    match n, h with
    | 0, h => exact en_K1 (op := 42) hs h rfl
    | 1, h => exact en_K1 (op := 43) hs h rfl
    | 2, h => exact en_K1 (op := 44) hs h rfl
    | 3, h => exact en_K1 (op := 45) hs h rfl
  | astore_n n =>
    match n, h with
    | 0, h => exact en_K1 (op := 75) hs h rfl
    | 1, h => exact en_K1 (op := 76) hs h rfl
    | 2, h => exact en_K1 (op := 77) hs h rfl
    | 3, h => exact en_K1 (op := 78) hs h rfl
  | iload_n n =>
    match n, h with
    | 0, h => exact en_K1 (op := 26) hs h rfl
    | 1, h => exact en_K1 (op := 27) hs h rfl
    | 2, h => exact en_K1 (op := 28) hs h rfl
    | 3, h => exact en_K1 (op := 29) hs h rfl
  | istore_n n =>
    match n, h with
    | 0, h => exact en_K1 (op := 59) hs h rfl
    | 1, h => exact en_K1 (op := 60) hs h rfl
    | 2, h => exact en_K1 (op := 61) hs h rfl
    | 3, h => exact en_K1 (op := 62) hs h rfl
  | lload_n n =>
    match n, h with
    | 0, h => exact en_K1 (op := 30) hs h rfl
    | 1, h => exact en_K1 (op := 31) hs h rfl
    | 2, h => exact en_K1 (op := 32) hs h rfl
    | 3, h => exact en_K1 (op := 33) hs h rfl
  | lstore_n n =>
    match n, h with
    | 0, h => exact en_K1 (op := 63) hs h rfl
    | 1, h => exact en_K1 (op := 64) hs h rfl
    | 2, h => exact en_K1 (op := 65) hs h rfl
    | 3, h => exact en_K1 (op := 66) hs h rfl
  | lconst n =>
    match n, h with
    | 0, h => exact en_K1 (op := 9) hs h rfl
    | 1, h => exact en_K1 (op := 10) hs h rfl
  | aload x => exact en_K2 (f := Instr.aload) hs h rfl
  | astore x => exact en_K2 (f := Instr.astore) hs h rfl
  | iload x => exact en_K2 (f := Instr.iload) hs h rfl
  | istore x => exact en_K2 (f := Instr.istore) hs h rfl
  | ldc x => exact en_K2 (f := Instr.ldc) hs h rfl
  | lload x => exact en_K2 (f := Instr.lload) hs h rfl
  | lstore x => exact en_K2 (f := Instr.lstore) hs h rfl
  | anewarray x => exact en_K3 (f := Instr.anewarray) hs h rfl
  | getfield x => exact en_K3 (f := Instr.getfield) hs h rfl
  | getstatic x => exact en_K3 (f := Instr.getstatic) hs h rfl
  | invokespecial x => exact en_K3 (f := Instr.invokespecial) hs h rfl
  | invokestatic x => exact en_K3 (f := Instr.invokestatic) hs h rfl
  | invokevirtual x => exact en_K3 (f := Instr.invokevirtual) hs h rfl
  | ldc_w x => exact en_K3 (f := Instr.ldc_w) hs h rfl
  | ldc2_w x => exact en_K3 (f := Instr.ldc2_w) hs h rfl
  | new x => exact en_K3 (f := Instr.new) hs h rfl
  | putfield x => exact en_K3 (f := Instr.putfield) hs h rfl
  | bipush v => exact en_K4 (f := Instr.bipush) hs h rfl
  | sipush v => exact en_K5 (f := Instr.sipush) hs h rfl
  | goto v => exact en_K5 (f := Instr.goto) hs h rfl
  | ifCond c v =>
    cases c with
    | eq => exact en_K5 (f := Instr.ifCond .eq) hs h rfl
    | ne => exact en_K5 (f := Instr.ifCond .ne) hs h rfl
    | lt => exact en_K5 (f := Instr.ifCond .lt) hs h rfl
    | ge => exact en_K5 (f := Instr.ifCond .ge) hs h rfl
    | gt => exact en_K5 (f := Instr.ifCond .gt) hs h rfl
    | le => exact en_K5 (f := Instr.ifCond .le) hs h rfl
  | if_icmp c v =>
    cases c with
    | eq => exact en_K5 (f := Instr.if_icmp .eq) hs h rfl
    | ne => exact en_K5 (f := Instr.if_icmp .ne) hs h rfl
    | lt => exact en_K5 (f := Instr.if_icmp .lt) hs h rfl
    | ge => exact en_K5 (f := Instr.if_icmp .ge) hs h rfl
    | gt => exact en_K5 (f := Instr.if_icmp .gt) hs h rfl
    | le => exact en_K5 (f := Instr.if_icmp .le) hs h rfl
  | iinc x v => exact en_K6 hs h rfl
  | iconst n => exact en_ic_ok hs h
  | _ => cases h
/-- the code from a byte on -/
def en_h : List UInt8 → Nat → Bool
  | _, 0 => true
  | [], _ + 1 => false
  | _ :: t, n + 1 => en_h t n
theorem en_h_ok : ∀ (bs : List UInt8) (n : Nat), en_h bs n = true → n ≤ bs.length
  | _, 0, _ => Nat.zero_le _
  | [], _ + 1, h => by cases h
  | _ :: t, n + 1, h => Nat.succ_le_succ (en_h_ok t n h)
def en_k (b : ByteArray) (bs : List UInt8) (q : Nat × mi_I) : Bool := en_h bs q.2.2.1 && (match en_c q.2.1 q.2.2.1 (en_b bs 0) (en_b bs 1) (en_b bs 2) with
  | true => true
  | false => wn_dk b q.1 (wn_len q.2.1) q.2.1 q.2.2.1)
def en_all (b : ByteArray) : List (Nat × mi_I) → List UInt8 → Nat → Bool
  | [], _, _ => true
  | q :: r, bs, pc => match Nat.beq q.1 pc with
    | true => en_k b bs q && en_all b r (bs.drop q.2.2.1) (pc + q.2.2.1)
    | false => Nat.ble pc q.1 && (en_k b (bs.drop (q.1 - pc)) q && en_all b r ((bs.drop (q.1 - pc)).drop q.2.2.1) (q.1 + q.2.2.1))
theorem en_k_ok {b : ByteArray} {q : Nat × mi_I} (e : en_k b (b.data.toList.drop q.1) q = true) : decode b q.1 = .ok (q.2.1, q.2.2.1) := by
  obtain ⟨e2, e3⟩ := Bool.and_eq_true_iff.mp (show (en_h (b.data.toList.drop q.1) q.2.2.1 && (match en_c q.2.1 q.2.2.1 (en_b (b.data.toList.drop q.1) 0) (en_b (b.data.toList.drop q.1) 1) (en_b (b.data.toList.drop q.1) 2) with
  | true => true
  | false => wn_dk b q.1 (wn_len q.2.1) q.2.1 q.2.2.1)) = true from e)
  cases ec : en_c q.2.1 q.2.2.1 (en_b (b.data.toList.drop q.1) 0) (en_b (b.data.toList.drop q.1) 1) (en_b (b.data.toList.drop q.1) 2) with
  | true => exact en_ok (en_h_ok _ _ e2) ec
  | false =>
    rw [ec] at e3
    exact wn_dk_ok e3
theorem en_all_ok (b : ByteArray) : ∀ (l : List (Nat × mi_I)) (pc : Nat), en_all b l (b.data.toList.drop pc) pc = true → ∀ q ∈ l, decode b q.1 = .ok (q.2.1, q.2.2.1)
  | [], _, _, _, hq => absurd hq List.not_mem_nil
  | z :: r, pc, h, q, hq => by
    have h : (match Nat.beq z.1 pc with
      | true => en_k b (b.data.toList.drop pc) z && en_all b r ((b.data.toList.drop pc).drop z.2.2.1) (pc + z.2.2.1)
      | false => Nat.ble pc z.1 && (en_k b ((b.data.toList.drop pc).drop (z.1 - pc)) z && en_all b r (((b.data.toList.drop pc).drop (z.1 - pc)).drop z.2.2.1) (z.1 + z.2.2.1))) = true := h
    have g : en_k b (b.data.toList.drop z.1) z = true ∧ en_all b r (b.data.toList.drop (z.1 + z.2.2.1)) (z.1 + z.2.2.1) = true := by
      cases e : Nat.beq z.1 pc with
      | true =>
        rw [e] at h
        obtain ⟨h1, h2⟩ := Bool.and_eq_true_iff.mp h
        have ep := Nat.eq_of_beq_eq_true e
        rw [List.drop_drop] at h2
        rw [ep]
        exact ⟨h1, h2⟩
      | false =>
        rw [e] at h
        obtain ⟨h1, h2⟩ := Bool.and_eq_true_iff.mp h
        obtain ⟨h2, h3⟩ := Bool.and_eq_true_iff.mp h2
        have hl := Nat.le_of_ble_eq_true h1
        rw [List.drop_drop, show pc + (z.1 - pc) = z.1 by omega] at h2
        rw [List.drop_drop, List.drop_drop, show pc + (z.1 - pc + z.2.2.1) = z.1 + z.2.2.1 by omega] at h3
        exact ⟨h2, h3⟩
    rcases List.mem_cons.mp hq with hz | hz
    · subst hz
      exact en_k_ok g.1
    · exact en_all_ok b r _ g.2 q hz
theorem en_all_ok0 {b : ByteArray} {l : List (Nat × mi_I)} (h : en_all b l b.data.toList 0 = true) {pc : Nat} {i : mi_I} (hq : (pc, i) ∈ l) : decode b pc = .ok (i.1, i.2.1) := by
  have h2 : en_all b l (b.data.toList.drop 0) 0 = true := by rw [List.drop_zero]; exact h
  have h3 := en_all_ok b l 0 h2 (pc, i) hq
  dsimp only at h3
  exact h3
