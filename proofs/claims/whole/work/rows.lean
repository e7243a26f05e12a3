section
-- ===== PART A: goes FIRST, ahead of the names: the tables' words, and 'selects' of the private methods out of them =====
/-- a private method of a class that the tables say can be made, by its rows of tables_1 -/
def lw_okq (q : MethodName × Nat) : Prop := (q.1.cls ≠ "java/lang/invoke/MethodHandle" ∧ q.1.cls ≠ "java/lang/invoke/VarHandle") ∧ Cond.instantiable q.1.cls q.2 ∈ tables_1 ∧ Cond.privateMethod q.1 ∈ tables_1 ∧ Cond.instanceMethod q.1 ∈ tables_1
theorem lw_p0 : lw_okq (⟨"PicturePapers", "sheetAt", "(I)LPicturePapers$Sheet;"⟩, 13) := sorry
theorem lw_p1 : lw_okq (⟨"PicturePapers", "failed", "(I)I"⟩, 13) := sorry
theorem lw_p2 : lw_okq (⟨"PicturePapers", "addPicture", "()LPicturePapers$Picture;"⟩, 13) := sorry
theorem lw_p3 : lw_okq (⟨"PicturePapers", "pictureAt", "(I)LPicturePapers$Picture;"⟩, 13) := sorry
theorem lw_p4 : lw_okq (⟨"PicturePapers", "lensAt", "(I)LPicturePapers$Lens;"⟩, 13) := sorry
theorem lw_p5 : lw_okq (⟨"PicturePapers", "sealOf", "(LPicturePapers$Picture;LPicturePapers$Lens;I)I"⟩, 13) := sorry
theorem lw_p6 : lw_okq (⟨"PicturePapers", "readActs", "(LPicturePapers$Sheet;III)I"⟩, 13) := sorry
theorem lw_p7 : lw_okq (⟨"PicturePapers$Reader", "code", "()I"⟩, 6) := sorry
theorem lw_p8 : lw_okq (⟨"PicturePapers$Reader", "readNumber", "(I)Z"⟩, 6) := sorry
theorem lw_p9 : lw_okq (⟨"PicturePapers$Reader", "readDigits", "(I)I"⟩, 6) := sorry
theorem lw_p10 : lw_okq (⟨"PicturePapers$Reader", "readShift", "()Z"⟩, 6) := sorry
theorem lw_p11 : lw_okq (⟨"PicturePapers$Workshop", "performOne", "(II)Z"⟩, 2) := sorry
theorem lw_p12 : lw_okq (⟨"PicturePapers$Workshop", "holds", "(IIII)Z"⟩, 2) := sorry
theorem lw_p13 : lw_okq (⟨"PicturePapers$Workshop", "cutOut", "(IIII)V"⟩, 2) := sorry
theorem lw_p14 : lw_okq (⟨"PicturePapers$Workshop", "blur", "(IIII)V"⟩, 2) := sorry
theorem lw_p15 : lw_okq (⟨"PicturePapers$Workshop", "turn", "()V"⟩, 2) := sorry
def lw_privs_1 : List (MethodName × Nat) := [(⟨"PicturePapers", "sheetAt", "(I)LPicturePapers$Sheet;"⟩, 13), (⟨"PicturePapers", "failed", "(I)I"⟩, 13), (⟨"PicturePapers", "addPicture", "()LPicturePapers$Picture;"⟩, 13), (⟨"PicturePapers", "pictureAt", "(I)LPicturePapers$Picture;"⟩, 13), (⟨"PicturePapers", "lensAt", "(I)LPicturePapers$Lens;"⟩, 13), (⟨"PicturePapers", "sealOf", "(LPicturePapers$Picture;LPicturePapers$Lens;I)I"⟩, 13), (⟨"PicturePapers", "readActs", "(LPicturePapers$Sheet;III)I"⟩, 13), (⟨"PicturePapers$Reader", "code", "()I"⟩, 6), (⟨"PicturePapers$Reader", "readNumber", "(I)Z"⟩, 6), (⟨"PicturePapers$Reader", "readDigits", "(I)I"⟩, 6), (⟨"PicturePapers$Reader", "readShift", "()Z"⟩, 6), (⟨"PicturePapers$Workshop", "performOne", "(II)Z"⟩, 2), (⟨"PicturePapers$Workshop", "holds", "(IIII)Z"⟩, 2), (⟨"PicturePapers$Workshop", "cutOut", "(IIII)V"⟩, 2), (⟨"PicturePapers$Workshop", "blur", "(IIII)V"⟩, 2), (⟨"PicturePapers$Workshop", "turn", "()V"⟩, 2)]
theorem lw_r1 : ∀ q ∈ lw_privs_1, lw_okq q := sorry
theorem lw_p16 : lw_okq (⟨"PicturePapers$Workshop", "shift", "(I)V"⟩, 2) := sorry
theorem lw_p17 : lw_okq (⟨"PicturePapers$Workshop", "saveWorse", "(I)V"⟩, 2) := sorry
theorem lw_p18 : lw_okq (⟨"PicturePapers", "voiceOf", "(LPicturePapers$Picture;LPicturePapers$Taken;)I"⟩, 13) := sorry
theorem lw_p19 : lw_okq (⟨"PicturePapers", "firstFarPlace", "(LPicturePapers$Picture;LPicturePapers$Taken;)I"⟩, 13) := sorry
theorem lw_p20 : lw_okq (⟨"PicturePapers", "firstDoubt", "(LPicturePapers$Picture;)I"⟩, 13) := sorry
theorem lw_p21 : lw_okq (⟨"PicturePapers$Picture", "tellsBit", "(III)Z"⟩, 5) := sorry
theorem lw_p22 : lw_okq (⟨"PicturePapers", "countNearer", "(LPicturePapers$Picture;LPicturePapers$Picture;)I"⟩, 13) := sorry
theorem lw_p23 : lw_okq (⟨"PicturePapers", "hoursOf", "(I)I"⟩, 13) := sorry
theorem lw_p24 : lw_okq (⟨"PicturePapers", "worthOf", "(I)I"⟩, 13) := sorry
theorem lw_p25 : lw_okq (⟨"PicturePapers", "countPapers", "()I"⟩, 13) := sorry
theorem lw_p26 : lw_okq (⟨"PicturePapersModel", "refused", "(I)I"⟩, 33) := sorry
theorem lw_p27 : lw_okq (⟨"PicturePapersModel", "barred", "(IIIJ)I"⟩, 33) := sorry
theorem lw_p28 : lw_okq (⟨"PicturePapersModel", "failed", "(I)I"⟩, 33) := sorry
theorem lw_p29 : lw_okq (⟨"PicturePapersModel", "noPicture", "(I)Z"⟩, 33) := sorry
theorem lw_p30 : lw_okq (⟨"PicturePapersModel", "sumOf", "(I)I"⟩, 33) := sorry
theorem lw_p31 : lw_okq (⟨"PicturePapersModel", "manySquares", "(I)I"⟩, 33) := sorry
def lw_privs_2 : List (MethodName × Nat) := [(⟨"PicturePapers$Workshop", "shift", "(I)V"⟩, 2), (⟨"PicturePapers$Workshop", "saveWorse", "(I)V"⟩, 2), (⟨"PicturePapers", "voiceOf", "(LPicturePapers$Picture;LPicturePapers$Taken;)I"⟩, 13), (⟨"PicturePapers", "firstFarPlace", "(LPicturePapers$Picture;LPicturePapers$Taken;)I"⟩, 13), (⟨"PicturePapers", "firstDoubt", "(LPicturePapers$Picture;)I"⟩, 13), (⟨"PicturePapers$Picture", "tellsBit", "(III)Z"⟩, 5), (⟨"PicturePapers", "countNearer", "(LPicturePapers$Picture;LPicturePapers$Picture;)I"⟩, 13), (⟨"PicturePapers", "hoursOf", "(I)I"⟩, 13), (⟨"PicturePapers", "worthOf", "(I)I"⟩, 13), (⟨"PicturePapers", "countPapers", "()I"⟩, 13), (⟨"PicturePapersModel", "refused", "(I)I"⟩, 33), (⟨"PicturePapersModel", "barred", "(IIIJ)I"⟩, 33), (⟨"PicturePapersModel", "failed", "(I)I"⟩, 33), (⟨"PicturePapersModel", "noPicture", "(I)Z"⟩, 33), (⟨"PicturePapersModel", "sumOf", "(I)I"⟩, 33), (⟨"PicturePapersModel", "manySquares", "(I)I"⟩, 33)]
theorem lw_r2 : ∀ q ∈ lw_privs_2, lw_okq q := sorry
theorem lw_p32 : lw_okq (⟨"PicturePapersModel", "placeOf", "(II)I"⟩, 33) := sorry
theorem lw_p33 : lw_okq (⟨"PicturePapersModel", "rootOf", "(I)I"⟩, 33) := sorry
theorem lw_p34 : lw_okq (⟨"PicturePapersModel", "layTree", "(I)V"⟩, 33) := sorry
theorem lw_p35 : lw_okq (⟨"PicturePapersModel", "isThere", "(II)Z"⟩, 33) := sorry
theorem lw_p36 : lw_okq (⟨"PicturePapersModel", "readActs", "(II)I"⟩, 33) := sorry
theorem lw_p37 : lw_okq (⟨"PicturePapersModel", "readsNumbers", "(III)Z"⟩, 33) := sorry
theorem lw_p38 : lw_okq (⟨"PicturePapersModel", "isDigit", "(II)Z"⟩, 33) := sorry
theorem lw_p39 : lw_okq (⟨"PicturePapersModel", "takeInHand", "(I)V"⟩, 33) := sorry
theorem lw_p40 : lw_okq (⟨"PicturePapersModel", "doActs", "([III)Z"⟩, 33) := sorry
theorem lw_p41 : lw_okq (⟨"PicturePapersModel", "doPart", "([II)Z"⟩, 33) := sorry
theorem lw_p42 : lw_okq (⟨"PicturePapersModel", "turn", "()V"⟩, 33) := sorry
theorem lw_p43 : lw_okq (⟨"PicturePapersModel", "noLens", "(I)Z"⟩, 33) := sorry
theorem lw_p44 : lw_okq (⟨"PicturePapersModel", "noLine", "(I)Z"⟩, 33) := sorry
theorem lw_p45 : lw_okq (⟨"PicturePapersModel", "write", "(IIIII)I"⟩, 33) := sorry
theorem lw_p46 : lw_okq (⟨"PicturePapersModel", "sealOf", "(III)I"⟩, 33) := sorry
theorem lw_p47 : lw_okq (⟨"PicturePapersModel", "played", "(I)I"⟩, 33) := sorry
def lw_privs_3 : List (MethodName × Nat) := [(⟨"PicturePapersModel", "placeOf", "(II)I"⟩, 33), (⟨"PicturePapersModel", "rootOf", "(I)I"⟩, 33), (⟨"PicturePapersModel", "layTree", "(I)V"⟩, 33), (⟨"PicturePapersModel", "isThere", "(II)Z"⟩, 33), (⟨"PicturePapersModel", "readActs", "(II)I"⟩, 33), (⟨"PicturePapersModel", "readsNumbers", "(III)Z"⟩, 33), (⟨"PicturePapersModel", "isDigit", "(II)Z"⟩, 33), (⟨"PicturePapersModel", "takeInHand", "(I)V"⟩, 33), (⟨"PicturePapersModel", "doActs", "([III)Z"⟩, 33), (⟨"PicturePapersModel", "doPart", "([II)Z"⟩, 33), (⟨"PicturePapersModel", "turn", "()V"⟩, 33), (⟨"PicturePapersModel", "noLens", "(I)Z"⟩, 33), (⟨"PicturePapersModel", "noLine", "(I)Z"⟩, 33), (⟨"PicturePapersModel", "write", "(IIIII)I"⟩, 33), (⟨"PicturePapersModel", "sealOf", "(III)I"⟩, 33), (⟨"PicturePapersModel", "played", "(I)I"⟩, 33)]
theorem lw_r3 : ∀ q ∈ lw_privs_3, lw_okq q := sorry
theorem lw_p48 : lw_okq (⟨"PicturePapersModel", "speaking", "(I)I"⟩, 33) := sorry
theorem lw_p49 : lw_okq (⟨"PicturePapersModel", "nextOn", "(I)I"⟩, 33) := sorry
theorem lw_p50 : lw_okq (⟨"PicturePapersModel", "doubtOn", "(I)I"⟩, 33) := sorry
theorem lw_p51 : lw_okq (⟨"PicturePapersModel", "looked", "(I)I"⟩, 33) := sorry
theorem lw_p52 : lw_okq (⟨"PicturePapersModel", "isSo", "(III)Z"⟩, 33) := sorry
theorem lw_p53 : lw_okq (⟨"PicturePapersModel", "foundIn", "(II)I"⟩, 33) := sorry
theorem lw_p54 : lw_okq (⟨"PicturePapersModel", "likeness", "(II)I"⟩, 33) := sorry
theorem lw_p55 : lw_okq (⟨"PicturePapersModel", "extreme", "(II)I"⟩, 33) := sorry
theorem lw_p56 : lw_okq (⟨"PicturePapersModel", "ofLooks", "(II)I"⟩, 33) := sorry
theorem lw_p57 : lw_okq (⟨"PicturePapersModel", "noCell", "(II)I"⟩, 33) := sorry
theorem lw_p58 : lw_okq (⟨"PicturePapersModel", "failedLong", "(I)J"⟩, 33) := sorry
theorem lw_p59 : lw_okq (⟨"PicturePapersModel", "traced", "(I)V"⟩, 33) := sorry
def lw_privs_4 : List (MethodName × Nat) := [(⟨"PicturePapersModel", "speaking", "(I)I"⟩, 33), (⟨"PicturePapersModel", "nextOn", "(I)I"⟩, 33), (⟨"PicturePapersModel", "doubtOn", "(I)I"⟩, 33), (⟨"PicturePapersModel", "looked", "(I)I"⟩, 33), (⟨"PicturePapersModel", "isSo", "(III)Z"⟩, 33), (⟨"PicturePapersModel", "foundIn", "(II)I"⟩, 33), (⟨"PicturePapersModel", "likeness", "(II)I"⟩, 33), (⟨"PicturePapersModel", "extreme", "(II)I"⟩, 33), (⟨"PicturePapersModel", "ofLooks", "(II)I"⟩, 33), (⟨"PicturePapersModel", "noCell", "(II)I"⟩, 33), (⟨"PicturePapersModel", "failedLong", "(I)J"⟩, 33), (⟨"PicturePapersModel", "traced", "(I)V"⟩, 33)]
theorem lw_r4 : ∀ q ∈ lw_privs_4, lw_okq q := sorry
def lw_privs : List (MethodName × Nat) := lw_privs_1 ++ (lw_privs_2 ++ (lw_privs_3 ++ (lw_privs_4)))
def lw_tbl : List Cond := k2_sels lw_privs ++ tables_1
theorem lw_privs_ok : ∀ q ∈ lw_privs, lw_okq q := sorry
end
section
def RX0 : String := "PicturePapers$Changed"
def TX0 : u_T := fun k => match k with
  | 0 => ("PicturePapers$Taken", "lens", "LPicturePapers$Lens;", true)
  | 1 => ("PicturePapers$Taken", "hour", "I", true)
  | 2 => ("PicturePapers$Taken", "seal", "I", true)
  | 3 => ("PicturePapers$Changed", "origin", "LPicturePapers$Picture;", true)
  | _ => ("PicturePapers$Changed", "acts", "[I", true)
def tyX0 : Nat → FieldType := fun k => match k with
  | 0 => .object "PicturePapers$Lens"
  | 1 => .int
  | 2 => .int
  | 3 => .object "PicturePapers$Picture"
  | _ => .array .int
theorem nmX0 : ∀ a, a < 5 → ∀ b, b < 5 → a ≠ b → (TX0 a).2.1 ≠ (TX0 b).2.1 := sorry
theorem tyX0_ok : ∀ k, k < 5 → parseFieldDescriptor (TX0 k).2.2.1 = some (tyX0 k) := sorry
abbrev cX0_init : ByteArray := prog_2_method_1_code
def yX0_init : MethodName := ⟨RX0, "<init>", "(LPicturePapers$Lens;IILPicturePapers$Picture;[I)V"⟩
abbrev cX0_kind : ByteArray := prog_2_method_2_code
def yX0_kind : MethodName := ⟨RX0, "kind", "()I"⟩
abbrev cX0_origin : ByteArray := prog_2_method_3_code
def yX0_origin : MethodName := ⟨RX0, "origin", "()LPicturePapers$Picture;"⟩
abbrev cX0_acts : ByteArray := prog_2_method_4_code
def yX0_acts : MethodName := ⟨RX0, "acts", "()[I"⟩
abbrev cX0_telling : ByteArray := prog_2_method_5_code
def yX0_telling : MethodName := ⟨RX0, "telling", "(LPicturePapers$Trace;)I"⟩
def RX1 : String := "PicturePapers$Lens"
def TX1 : u_T := fun k => match k with
  | 0 => ("PicturePapers$Lens", "number", "I", true)
  | 1 => ("PicturePapers$Lens", "key", "I", true)
  | _ => ("PicturePapers$Lens", "stolenFrom", "I", false)
def tyX1 : Nat → FieldType := fun k => match k with
  | 0 => .int
  | 1 => .int
  | _ => .int
theorem nmX1 : ∀ a, a < 3 → ∀ b, b < 3 → a ≠ b → (TX1 a).2.1 ≠ (TX1 b).2.1 := sorry
theorem tyX1_ok : ∀ k, k < 3 → parseFieldDescriptor (TX1 k).2.2.1 = some (tyX1 k) := sorry
abbrev cX1_init : ByteArray := prog_3_method_1_code
def yX1_init : MethodName := ⟨RX1, "<init>", "(II)V"⟩
def RX2 : String := "PicturePapers$Look"
def TX2 : u_T := fun k => match k with
  | 0 => ("PicturePapers$Look", "seen", "LPicturePapers$Picture;", true)
  | 1 => ("PicturePapers$Look", "hours", "I", true)
  | _ => ("PicturePapers$Look", "worth", "I", true)
def tyX2 : Nat → FieldType := fun k => match k with
  | 0 => .object "PicturePapers$Picture"
  | 1 => .int
  | _ => .int
theorem nmX2 : ∀ a, a < 3 → ∀ b, b < 3 → a ≠ b → (TX2 a).2.1 ≠ (TX2 b).2.1 := sorry
theorem tyX2_ok : ∀ k, k < 3 → parseFieldDescriptor (TX2 k).2.2.1 = some (tyX2 k) := sorry
abbrev cX2_init : ByteArray := prog_4_method_1_code
def yX2_init : MethodName := ⟨RX2, "<init>", "(LPicturePapers$Picture;II)V"⟩
def RX3 : String := "PicturePapers$Picture"
def TX3 : u_T := fun k => match k with
  | 0 => ("PicturePapers$Picture", "number", "I", true)
  | 1 => ("PicturePapers$Picture", "squares", "[I", true)
  | 2 => ("PicturePapers$Picture", "w", "I", false)
  | 3 => ("PicturePapers$Picture", "h", "I", false)
  | _ => ("PicturePapers$Picture", "paper", "LPicturePapers$Taken;", false)
def tyX3 : Nat → FieldType := fun k => match k with
  | 0 => .int
  | 1 => .array .int
  | 2 => .int
  | 3 => .int
  | _ => .object "PicturePapers$Taken"
theorem nmX3 : ∀ a, a < 5 → ∀ b, b < 5 → a ≠ b → (TX3 a).2.1 ≠ (TX3 b).2.1 := sorry
theorem tyX3_ok : ∀ k, k < 5 → parseFieldDescriptor (TX3 k).2.2.1 = some (tyX3 k) := sorry
abbrev cX3_init : ByteArray := prog_5_method_1_code
def yX3_init : MethodName := ⟨RX3, "<init>", "(I)V"⟩
abbrev cX3_fill : ByteArray := prog_5_method_2_code
def yX3_fill : MethodName := ⟨RX3, "fill", "(IILPicturePapers$Sheet;I)V"⟩
abbrev cX3_become : ByteArray := prog_5_method_3_code
def yX3_become : MethodName := ⟨RX3, "become", "(LPicturePapers$Picture;)V"⟩
abbrev cX3_replace : ByteArray := prog_5_method_4_code
def yX3_replace : MethodName := ⟨RX3, "replace", "(II[I)V"⟩
abbrev cX3_has : ByteArray := prog_5_method_5_code
def yX3_has : MethodName := ⟨RX3, "has", "(I)Z"⟩
abbrev cX3_origin : ByteArray := prog_5_method_6_code
def yX3_origin : MethodName := ⟨RX3, "origin", "()LPicturePapers$Picture;"⟩
abbrev cX3_sum : ByteArray := prog_5_method_7_code
def yX3_sum : MethodName := ⟨RX3, "sum", "()I"⟩
abbrev cX3_mean : ByteArray := prog_5_method_8_code
def yX3_mean : MethodName := ⟨RX3, "mean", "()I"⟩
abbrev cX3_least : ByteArray := prog_5_method_9_code
def yX3_least : MethodName := ⟨RX3, "least", "()I"⟩
abbrev cX3_greatest : ByteArray := prog_5_method_10_code
def yX3_greatest : MethodName := ⟨RX3, "greatest", "()I"⟩
abbrev cX3_imprint : ByteArray := prog_5_method_11_code
def yX3_imprint : MethodName := ⟨RX3, "imprint", "(I)I"⟩
abbrev cX3_agreement : ByteArray := prog_5_method_12_code
def yX3_agreement : MethodName := ⟨RX3, "agreement", "(I)I"⟩
abbrev cX3_tellsBit : ByteArray := prog_5_method_13_code
def yX3_tellsBit : MethodName := ⟨RX3, "tellsBit", "(III)Z"⟩
def RX4 : String := "PicturePapers$Reader"
def TX4 : u_T := fun k => match k with
  | 0 => ("PicturePapers$Reader", "acts", "[I", true)
  | 1 => ("PicturePapers$Reader", "count", "I", false)
  | 2 => ("PicturePapers$Reader", "codes", "[I", true)
  | 3 => ("PicturePapers$Reader", "length", "I", false)
  | 4 => ("PicturePapers$Reader", "at", "I", false)
  | _ => ("PicturePapers$Reader", "number", "I", false)
def tyX4 : Nat → FieldType := fun k => match k with
  | 0 => .array .int
  | 1 => .int
  | 2 => .array .int
  | 3 => .int
  | 4 => .int
  | _ => .int
theorem nmX4 : ∀ a, a < 6 → ∀ b, b < 6 → a ≠ b → (TX4 a).2.1 ≠ (TX4 b).2.1 := sorry
theorem tyX4_ok : ∀ k, k < 6 → parseFieldDescriptor (TX4 k).2.2.1 = some (tyX4 k) := sorry
abbrev cX4_init : ByteArray := prog_6_method_1_code
def yX4_init : MethodName := ⟨RX4, "<init>", "()V"⟩
abbrev cX4_keptActs : ByteArray := prog_6_method_2_code
def yX4_keptActs : MethodName := ⟨RX4, "keptActs", "()[I"⟩
abbrev cX4_read : ByteArray := prog_6_method_3_code
def yX4_read : MethodName := ⟨RX4, "read", "(LPicturePapers$Sheet;II)I"⟩
abbrev cX4_code : ByteArray := prog_6_method_4_code
def yX4_code : MethodName := ⟨RX4, "code", "()I"⟩
abbrev cX4_isKind : ByteArray := prog_6_method_5_code
def yX4_isKind : MethodName := ⟨RX4, "isKind", "(I)Z"⟩
abbrev cX4_readNumber : ByteArray := prog_6_method_6_code
def yX4_readNumber : MethodName := ⟨RX4, "readNumber", "(I)Z"⟩
abbrev cX4_readShift : ByteArray := prog_6_method_7_code
def yX4_readShift : MethodName := ⟨RX4, "readShift", "()Z"⟩
abbrev cX4_readDigits : ByteArray := prog_6_method_8_code
def yX4_readDigits : MethodName := ⟨RX4, "readDigits", "(I)I"⟩
def RX5 : String := "PicturePapers$Sheet"
def TX5 : u_T := fun k => match k with
  | 0 => ("PicturePapers$Sheet", "cells", "[I", true)
  | 1 => ("PicturePapers$Sheet", "hasRow", "Z", false)
  | 2 => ("PicturePapers$Sheet", "lane", "I", false)
  | _ => ("PicturePapers$Sheet", "length", "I", false)
def tyX5 : Nat → FieldType := fun k => match k with
  | 0 => .array .int
  | 1 => .boolean
  | 2 => .int
  | _ => .int
theorem nmX5 : ∀ a, a < 4 → ∀ b, b < 4 → a ≠ b → (TX5 a).2.1 ≠ (TX5 b).2.1 := sorry
theorem tyX5_ok : ∀ k, k < 4 → parseFieldDescriptor (TX5 k).2.2.1 = some (tyX5 k) := sorry
abbrev cX5_init : ByteArray := prog_7_method_1_code
def yX5_init : MethodName := ⟨RX5, "<init>", "()V"⟩
abbrev cX5_renew : ByteArray := prog_7_method_2_code
def yX5_renew : MethodName := ⟨RX5, "renew", "(II)V"⟩
abbrev cX5_faultOf : ByteArray := prog_7_method_3_code
def yX5_faultOf : MethodName := ⟨RX5, "faultOf", "(III)I"⟩
abbrev cX5_lacks : ByteArray := prog_7_method_4_code
def yX5_lacks : MethodName := ⟨RX5, "lacks", "(II)Z"⟩
abbrev cX5_holdsSquares : ByteArray := prog_7_method_5_code
def yX5_holdsSquares : MethodName := ⟨RX5, "holdsSquares", "(II)Z"⟩
abbrev cX5_at : ByteArray := prog_7_method_6_code
def yX5_at : MethodName := ⟨RX5, "at", "(I)I"⟩
abbrev cX5_write : ByteArray := prog_7_method_7_code
def yX5_write : MethodName := ⟨RX5, "write", "(II)V"⟩
def RX6 : String := "PicturePapers$Silent"
def TX6 : u_T := fun k => match k with
  | 0 => ("PicturePapers$Changed", "origin", "LPicturePapers$Picture;", true)
  | 1 => ("PicturePapers$Changed", "acts", "[I", true)
  | 2 => ("PicturePapers$Taken", "lens", "LPicturePapers$Lens;", true)
  | 3 => ("PicturePapers$Taken", "hour", "I", true)
  | _ => ("PicturePapers$Taken", "seal", "I", true)
def tyX6 : Nat → FieldType := fun k => match k with
  | 0 => .object "PicturePapers$Picture"
  | 1 => .array .int
  | 2 => .object "PicturePapers$Lens"
  | 3 => .int
  | _ => .int
theorem nmX6 : ∀ a, a < 5 → ∀ b, b < 5 → a ≠ b → (TX6 a).2.1 ≠ (TX6 b).2.1 := sorry
theorem tyX6_ok : ∀ k, k < 5 → parseFieldDescriptor (TX6 k).2.2.1 = some (tyX6 k) := sorry
abbrev cX6_init : ByteArray := prog_8_method_1_code
def yX6_init : MethodName := ⟨RX6, "<init>", "(LPicturePapers$Lens;IILPicturePapers$Picture;)V"⟩
abbrev cX6_kind : ByteArray := prog_8_method_2_code
def yX6_kind : MethodName := ⟨RX6, "kind", "()I"⟩
abbrev cX6_telling : ByteArray := prog_8_method_3_code
def yX6_telling : MethodName := ⟨RX6, "telling", "(LPicturePapers$Trace;)I"⟩
abbrev cX6_showing : ByteArray := prog_8_method_4_code
def yX6_showing : MethodName := ⟨RX6, "showing", "(LPicturePapers$Trace;)I"⟩
def RX7 : String := "PicturePapers$Taken"
def TX7 : u_T := fun k => match k with
  | 0 => ("PicturePapers$Taken", "lens", "LPicturePapers$Lens;", true)
  | 1 => ("PicturePapers$Taken", "hour", "I", true)
  | _ => ("PicturePapers$Taken", "seal", "I", true)
def tyX7 : Nat → FieldType := fun k => match k with
  | 0 => .object "PicturePapers$Lens"
  | 1 => .int
  | _ => .int
theorem nmX7 : ∀ a, a < 3 → ∀ b, b < 3 → a ≠ b → (TX7 a).2.1 ≠ (TX7 b).2.1 := sorry
theorem tyX7_ok : ∀ k, k < 3 → parseFieldDescriptor (TX7 k).2.2.1 = some (tyX7 k) := sorry
abbrev cX7_init : ByteArray := prog_9_method_1_code
def yX7_init : MethodName := ⟨RX7, "<init>", "(LPicturePapers$Lens;II)V"⟩
abbrev cX7_kind : ByteArray := prog_9_method_2_code
def yX7_kind : MethodName := ⟨RX7, "kind", "()I"⟩
abbrev cX7_origin : ByteArray := prog_9_method_3_code
def yX7_origin : MethodName := ⟨RX7, "origin", "()LPicturePapers$Picture;"⟩
abbrev cX7_acts : ByteArray := prog_9_method_4_code
def yX7_acts : MethodName := ⟨RX7, "acts", "()[I"⟩
abbrev cX7_telling : ByteArray := prog_9_method_5_code
def yX7_telling : MethodName := ⟨RX7, "telling", "(LPicturePapers$Trace;)I"⟩
abbrev cX7_takenTelling : ByteArray := prog_9_method_6_code
def yX7_takenTelling : MethodName := ⟨RX7, "takenTelling", "(LPicturePapers$Trace;)I"⟩
abbrev cX7_showing : ByteArray := prog_9_method_7_code
def yX7_showing : MethodName := ⟨RX7, "showing", "(LPicturePapers$Trace;)I"⟩
def RX8 : String := "PicturePapers$Trace"
def TX8 : u_T := fun k => match k with
  | _ => ("PicturePapers$Trace", "left", "I", false)
def tyX8 : Nat → FieldType := fun k => match k with
  | _ => .int
theorem nmX8 : ∀ a, a < 1 → ∀ b, b < 1 → a ≠ b → (TX8 a).2.1 ≠ (TX8 b).2.1 := sorry
theorem tyX8_ok : ∀ k, k < 1 → parseFieldDescriptor (TX8 k).2.2.1 = some (tyX8 k) := sorry
abbrev cX8_init : ByteArray := prog_10_method_1_code
def yX8_init : MethodName := ⟨RX8, "<init>", "()V"⟩
abbrev cX8_leave : ByteArray := prog_10_method_2_code
def yX8_leave : MethodName := ⟨RX8, "leave", "(I)V"⟩
def RX9 : String := "PicturePapers$Tree"
def TX9 : u_T := fun k => match k with
  | _ => ("PicturePapers$Tree", "nodes", "[I", true)
def tyX9 : Nat → FieldType := fun k => match k with
  | _ => .array .int
theorem nmX9 : ∀ a, a < 1 → ∀ b, b < 1 → a ≠ b → (TX9 a).2.1 ≠ (TX9 b).2.1 := sorry
theorem tyX9_ok : ∀ k, k < 1 → parseFieldDescriptor (TX9 k).2.2.1 = some (tyX9 k) := sorry
abbrev cX9_init : ByteArray := prog_11_method_1_code
def yX9_init : MethodName := ⟨RX9, "<init>", "()V"⟩
abbrev cX9_above : ByteArray := prog_11_method_2_code
def yX9_above : MethodName := ⟨RX9, "above", "(II)I"⟩
abbrev cX9_rootOf : ByteArray := prog_11_method_3_code
def yX9_rootOf : MethodName := ⟨RX9, "rootOf", "(LPicturePapers$Picture;)I"⟩
abbrev cX9_beside : ByteArray := prog_11_method_4_code
def yX9_beside : MethodName := ⟨RX9, "beside", "(II)I"⟩
def RX10 : String := "PicturePapers$Workshop"
def TX10 : u_T := fun k => match k with
  | 0 => ("PicturePapers$Workshop", "bench", "LPicturePapers$Picture;", true)
  | _ => ("PicturePapers$Workshop", "spare", "[I", true)
def tyX10 : Nat → FieldType := fun k => match k with
  | 0 => .object "PicturePapers$Picture"
  | _ => .array .int
theorem nmX10 : ∀ a, a < 2 → ∀ b, b < 2 → a ≠ b → (TX10 a).2.1 ≠ (TX10 b).2.1 := sorry
theorem tyX10_ok : ∀ k, k < 2 → parseFieldDescriptor (TX10 k).2.2.1 = some (tyX10 k) := sorry
abbrev cX10_init : ByteArray := prog_12_method_1_code
def yX10_init : MethodName := ⟨RX10, "<init>", "()V"⟩
abbrev cX10_perform : ByteArray := prog_12_method_2_code
def yX10_perform : MethodName := ⟨RX10, "perform", "(LPicturePapers$Picture;[II)Z"⟩
abbrev cX10_performOne : ByteArray := prog_12_method_3_code
def yX10_performOne : MethodName := ⟨RX10, "performOne", "(II)Z"⟩
abbrev cX10_holds : ByteArray := prog_12_method_4_code
def yX10_holds : MethodName := ⟨RX10, "holds", "(IIII)Z"⟩
abbrev cX10_cutOut : ByteArray := prog_12_method_5_code
def yX10_cutOut : MethodName := ⟨RX10, "cutOut", "(IIII)V"⟩
abbrev cX10_blur : ByteArray := prog_12_method_6_code
def yX10_blur : MethodName := ⟨RX10, "blur", "(IIII)V"⟩
abbrev cX10_turn : ByteArray := prog_12_method_7_code
def yX10_turn : MethodName := ⟨RX10, "turn", "()V"⟩
abbrev cX10_shift : ByteArray := prog_12_method_8_code
def yX10_shift : MethodName := ⟨RX10, "shift", "(I)V"⟩
abbrev cX10_saveWorse : ByteArray := prog_12_method_9_code
def yX10_saveWorse : MethodName := ⟨RX10, "saveWorse", "(I)V"⟩
def RX11 : String := "PicturePapers"
def TX11 : u_T := fun k => match k with
  | 0 => ("PicturePapers", "pictures", "[LPicturePapers$Picture;", true)
  | 1 => ("PicturePapers", "lenses", "[LPicturePapers$Lens;", true)
  | 2 => ("PicturePapers", "looks", "[LPicturePapers$Look;", true)
  | 3 => ("PicturePapers", "sheets", "[LPicturePapers$Sheet;", true)
  | 4 => ("PicturePapers", "tree", "LPicturePapers$Tree;", true)
  | 5 => ("PicturePapers", "reader", "LPicturePapers$Reader;", true)
  | 6 => ("PicturePapers", "workshop", "LPicturePapers$Workshop;", true)
  | 7 => ("PicturePapers", "trace", "LPicturePapers$Trace;", true)
  | 8 => ("PicturePapers", "pictureCount", "I", false)
  | 9 => ("PicturePapers", "lensCount", "I", false)
  | 10 => ("PicturePapers", "lookCount", "I", false)
  | 11 => ("PicturePapers", "within", "I", false)
  | _ => ("PicturePapers", "fault", "I", false)
def tyX11 : Nat → FieldType := fun k => match k with
  | 0 => .array (.object "PicturePapers$Picture")
  | 1 => .array (.object "PicturePapers$Lens")
  | 2 => .array (.object "PicturePapers$Look")
  | 3 => .array (.object "PicturePapers$Sheet")
  | 4 => .object "PicturePapers$Tree"
  | 5 => .object "PicturePapers$Reader"
  | 6 => .object "PicturePapers$Workshop"
  | 7 => .object "PicturePapers$Trace"
  | 8 => .int
  | 9 => .int
  | 10 => .int
  | 11 => .int
  | _ => .int
theorem nmX11 : ∀ a, a < 13 → ∀ b, b < 13 → a ≠ b → (TX11 a).2.1 ≠ (TX11 b).2.1 := sorry
theorem tyX11_ok : ∀ k, k < 13 → parseFieldDescriptor (TX11 k).2.2.1 = some (tyX11 k) := sorry
abbrev cX11_init : ByteArray := prog_1_method_1_code
def yX11_init : MethodName := ⟨RX11, "<init>", "()V"⟩
abbrev cX11_picture : ByteArray := prog_1_method_2_code
def yX11_picture : MethodName := ⟨RX11, "picture", "(IIIII)I"⟩
abbrev cX11_ofPicture : ByteArray := prog_1_method_3_code
def yX11_ofPicture : MethodName := ⟨RX11, "ofPicture", "(II)I"⟩
abbrev cX11_alter : ByteArray := prog_1_method_4_code
def yX11_alter : MethodName := ⟨RX11, "alter", "(III)I"⟩
abbrev cX11_lens : ByteArray := prog_1_method_5_code
def yX11_lens : MethodName := ⟨RX11, "lens", "(I)I"⟩
abbrev cX11_steal : ByteArray := prog_1_method_6_code
def yX11_steal : MethodName := ⟨RX11, "steal", "(II)I"⟩
abbrev cX11_take : ByteArray := prog_1_method_7_code
def yX11_take : MethodName := ⟨RX11, "take", "(III)I"⟩
abbrev cX11_hush : ByteArray := prog_1_method_8_code
def yX11_hush : MethodName := ⟨RX11, "hush", "(IIII)I"⟩
abbrev cX11_change : ByteArray := prog_1_method_9_code
def yX11_change : MethodName := ⟨RX11, "change", "(IIIIIIII)I"⟩
abbrev cX11_act : ByteArray := prog_1_method_10_code
def yX11_act : MethodName := ⟨RX11, "act", "(IIIII)I"⟩
abbrev cX11_tear : ByteArray := prog_1_method_11_code
def yX11_tear : MethodName := ⟨RX11, "tear", "(I)I"⟩
abbrev cX11_line : ByteArray := prog_1_method_12_code
def yX11_line : MethodName := ⟨RX11, "line", "(II)I"⟩
abbrev cX11_speaks : ByteArray := prog_1_method_13_code
def yX11_speaks : MethodName := ⟨RX11, "speaks", "(I)I"⟩
abbrev cX11_play : ByteArray := prog_1_method_14_code
def yX11_play : MethodName := ⟨RX11, "play", "(I)I"⟩
abbrev cX11_within : ByteArray := prog_1_method_15_code
def yX11_within : MethodName := ⟨RX11, "within", "(I)I"⟩
abbrev cX11_way : ByteArray := prog_1_method_16_code
def yX11_way : MethodName := ⟨RX11, "way", "(II)I"⟩
abbrev cX11_doubt : ByteArray := prog_1_method_17_code
def yX11_doubt : MethodName := ⟨RX11, "doubt", "(I)I"⟩
abbrev cX11_whole : ByteArray := prog_1_method_18_code
def yX11_whole : MethodName := ⟨RX11, "whole", "(I)I"⟩
abbrev cX11_proof : ByteArray := prog_1_method_19_code
def yX11_proof : MethodName := ⟨RX11, "proof", "(III)I"⟩
abbrev cX11_proves : ByteArray := prog_1_method_20_code
def yX11_proves : MethodName := ⟨RX11, "proves", "(IIIIII)I"⟩
abbrev cX11_hide : ByteArray := prog_1_method_21_code
def yX11_hide : MethodName := ⟨RX11, "hide", "(II)I"⟩
abbrev cX11_found : ByteArray := prog_1_method_22_code
def yX11_found : MethodName := ⟨RX11, "found", "(II)I"⟩
abbrev cX11_falsely : ByteArray := prog_1_method_23_code
def yX11_falsely : MethodName := ⟨RX11, "falsely", "(III)J"⟩
abbrev cX11_like : ByteArray := prog_1_method_24_code
def yX11_like : MethodName := ⟨RX11, "like", "(II)I"⟩
abbrev cX11_nearest : ByteArray := prog_1_method_25_code
def yX11_nearest : MethodName := ⟨RX11, "nearest", "(II)I"⟩
abbrev cX11_coarse : ByteArray := prog_1_method_26_code
def yX11_coarse : MethodName := ⟨RX11, "coarse", "(II)I"⟩
abbrev cX11_look : ByteArray := prog_1_method_27_code
def yX11_look : MethodName := ⟨RX11, "look", "(III)I"⟩
abbrev cX11_best : ByteArray := prog_1_method_28_code
def yX11_best : MethodName := ⟨RX11, "best", "(II)I"⟩
abbrev cX11_doubtful : ByteArray := prog_1_method_29_code
def yX11_doubtful : MethodName := ⟨RX11, "doubtful", "()I"⟩
abbrev cX11_sheet : ByteArray := prog_1_method_30_code
def yX11_sheet : MethodName := ⟨RX11, "sheet", "(III)I"⟩
abbrev cX11_lose : ByteArray := prog_1_method_31_code
def yX11_lose : MethodName := ⟨RX11, "lose", "(I)I"⟩
abbrev cX11_put : ByteArray := prog_1_method_32_code
def yX11_put : MethodName := ⟨RX11, "put", "(III)I"⟩
abbrev cX11_cell : ByteArray := prog_1_method_33_code
def yX11_cell : MethodName := ⟨RX11, "cell", "(III)J"⟩
abbrev cX11_copy : ByteArray := prog_1_method_34_code
def yX11_copy : MethodName := ⟨RX11, "copy", "(IIIII)I"⟩
abbrev cX11_tell : ByteArray := prog_1_method_35_code
def yX11_tell : MethodName := ⟨RX11, "tell", "(I)I"⟩
abbrev cX11_show : ByteArray := prog_1_method_36_code
def yX11_show : MethodName := ⟨RX11, "show", "(I)I"⟩
abbrev cX11_as : ByteArray := prog_1_method_37_code
def yX11_as : MethodName := ⟨RX11, "as", "(II)I"⟩
abbrev cX11_trace : ByteArray := prog_1_method_38_code
def yX11_trace : MethodName := ⟨RX11, "trace", "()I"⟩
abbrev cX11_fault : ByteArray := prog_1_method_39_code
def yX11_fault : MethodName := ⟨RX11, "fault", "()I"⟩
abbrev cX11_many : ByteArray := prog_1_method_40_code
def yX11_many : MethodName := ⟨RX11, "many", "(I)I"⟩
abbrev cX11_isIn : ByteArray := prog_1_method_41_code
def yX11_isIn : MethodName := ⟨RX11, "isIn", "(III)Z"⟩
abbrev cX11_isLane : ByteArray := prog_1_method_42_code
def yX11_isLane : MethodName := ⟨RX11, "isLane", "(I)Z"⟩
abbrev cX11_isHour : ByteArray := prog_1_method_43_code
def yX11_isHour : MethodName := ⟨RX11, "isHour", "(I)Z"⟩
abbrev cX11_isPlace : ByteArray := prog_1_method_44_code
def yX11_isPlace : MethodName := ⟨RX11, "isPlace", "(I)Z"⟩
abbrev cX11_isMark : ByteArray := prog_1_method_45_code
def yX11_isMark : MethodName := ⟨RX11, "isMark", "(I)Z"⟩
abbrev cX11_pictureAt : ByteArray := prog_1_method_46_code
def yX11_pictureAt : MethodName := ⟨RX11, "pictureAt", "(I)LPicturePapers$Picture;"⟩
abbrev cX11_lensAt : ByteArray := prog_1_method_47_code
def yX11_lensAt : MethodName := ⟨RX11, "lensAt", "(I)LPicturePapers$Lens;"⟩
abbrev cX11_sheetAt : ByteArray := prog_1_method_48_code
def yX11_sheetAt : MethodName := ⟨RX11, "sheetAt", "(I)LPicturePapers$Sheet;"⟩
abbrev cX11_failed : ByteArray := prog_1_method_49_code
def yX11_failed : MethodName := ⟨RX11, "failed", "(I)I"⟩
abbrev cX11_addPicture : ByteArray := prog_1_method_50_code
def yX11_addPicture : MethodName := ⟨RX11, "addPicture", "()LPicturePapers$Picture;"⟩
abbrev cX11_readActs : ByteArray := prog_1_method_51_code
def yX11_readActs : MethodName := ⟨RX11, "readActs", "(LPicturePapers$Sheet;III)I"⟩
abbrev cX11_sealOf : ByteArray := prog_1_method_52_code
def yX11_sealOf : MethodName := ⟨RX11, "sealOf", "(LPicturePapers$Picture;LPicturePapers$Lens;I)I"⟩
abbrev cX11_voiceOf : ByteArray := prog_1_method_53_code
def yX11_voiceOf : MethodName := ⟨RX11, "voiceOf", "(LPicturePapers$Picture;LPicturePapers$Taken;)I"⟩
abbrev cX11_firstFarPlace : ByteArray := prog_1_method_54_code
def yX11_firstFarPlace : MethodName := ⟨RX11, "firstFarPlace", "(LPicturePapers$Picture;LPicturePapers$Taken;)I"⟩
abbrev cX11_firstDoubt : ByteArray := prog_1_method_55_code
def yX11_firstDoubt : MethodName := ⟨RX11, "firstDoubt", "(LPicturePapers$Picture;)I"⟩
abbrev cX11_waysOfAtLeast : ByteArray := prog_1_method_56_code
def yX11_waysOfAtLeast : MethodName := ⟨RX11, "waysOfAtLeast", "(II)J"⟩
abbrev cX11_likeness : ByteArray := prog_1_method_57_code
def yX11_likeness : MethodName := ⟨RX11, "likeness", "(LPicturePapers$Picture;LPicturePapers$Picture;)I"⟩
abbrev cX11_countNearer : ByteArray := prog_1_method_58_code
def yX11_countNearer : MethodName := ⟨RX11, "countNearer", "(LPicturePapers$Picture;LPicturePapers$Picture;)I"⟩
abbrev cX11_hoursOf : ByteArray := prog_1_method_59_code
def yX11_hoursOf : MethodName := ⟨RX11, "hoursOf", "(I)I"⟩
abbrev cX11_worthOf : ByteArray := prog_1_method_60_code
def yX11_worthOf : MethodName := ⟨RX11, "worthOf", "(I)I"⟩
abbrev cX11_countPapers : ByteArray := prog_1_method_61_code
def yX11_countPapers : MethodName := ⟨RX11, "countPapers", "()I"⟩
def RX12 : String := "PicturePapersModel"
def TX12 : u_T := fun k => match k with
  | 0 => ("PicturePapersModel", "fault", "I", false)
  | 1 => ("PicturePapersModel", "pictures", "I", false)
  | 2 => ("PicturePapersModel", "wideOf", "[I", true)
  | 3 => ("PicturePapersModel", "highOf", "[I", true)
  | 4 => ("PicturePapersModel", "square", "[I", true)
  | 5 => ("PicturePapersModel", "node", "[I", true)
  | 6 => ("PicturePapersModel", "readMany", "I", false)
  | 7 => ("PicturePapersModel", "readAct", "[I", true)
  | 8 => ("PicturePapersModel", "readAt", "I", false)
  | 9 => ("PicturePapersModel", "handWide", "I", false)
  | 10 => ("PicturePapersModel", "handHigh", "I", false)
  | 11 => ("PicturePapersModel", "hand", "[I", true)
  | 12 => ("PicturePapersModel", "other", "[I", true)
  | 13 => ("PicturePapersModel", "lenses", "I", false)
  | 14 => ("PicturePapersModel", "keyOf", "[I", true)
  | 15 => ("PicturePapersModel", "stolenFrom", "[I", true)
  | 16 => ("PicturePapersModel", "lineKind", "[I", true)
  | 17 => ("PicturePapersModel", "lineLens", "[I", true)
  | 18 => ("PicturePapersModel", "lineHour", "[I", true)
  | 19 => ("PicturePapersModel", "lineSeal", "[I", true)
  | 20 => ("PicturePapersModel", "lineFrom", "[I", true)
  | 21 => ("PicturePapersModel", "lineActs", "[I", true)
  | 22 => ("PicturePapersModel", "lineAct", "[I", true)
  | 23 => ("PicturePapersModel", "within", "I", false)
  | 24 => ("PicturePapersModel", "looks", "I", false)
  | 25 => ("PicturePapersModel", "lookAt", "[I", true)
  | 26 => ("PicturePapersModel", "lookHours", "[I", true)
  | 27 => ("PicturePapersModel", "lookWorth", "[I", true)
  | 28 => ("PicturePapersModel", "sheetSize", "[I", true)
  | 29 => ("PicturePapersModel", "sheetLane", "[I", true)
  | 30 => ("PicturePapersModel", "sheet", "[I", true)
  | 31 => ("PicturePapersModel", "hands", "[I", true)
  | _ => ("PicturePapersModel", "traceNow", "I", false)
def tyX12 : Nat → FieldType := fun k => match k with
  | 0 => .int
  | 1 => .int
  | 2 => .array .int
  | 3 => .array .int
  | 4 => .array .int
  | 5 => .array .int
  | 6 => .int
  | 7 => .array .int
  | 8 => .int
  | 9 => .int
  | 10 => .int
  | 11 => .array .int
  | 12 => .array .int
  | 13 => .int
  | 14 => .array .int
  | 15 => .array .int
  | 16 => .array .int
  | 17 => .array .int
  | 18 => .array .int
  | 19 => .array .int
  | 20 => .array .int
  | 21 => .array .int
  | 22 => .array .int
  | 23 => .int
  | 24 => .int
  | 25 => .array .int
  | 26 => .array .int
  | 27 => .array .int
  | 28 => .array .int
  | 29 => .array .int
  | 30 => .array .int
  | 31 => .array .int
  | _ => .int
theorem nmX12 : ∀ a, a < 33 → ∀ b, b < 33 → a ≠ b → (TX12 a).2.1 ≠ (TX12 b).2.1 := sorry
theorem tyX12_ok : ∀ k, k < 33 → parseFieldDescriptor (TX12 k).2.2.1 = some (tyX12 k) := sorry
abbrev cX12_init : ByteArray := prog_14_method_1_code
def yX12_init : MethodName := ⟨RX12, "<init>", "()V"⟩
abbrev cX12_in : ByteArray := prog_14_method_2_code
def yX12_in : MethodName := ⟨RX12, "in", "(JJJ)Z"⟩
abbrev cX12_lost : ByteArray := prog_14_method_3_code
def yX12_lost : MethodName := ⟨RX12, "lost", "()J"⟩
abbrev cX12_hasBit : ByteArray := prog_14_method_4_code
def yX12_hasBit : MethodName := ⟨RX12, "hasBit", "(II)Z"⟩
abbrev cX12_sizeOf : ByteArray := prog_14_method_5_code
def yX12_sizeOf : MethodName := ⟨RX12, "sizeOf", "(I)I"⟩
abbrev cX12_lesser : ByteArray := prog_14_method_6_code
def yX12_lesser : MethodName := ⟨RX12, "lesser", "(II)I"⟩
abbrev cX12_greater : ByteArray := prog_14_method_7_code
def yX12_greater : MethodName := ⟨RX12, "greater", "(II)I"⟩
abbrev cX12_share : ByteArray := prog_14_method_8_code
def yX12_share : MethodName := ⟨RX12, "share", "(JJI)J"⟩
abbrev cX12_refused : ByteArray := prog_14_method_9_code
def yX12_refused : MethodName := ⟨RX12, "refused", "(I)I"⟩
abbrev cX12_failed : ByteArray := prog_14_method_10_code
def yX12_failed : MethodName := ⟨RX12, "failed", "(I)I"⟩
abbrev cX12_failedLong : ByteArray := prog_14_method_11_code
def yX12_failedLong : MethodName := ⟨RX12, "failedLong", "(I)J"⟩
abbrev cX12_barred : ByteArray := prog_14_method_12_code
def yX12_barred : MethodName := ⟨RX12, "barred", "(IIIJ)I"⟩
abbrev cX12_isLane : ByteArray := prog_14_method_13_code
def yX12_isLane : MethodName := ⟨RX12, "isLane", "(I)Z"⟩
abbrev cX12_isHour : ByteArray := prog_14_method_14_code
def yX12_isHour : MethodName := ⟨RX12, "isHour", "(I)Z"⟩
abbrev cX12_noPicture : ByteArray := prog_14_method_15_code
def yX12_noPicture : MethodName := ⟨RX12, "noPicture", "(I)Z"⟩
abbrev cX12_isThere : ByteArray := prog_14_method_16_code
def yX12_isThere : MethodName := ⟨RX12, "isThere", "(II)Z"⟩
abbrev cX12_picture : ByteArray := prog_14_method_17_code
def yX12_picture : MethodName := ⟨RX12, "picture", "(IIIII)I"⟩
abbrev cX12_manySquares : ByteArray := prog_14_method_18_code
def yX12_manySquares : MethodName := ⟨RX12, "manySquares", "(I)I"⟩
abbrev cX12_placeOf : ByteArray := prog_14_method_19_code
def yX12_placeOf : MethodName := ⟨RX12, "placeOf", "(II)I"⟩
abbrev cX12_sumOf : ByteArray := prog_14_method_20_code
def yX12_sumOf : MethodName := ⟨RX12, "sumOf", "(I)I"⟩
abbrev cX12_layTree : ByteArray := prog_14_method_21_code
def yX12_layTree : MethodName := ⟨RX12, "layTree", "(I)V"⟩
abbrev cX12_above : ByteArray := prog_14_method_22_code
def yX12_above : MethodName := ⟨RX12, "above", "(II)I"⟩
abbrev cX12_rootOf : ByteArray := prog_14_method_23_code
def yX12_rootOf : MethodName := ⟨RX12, "rootOf", "(I)I"⟩
abbrev cX12_ofPicture : ByteArray := prog_14_method_24_code
def yX12_ofPicture : MethodName := ⟨RX12, "ofPicture", "(II)I"⟩
abbrev cX12_alter : ByteArray := prog_14_method_25_code
def yX12_alter : MethodName := ⟨RX12, "alter", "(III)I"⟩
abbrev cX12_isDigit : ByteArray := prog_14_method_26_code
def yX12_isDigit : MethodName := ⟨RX12, "isDigit", "(II)Z"⟩
abbrev cX12_readsNumbers : ByteArray := prog_14_method_27_code
def yX12_readsNumbers : MethodName := ⟨RX12, "readsNumbers", "(III)Z"⟩
abbrev cX12_readActs : ByteArray := prog_14_method_28_code
def yX12_readActs : MethodName := ⟨RX12, "readActs", "(II)I"⟩
abbrev cX12_takeInHand : ByteArray := prog_14_method_29_code
def yX12_takeInHand : MethodName := ⟨RX12, "takeInHand", "(I)V"⟩
abbrev cX12_doPart : ByteArray := prog_14_method_30_code
def yX12_doPart : MethodName := ⟨RX12, "doPart", "([II)Z"⟩
abbrev cX12_turn : ByteArray := prog_14_method_31_code
def yX12_turn : MethodName := ⟨RX12, "turn", "()V"⟩
abbrev cX12_tinted : ByteArray := prog_14_method_32_code
def yX12_tinted : MethodName := ⟨RX12, "tinted", "(III)I"⟩
abbrev cX12_doActs : ByteArray := prog_14_method_33_code
def yX12_doActs : MethodName := ⟨RX12, "doActs", "([III)Z"⟩
abbrev cX12_act : ByteArray := prog_14_method_34_code
def yX12_act : MethodName := ⟨RX12, "act", "(IIIII)I"⟩
abbrev cX12_noLens : ByteArray := prog_14_method_35_code
def yX12_noLens : MethodName := ⟨RX12, "noLens", "(I)Z"⟩
abbrev cX12_lens : ByteArray := prog_14_method_36_code
def yX12_lens : MethodName := ⟨RX12, "lens", "(I)I"⟩
abbrev cX12_steal : ByteArray := prog_14_method_37_code
def yX12_steal : MethodName := ⟨RX12, "steal", "(II)I"⟩
abbrev cX12_noLine : ByteArray := prog_14_method_38_code
def yX12_noLine : MethodName := ⟨RX12, "noLine", "(I)Z"⟩
abbrev cX12_sealOf : ByteArray := prog_14_method_39_code
def yX12_sealOf : MethodName := ⟨RX12, "sealOf", "(III)I"⟩
abbrev cX12_write : ByteArray := prog_14_method_40_code
def yX12_write : MethodName := ⟨RX12, "write", "(IIIII)I"⟩
abbrev cX12_take : ByteArray := prog_14_method_41_code
def yX12_take : MethodName := ⟨RX12, "take", "(III)I"⟩
abbrev cX12_hush : ByteArray := prog_14_method_42_code
def yX12_hush : MethodName := ⟨RX12, "hush", "(IIII)I"⟩
abbrev cX12_change : ByteArray := prog_14_method_43_code
def yX12_change : MethodName := ⟨RX12, "change", "(IIIIIIII)I"⟩
abbrev cX12_tear : ByteArray := prog_14_method_44_code
def yX12_tear : MethodName := ⟨RX12, "tear", "(I)I"⟩
abbrev cX12_line : ByteArray := prog_14_method_45_code
def yX12_line : MethodName := ⟨RX12, "line", "(II)I"⟩
abbrev cX12_within : ByteArray := prog_14_method_46_code
def yX12_within : MethodName := ⟨RX12, "within", "(I)I"⟩
abbrev cX12_played : ByteArray := prog_14_method_47_code
def yX12_played : MethodName := ⟨RX12, "played", "(I)I"⟩
abbrev cX12_play : ByteArray := prog_14_method_48_code
def yX12_play : MethodName := ⟨RX12, "play", "(I)I"⟩
abbrev cX12_speaking : ByteArray := prog_14_method_49_code
def yX12_speaking : MethodName := ⟨RX12, "speaking", "(I)I"⟩
abbrev cX12_speaks : ByteArray := prog_14_method_50_code
def yX12_speaks : MethodName := ⟨RX12, "speaks", "(I)I"⟩
abbrev cX12_nextOn : ByteArray := prog_14_method_51_code
def yX12_nextOn : MethodName := ⟨RX12, "nextOn", "(I)I"⟩
abbrev cX12_way : ByteArray := prog_14_method_52_code
def yX12_way : MethodName := ⟨RX12, "way", "(II)I"⟩
abbrev cX12_doubtOn : ByteArray := prog_14_method_53_code
def yX12_doubtOn : MethodName := ⟨RX12, "doubtOn", "(I)I"⟩
abbrev cX12_doubt : ByteArray := prog_14_method_54_code
def yX12_doubt : MethodName := ⟨RX12, "doubt", "(I)I"⟩
abbrev cX12_whole : ByteArray := prog_14_method_55_code
def yX12_whole : MethodName := ⟨RX12, "whole", "(I)I"⟩
abbrev cX12_proof : ByteArray := prog_14_method_56_code
def yX12_proof : MethodName := ⟨RX12, "proof", "(III)I"⟩
abbrev cX12_proves : ByteArray := prog_14_method_57_code
def yX12_proves : MethodName := ⟨RX12, "proves", "(IIIIII)I"⟩
abbrev cX12_looked : ByteArray := prog_14_method_58_code
def yX12_looked : MethodName := ⟨RX12, "looked", "(I)I"⟩
abbrev cX12_isMark : ByteArray := prog_14_method_59_code
def yX12_isMark : MethodName := ⟨RX12, "isMark", "(I)Z"⟩
abbrev cX12_isSo : ByteArray := prog_14_method_60_code
def yX12_isSo : MethodName := ⟨RX12, "isSo", "(III)Z"⟩
abbrev cX12_hide : ByteArray := prog_14_method_61_code
def yX12_hide : MethodName := ⟨RX12, "hide", "(II)I"⟩
abbrev cX12_foundIn : ByteArray := prog_14_method_62_code
def yX12_foundIn : MethodName := ⟨RX12, "foundIn", "(II)I"⟩
abbrev cX12_found : ByteArray := prog_14_method_63_code
def yX12_found : MethodName := ⟨RX12, "found", "(II)I"⟩
abbrev cX12_falsely : ByteArray := prog_14_method_64_code
def yX12_falsely : MethodName := ⟨RX12, "falsely", "(III)J"⟩
abbrev cX12_extreme : ByteArray := prog_14_method_65_code
def yX12_extreme : MethodName := ⟨RX12, "extreme", "(II)I"⟩
abbrev cX12_likeness : ByteArray := prog_14_method_66_code
def yX12_likeness : MethodName := ⟨RX12, "likeness", "(II)I"⟩
abbrev cX12_like : ByteArray := prog_14_method_67_code
def yX12_like : MethodName := ⟨RX12, "like", "(II)I"⟩
abbrev cX12_nearest : ByteArray := prog_14_method_68_code
def yX12_nearest : MethodName := ⟨RX12, "nearest", "(II)I"⟩
abbrev cX12_coarse : ByteArray := prog_14_method_69_code
def yX12_coarse : MethodName := ⟨RX12, "coarse", "(II)I"⟩
abbrev cX12_look : ByteArray := prog_14_method_70_code
def yX12_look : MethodName := ⟨RX12, "look", "(III)I"⟩
abbrev cX12_ofLooks : ByteArray := prog_14_method_71_code
def yX12_ofLooks : MethodName := ⟨RX12, "ofLooks", "(II)I"⟩
abbrev cX12_best : ByteArray := prog_14_method_72_code
def yX12_best : MethodName := ⟨RX12, "best", "(II)I"⟩
abbrev cX12_doubtful : ByteArray := prog_14_method_73_code
def yX12_doubtful : MethodName := ⟨RX12, "doubtful", "()I"⟩
abbrev cX12_noSheet : ByteArray := prog_14_method_74_code
def yX12_noSheet : MethodName := ⟨RX12, "noSheet", "(I)Z"⟩
abbrev cX12_sheet : ByteArray := prog_14_method_75_code
def yX12_sheet : MethodName := ⟨RX12, "sheet", "(III)I"⟩
abbrev cX12_lose : ByteArray := prog_14_method_76_code
def yX12_lose : MethodName := ⟨RX12, "lose", "(I)I"⟩
abbrev cX12_noCell : ByteArray := prog_14_method_77_code
def yX12_noCell : MethodName := ⟨RX12, "noCell", "(II)I"⟩
abbrev cX12_put : ByteArray := prog_14_method_78_code
def yX12_put : MethodName := ⟨RX12, "put", "(III)I"⟩
abbrev cX12_cell : ByteArray := prog_14_method_79_code
def yX12_cell : MethodName := ⟨RX12, "cell", "(III)J"⟩
abbrev cX12_isBeyond : ByteArray := prog_14_method_80_code
def yX12_isBeyond : MethodName := ⟨RX12, "isBeyond", "(IJI)Z"⟩
abbrev cX12_copy : ByteArray := prog_14_method_81_code
def yX12_copy : MethodName := ⟨RX12, "copy", "(IIIII)I"⟩
abbrev cX12_traced : ByteArray := prog_14_method_82_code
def yX12_traced : MethodName := ⟨RX12, "traced", "(I)V"⟩
abbrev cX12_tell : ByteArray := prog_14_method_83_code
def yX12_tell : MethodName := ⟨RX12, "tell", "(I)I"⟩
abbrev cX12_show : ByteArray := prog_14_method_84_code
def yX12_show : MethodName := ⟨RX12, "show", "(I)I"⟩
abbrev cX12_as : ByteArray := prog_14_method_85_code
def yX12_as : MethodName := ⟨RX12, "as", "(II)I"⟩
abbrev cX12_trace : ByteArray := prog_14_method_86_code
def yX12_trace : MethodName := ⟨RX12, "trace", "()I"⟩
abbrev cX12_fault : ByteArray := prog_14_method_87_code
def yX12_fault : MethodName := ⟨RX12, "fault", "()I"⟩
abbrev cX12_many : ByteArray := prog_14_method_88_code
def yX12_many : MethodName := ⟨RX12, "many", "(I)I"⟩
def RJ9 : String := "java/lang/Math"
def TJ9 : u_T := fun k => match k with
  | _ => ("", "", "", false)
def tyJ9 : Nat → FieldType := fun k => match k with
  | _ => .int
theorem nmJ9 : ∀ a, a < 0 → ∀ b, b < 0 → a ≠ b → (TJ9 a).2.1 ≠ (TJ9 b).2.1 := sorry
theorem tyJ9_ok : ∀ k, k < 0 → parseFieldDescriptor (TJ9 k).2.2.1 = some (tyJ9 k) := sorry
abbrev cJ9_abs_0f7a4 : ByteArray := prog_16_method_59_code
def yJ9_abs_0f7a4 : MethodName := ⟨RJ9, "abs", "(I)I"⟩
abbrev cJ9_max_7cf53 : ByteArray := prog_16_method_65_code
def yJ9_max_7cf53 : MethodName := ⟨RJ9, "max", "(II)I"⟩
abbrev cJ9_min_7cf53 : ByteArray := prog_16_method_69_code
def yJ9_min_7cf53 : MethodName := ⟨RJ9, "min", "(II)I"⟩
def RJ10 : String := "java/lang/System"
def TJ10 : u_T := fun k => match k with
  | _ => ("", "", "", false)
def tyJ10 : Nat → FieldType := fun k => match k with
  | _ => .int
theorem nmJ10 : ∀ a, a < 0 → ∀ b, b < 0 → a ≠ b → (TJ10 a).2.1 ≠ (TJ10 b).2.1 := sorry
theorem tyJ10_ok : ∀ k, k < 0 → parseFieldDescriptor (TJ10 k).2.2.1 = some (tyJ10 k) := sorry
def RJ7 : String := "java/util/Arrays"
def TJ7 : u_T := fun k => match k with
  | _ => ("", "", "", false)
def tyJ7 : Nat → FieldType := fun k => match k with
  | _ => .int
theorem nmJ7 : ∀ a, a < 0 → ∀ b, b < 0 → a ≠ b → (TJ7 a).2.1 ≠ (TJ7 b).2.1 := sorry
theorem tyJ7_ok : ∀ k, k < 0 → parseFieldDescriptor (TJ7 k).2.2.1 = some (tyJ7 k) := sorry
abbrev cJ7_fill_53178 : ByteArray := prog_18_method_103_code
def yJ7_fill_53178 : MethodName := ⟨RJ7, "fill", "([II)V"⟩
abbrev cJ7_copyOf_59c91 : ByteArray := prog_18_method_123_code
def yJ7_copyOf_59c91 : MethodName := ⟨RJ7, "copyOf", "([II)[I"⟩
def RL : String := "PicturePapersLaw"
abbrev cL_law : ByteArray := code
def yL_law : MethodName := ⟨RL, "law", "([I)Z"⟩
abbrev vwCl : List vw_C := [(RX0, TX0, 5), (RX1, TX1, 3), (RX2, TX2, 3), (RX3, TX3, 5), (RX4, TX4, 6), (RX5, TX5, 4), (RX6, TX6, 5), (RX7, TX7, 3), (RX8, TX8, 1), (RX9, TX9, 1), (RX10, TX10, 2), (RX11, TX11, 13), (RX12, TX12, 33)]
/-- a method: its name, bytes, locals, what it returns -/
abbrev YY : Type := MethodName × ByteArray × Nat × Option FieldType
def mX7_init : YY := (yX7_init, cX7_init, 4, none)
def mX0_init : YY := (yX0_init, cX0_init, 6, none)
def mX0_kind : YY := (yX0_kind, cX0_kind, 1, (some .int))
def mX0_origin : YY := (yX0_origin, cX0_origin, 1, (some (.object "PicturePapers$Picture")))
def mX0_acts : YY := (yX0_acts, cX0_acts, 1, (some (.array .int)))
def mX8_leave : YY := (yX8_leave, cX8_leave, 2, none)
def mX7_takenTelling : YY := (yX7_takenTelling, cX7_takenTelling, 2, (some .int))
def mX7_telling : YY := (yX7_telling, cX7_telling, 2, (some .int))
def mX0_telling : YY := (yX0_telling, cX0_telling, 2, (some .int))
def mX1_init : YY := (yX1_init, cX1_init, 3, none)
def mX2_init : YY := (yX2_init, cX2_init, 4, none)
def mJ7_fill_53178 : YY := (yJ7_fill_53178, cJ7_fill_53178, 4, none)
def mX3_init : YY := (yX3_init, cX3_init, 2, none)
def mX11_isIn : YY := (yX11_isIn, cX11_isIn, 3, (some .boolean))
def mX5_at : YY := (yX5_at, cX5_at, 2, (some .int))
def mX3_fill : YY := (yX3_fill, cX3_fill, 6, none)
def mX3_replace : YY := (yX3_replace, cX3_replace, 4, none)
def mX3_become : YY := (yX3_become, cX3_become, 2, none)
def mX11_isPlace : YY := (yX11_isPlace, cX11_isPlace, 1, (some .boolean))
def mX3_has : YY := (yX3_has, cX3_has, 2, (some .boolean))
def mX7_origin : YY := (yX7_origin, cX7_origin, 1, (some (.object "PicturePapers$Picture")))
def mX3_origin : YY := (yX3_origin, cX3_origin, 1, (some (.object "PicturePapers$Picture")))
def mX3_sum : YY := (yX3_sum, cX3_sum, 3, (some .int))
def mX3_mean : YY := (yX3_mean, cX3_mean, 2, (some .int))
def mX3_least : YY := (yX3_least, cX3_least, 3, (some .int))
def mX3_greatest : YY := (yX3_greatest, cX3_greatest, 3, (some .int))
def mX3_tellsBit : YY := (yX3_tellsBit, cX3_tellsBit, 4, (some .boolean))
def mX3_imprint : YY := (yX3_imprint, cX3_imprint, 5, (some .int))
def mX3_agreement : YY := (yX3_agreement, cX3_agreement, 5, (some .int))
def mX4_init : YY := (yX4_init, cX4_init, 1, none)
def mJ7_copyOf_59c91 : YY := (yJ7_copyOf_59c91, cJ7_copyOf_59c91, 3, (some (.array .int)))
def mX4_keptActs : YY := (yX4_keptActs, cX4_keptActs, 1, (some (.array .int)))
def mX4_code : YY := (yX4_code, cX4_code, 1, (some .int))
def mX4_isKind : YY := (yX4_isKind, cX4_isKind, 1, (some .boolean))
def mX4_readDigits : YY := (yX4_readDigits, cX4_readDigits, 3, (some .int))
def mX4_readShift : YY := (yX4_readShift, cX4_readShift, 2, (some .boolean))
def mX4_readNumber : YY := (yX4_readNumber, cX4_readNumber, 2, (some .boolean))
def mX4_read : YY := (yX4_read, cX4_read, 5, (some .int))
def mX5_init : YY := (yX5_init, cX5_init, 1, none)
def mX5_renew : YY := (yX5_renew, cX5_renew, 3, none)
def mX5_lacks : YY := (yX5_lacks, cX5_lacks, 3, (some .boolean))
def mX5_faultOf : YY := (yX5_faultOf, cX5_faultOf, 4, (some .int))
def mX5_holdsSquares : YY := (yX5_holdsSquares, cX5_holdsSquares, 4, (some .boolean))
def mX5_write : YY := (yX5_write, cX5_write, 3, none)
def mX6_init : YY := (yX6_init, cX6_init, 5, none)
def mX6_kind : YY := (yX6_kind, cX6_kind, 1, (some .int))
def mX6_telling : YY := (yX6_telling, cX6_telling, 2, (some .int))
def mX6_showing : YY := (yX6_showing, cX6_showing, 2, (some .int))
def mX7_kind : YY := (yX7_kind, cX7_kind, 1, (some .int))
def mX7_acts : YY := (yX7_acts, cX7_acts, 1, (some (.array .int)))
def mX7_showing : YY := (yX7_showing, cX7_showing, 2, (some .int))
def mX8_init : YY := (yX8_init, cX8_init, 1, none)
def mX9_init : YY := (yX9_init, cX9_init, 1, none)
def mX9_above : YY := (yX9_above, cX9_above, 2, (some .int))
def mX9_rootOf : YY := (yX9_rootOf, cX9_rootOf, 3, (some .int))
def mX9_beside : YY := (yX9_beside, cX9_beside, 3, (some .int))
def mX10_init : YY := (yX10_init, cX10_init, 1, none)
def mX10_holds : YY := (yX10_holds, cX10_holds, 5, (some .boolean))
def mX10_cutOut : YY := (yX10_cutOut, cX10_cutOut, 7, none)
def mX10_blur : YY := (yX10_blur, cX10_blur, 8, none)
def mX10_turn : YY := (yX10_turn, cX10_turn, 3, none)
def mX10_shift : YY := (yX10_shift, cX10_shift, 3, none)
def mX10_saveWorse : YY := (yX10_saveWorse, cX10_saveWorse, 3, none)
def mX10_performOne : YY := (yX10_performOne, cX10_performOne, 7, (some .boolean))
def mX10_perform : YY := (yX10_perform, cX10_perform, 5, (some .boolean))
def mX11_init : YY := (yX11_init, cX11_init, 2, none)
def mX11_sheetAt : YY := (yX11_sheetAt, cX11_sheetAt, 2, (some (.object "PicturePapers$Sheet")))
def mX11_isLane : YY := (yX11_isLane, cX11_isLane, 1, (some .boolean))
def mX11_failed : YY := (yX11_failed, cX11_failed, 2, (some .int))
def mX11_addPicture : YY := (yX11_addPicture, cX11_addPicture, 2, (some (.object "PicturePapers$Picture")))
def mX11_picture : YY := (yX11_picture, cX11_picture, 9, (some .int))
def mX11_pictureAt : YY := (yX11_pictureAt, cX11_pictureAt, 2, (some (.object "PicturePapers$Picture")))
def mX11_ofPicture : YY := (yX11_ofPicture, cX11_ofPicture, 4, (some .int))
def mX11_alter : YY := (yX11_alter, cX11_alter, 6, (some .int))
def mX11_lens : YY := (yX11_lens, cX11_lens, 2, (some .int))
def mX11_lensAt : YY := (yX11_lensAt, cX11_lensAt, 2, (some (.object "PicturePapers$Lens")))
def mX11_steal : YY := (yX11_steal, cX11_steal, 5, (some .int))
def mX11_isHour : YY := (yX11_isHour, cX11_isHour, 1, (some .boolean))
def mX11_sealOf : YY := (yX11_sealOf, cX11_sealOf, 4, (some .int))
def mX11_take : YY := (yX11_take, cX11_take, 6, (some .int))
def mX11_hush : YY := (yX11_hush, cX11_hush, 8, (some .int))
def mX11_readActs : YY := (yX11_readActs, cX11_readActs, 7, (some .int))
def mX11_change : YY := (yX11_change, cX11_change, 14, (some .int))
def mX11_act : YY := (yX11_act, cX11_act, 10, (some .int))
def mX11_tear : YY := (yX11_tear, cX11_tear, 3, (some .int))
def mX11_line : YY := (yX11_line, cX11_line, 5, (some .int))
def mX11_firstFarPlace : YY := (yX11_firstFarPlace, cX11_firstFarPlace, 6, (some .int))
def mX11_voiceOf : YY := (yX11_voiceOf, cX11_voiceOf, 3, (some .int))
def mX11_speaks : YY := (yX11_speaks, cX11_speaks, 3, (some .int))
def mX11_play : YY := (yX11_play, cX11_play, 4, (some .int))
def mX11_within : YY := (yX11_within, cX11_within, 3, (some .int))
def mX11_way : YY := (yX11_way, cX11_way, 6, (some .int))
def mX11_firstDoubt : YY := (yX11_firstDoubt, cX11_firstDoubt, 3, (some .int))
def mX11_doubt : YY := (yX11_doubt, cX11_doubt, 3, (some .int))
def mX11_whole : YY := (yX11_whole, cX11_whole, 4, (some .int))
def mX11_proof : YY := (yX11_proof, cX11_proof, 5, (some .int))
def mX11_proves : YY := (yX11_proves, cX11_proves, 13, (some .int))
def mX11_isMark : YY := (yX11_isMark, cX11_isMark, 1, (some .boolean))
def mX11_hide : YY := (yX11_hide, cX11_hide, 4, (some .int))
def mX11_found : YY := (yX11_found, cX11_found, 4, (some .int))
def mX11_waysOfAtLeast : YY := (yX11_waysOfAtLeast, cX11_waysOfAtLeast, 7, (some .long))
def mX11_falsely : YY := (yX11_falsely, cX11_falsely, 11, (some .long))
def mX11_likeness : YY := (yX11_likeness, cX11_likeness, 2, (some .int))
def mX11_like : YY := (yX11_like, cX11_like, 5, (some .int))
def mX11_countNearer : YY := (yX11_countNearer, cX11_countNearer, 7, (some .int))
def mX11_nearest : YY := (yX11_nearest, cX11_nearest, 5, (some .int))
def mX11_coarse : YY := (yX11_coarse, cX11_coarse, 4, (some .int))
def mX11_look : YY := (yX11_look, cX11_look, 5, (some .int))
def mX11_hoursOf : YY := (yX11_hoursOf, cX11_hoursOf, 4, (some .int))
def mX11_worthOf : YY := (yX11_worthOf, cX11_worthOf, 4, (some .int))
def mX11_best : YY := (yX11_best, cX11_best, 10, (some .int))
def mX11_doubtful : YY := (yX11_doubtful, cX11_doubtful, 3, (some .int))
def mX11_sheet : YY := (yX11_sheet, cX11_sheet, 5, (some .int))
def mX11_lose : YY := (yX11_lose, cX11_lose, 3, (some .int))
def mX11_put : YY := (yX11_put, cX11_put, 6, (some .int))
def mX11_cell : YY := (yX11_cell, cX11_cell, 6, (some .long))
def mX11_copy : YY := (yX11_copy, cX11_copy, 8, (some .int))
def mX11_tell : YY := (yX11_tell, cX11_tell, 3, (some .int))
def mX11_show : YY := (yX11_show, cX11_show, 3, (some .int))
def mX11_as : YY := (yX11_as, cX11_as, 4, (some .int))
def mX11_trace : YY := (yX11_trace, cX11_trace, 1, (some .int))
def mX11_fault : YY := (yX11_fault, cX11_fault, 1, (some .int))
def mX11_countPapers : YY := (yX11_countPapers, cX11_countPapers, 3, (some .int))
def mX11_many : YY := (yX11_many, cX11_many, 2, (some .int))
def mX12_init : YY := (yX12_init, cX12_init, 2, none)
def mX12_in : YY := (yX12_in, cX12_in, 6, (some .boolean))
def mX12_lost : YY := (yX12_lost, cX12_lost, 0, (some .long))
def mX12_hasBit : YY := (yX12_hasBit, cX12_hasBit, 2, (some .boolean))
def mX12_sizeOf : YY := (yX12_sizeOf, cX12_sizeOf, 1, (some .int))
def mX12_lesser : YY := (yX12_lesser, cX12_lesser, 2, (some .int))
def mX12_greater : YY := (yX12_greater, cX12_greater, 2, (some .int))
def mX12_share : YY := (yX12_share, cX12_share, 11, (some .long))
def mX12_refused : YY := (yX12_refused, cX12_refused, 2, (some .int))
def mX12_failed : YY := (yX12_failed, cX12_failed, 2, (some .int))
def mX12_failedLong : YY := (yX12_failedLong, cX12_failedLong, 2, (some .long))
def mX12_isBeyond : YY := (yX12_isBeyond, cX12_isBeyond, 4, (some .boolean))
def mX12_barred : YY := (yX12_barred, cX12_barred, 6, (some .int))
def mX12_isLane : YY := (yX12_isLane, cX12_isLane, 1, (some .boolean))
def mX12_isHour : YY := (yX12_isHour, cX12_isHour, 1, (some .boolean))
def mX12_noPicture : YY := (yX12_noPicture, cX12_noPicture, 2, (some .boolean))
def mX12_isThere : YY := (yX12_isThere, cX12_isThere, 3, (some .boolean))
def mX12_noSheet : YY := (yX12_noSheet, cX12_noSheet, 1, (some .boolean))
def mX12_picture : YY := (yX12_picture, cX12_picture, 9, (some .int))
def mX12_manySquares : YY := (yX12_manySquares, cX12_manySquares, 2, (some .int))
def mX12_placeOf : YY := (yX12_placeOf, cX12_placeOf, 3, (some .int))
def mX12_sumOf : YY := (yX12_sumOf, cX12_sumOf, 4, (some .int))
def mX12_above : YY := (yX12_above, cX12_above, 2, (some .int))
def mX12_layTree : YY := (yX12_layTree, cX12_layTree, 3, none)
def mX12_rootOf : YY := (yX12_rootOf, cX12_rootOf, 2, (some .int))
def mX12_ofPicture : YY := (yX12_ofPicture, cX12_ofPicture, 3, (some .int))
def mX12_alter : YY := (yX12_alter, cX12_alter, 5, (some .int))
def mX12_isDigit : YY := (yX12_isDigit, cX12_isDigit, 3, (some .boolean))
def mX12_readsNumbers : YY := (yX12_readsNumbers, cX12_readsNumbers, 8, (some .boolean))
def mX12_readActs : YY := (yX12_readActs, cX12_readActs, 6, (some .int))
def mX12_takeInHand : YY := (yX12_takeInHand, cX12_takeInHand, 3, none)
def mX12_doPart : YY := (yX12_doPart, cX12_doPart, 10, (some .boolean))
def mX12_turn : YY := (yX12_turn, cX12_turn, 6, none)
def mX12_tinted : YY := (yX12_tinted, cX12_tinted, 3, (some .int))
def mX12_doActs : YY := (yX12_doActs, cX12_doActs, 8, (some .boolean))
def mX12_act : YY := (yX12_act, cX12_act, 9, (some .int))
def mX12_noLens : YY := (yX12_noLens, cX12_noLens, 2, (some .boolean))
def mX12_lens : YY := (yX12_lens, cX12_lens, 2, (some .int))
def mX12_steal : YY := (yX12_steal, cX12_steal, 4, (some .int))
def mX12_noLine : YY := (yX12_noLine, cX12_noLine, 2, (some .boolean))
def mX12_sealOf : YY := (yX12_sealOf, cX12_sealOf, 4, (some .int))
def mX12_write : YY := (yX12_write, cX12_write, 6, (some .int))
def mX12_take : YY := (yX12_take, cX12_take, 4, (some .int))
def mX12_hush : YY := (yX12_hush, cX12_hush, 5, (some .int))
def mX12_change : YY := (yX12_change, cX12_change, 13, (some .int))
def mX12_tear : YY := (yX12_tear, cX12_tear, 3, (some .int))
def mX12_line : YY := (yX12_line, cX12_line, 3, (some .int))
def mX12_within : YY := (yX12_within, cX12_within, 3, (some .int))
def mX12_played : YY := (yX12_played, cX12_played, 3, (some .int))
def mX12_play : YY := (yX12_play, cX12_play, 2, (some .int))
def mX12_speaking : YY := (yX12_speaking, cX12_speaking, 2, (some .int))
def mX12_speaks : YY := (yX12_speaks, cX12_speaks, 2, (some .int))
def mX12_nextOn : YY := (yX12_nextOn, cX12_nextOn, 2, (some .int))
def mX12_way : YY := (yX12_way, cX12_way, 6, (some .int))
def mX12_doubtOn : YY := (yX12_doubtOn, cX12_doubtOn, 3, (some .int))
def mX12_doubt : YY := (yX12_doubt, cX12_doubt, 2, (some .int))
def mX12_whole : YY := (yX12_whole, cX12_whole, 4, (some .int))
def mX12_proof : YY := (yX12_proof, cX12_proof, 4, (some .int))
def mX12_proves : YY := (yX12_proves, cX12_proves, 12, (some .int))
def mX12_looked : YY := (yX12_looked, cX12_looked, 2, (some .int))
def mX12_isMark : YY := (yX12_isMark, cX12_isMark, 1, (some .boolean))
def mX12_isSo : YY := (yX12_isSo, cX12_isSo, 4, (some .boolean))
def mX12_hide : YY := (yX12_hide, cX12_hide, 6, (some .int))
def mX12_foundIn : YY := (yX12_foundIn, cX12_foundIn, 5, (some .int))
def mX12_found : YY := (yX12_found, cX12_found, 3, (some .int))
def mX12_falsely : YY := (yX12_falsely, cX12_falsely, 10, (some .long))
def mX12_extreme : YY := (yX12_extreme, cX12_extreme, 6, (some .int))
def mX12_likeness : YY := (yX12_likeness, cX12_likeness, 4, (some .int))
def mX12_like : YY := (yX12_like, cX12_like, 3, (some .int))
def mX12_nearest : YY := (yX12_nearest, cX12_nearest, 7, (some .int))
def mX12_coarse : YY := (yX12_coarse, cX12_coarse, 3, (some .int))
def mX12_look : YY := (yX12_look, cX12_look, 4, (some .int))
def mX12_ofLooks : YY := (yX12_ofLooks, cX12_ofLooks, 5, (some .int))
def mX12_best : YY := (yX12_best, cX12_best, 7, (some .int))
def mX12_doubtful : YY := (yX12_doubtful, cX12_doubtful, 3, (some .int))
def mX12_sheet : YY := (yX12_sheet, cX12_sheet, 5, (some .int))
def mX12_lose : YY := (yX12_lose, cX12_lose, 3, (some .int))
def mX12_noCell : YY := (yX12_noCell, cX12_noCell, 3, (some .int))
def mX12_put : YY := (yX12_put, cX12_put, 4, (some .int))
def mX12_cell : YY := (yX12_cell, cX12_cell, 4, (some .long))
def mX12_copy : YY := (yX12_copy, cX12_copy, 7, (some .int))
def mX12_traced : YY := (yX12_traced, cX12_traced, 2, none)
def mX12_tell : YY := (yX12_tell, cX12_tell, 3, (some .int))
def mX12_show : YY := (yX12_show, cX12_show, 2, (some .int))
def mX12_as : YY := (yX12_as, cX12_as, 3, (some .int))
def mX12_trace : YY := (yX12_trace, cX12_trace, 1, (some .int))
def mX12_fault : YY := (yX12_fault, cX12_fault, 1, (some .int))
def mX12_many : YY := (yX12_many, cX12_many, 4, (some .int))
def mJ9_abs_0f7a4 : YY := (yJ9_abs_0f7a4, cJ9_abs_0f7a4, 1, (some .int))
def mJ9_max_7cf53 : YY := (yJ9_max_7cf53, cJ9_max_7cf53, 2, (some .int))
def mJ9_min_7cf53 : YY := (yJ9_min_7cf53, cJ9_min_7cf53, 2, (some .int))
end
section
theorem dX0_init_0 : decode cX0_init 0 = .ok (.aload_n 0, 1) := sorry
theorem dX0_init_1 : decode cX0_init 1 = .ok (.aload_n 1, 1) := sorry
theorem dX0_init_2 : decode cX0_init 2 = .ok (.iload_n 2, 1) := sorry
theorem dX0_init_3 : decode cX0_init 3 = .ok (.iload_n 3, 1) := sorry
theorem dX0_init_4 : decode cX0_init 4 = .ok (.invokespecial 3, 3) := sorry
theorem dX0_init_7 : decode cX0_init 7 = .ok (.aload_n 0, 1) := sorry
theorem dX0_init_8 : decode cX0_init 8 = .ok (.aload 4, 2) := sorry
theorem dX0_init_10 : decode cX0_init 10 = .ok (.putfield 9, 3) := sorry
theorem dX0_init_13 : decode cX0_init 13 = .ok (.aload_n 0, 1) := sorry
theorem dX0_init_14 : decode cX0_init 14 = .ok (.aload 5, 2) := sorry
theorem dX0_init_16 : decode cX0_init 16 = .ok (.putfield 15, 3) := sorry
theorem dX0_init_19 : decode cX0_init 19 = .ok (.return_, 1) := sorry
theorem dX0_kind_0 : decode cX0_kind 0 = .ok (.iconst 1, 1) := sorry
theorem dX0_kind_1 : decode cX0_kind 1 = .ok (.ireturn, 1) := sorry
theorem dX0_origin_0 : decode cX0_origin 0 = .ok (.aload_n 0, 1) := sorry
theorem dX0_origin_1 : decode cX0_origin 1 = .ok (.getfield 9, 3) := sorry
theorem dX0_origin_4 : decode cX0_origin 4 = .ok (.areturn, 1) := sorry
theorem dX0_acts_0 : decode cX0_acts 0 = .ok (.aload_n 0, 1) := sorry
theorem dX0_acts_1 : decode cX0_acts 1 = .ok (.getfield 15, 3) := sorry
theorem dX0_acts_4 : decode cX0_acts 4 = .ok (.areturn, 1) := sorry
theorem dX0_telling_0 : decode cX0_telling 0 = .ok (.aload_n 1, 1) := sorry
theorem dX0_telling_1 : decode cX0_telling 1 = .ok (.iconst 2, 1) := sorry
theorem dX0_telling_2 : decode cX0_telling 2 = .ok (.invokevirtual 19, 3) := sorry
theorem dX0_telling_5 : decode cX0_telling 5 = .ok (.aload_n 0, 1) := sorry
theorem dX0_telling_6 : decode cX0_telling 6 = .ok (.aload_n 1, 1) := sorry
theorem dX0_telling_7 : decode cX0_telling 7 = .ok (.invokespecial 25, 3) := sorry
theorem dX0_telling_10 : decode cX0_telling 10 = .ok (.sipush 1000, 3) := sorry
theorem dX0_telling_13 : decode cX0_telling 13 = .ok (.iadd, 1) := sorry
theorem dX0_telling_14 : decode cX0_telling 14 = .ok (.ireturn, 1) := sorry
theorem dX1_init_0 : decode cX1_init 0 = .ok (.aload_n 0, 1) := sorry
theorem dX1_init_1 : decode cX1_init 1 = .ok (.invokespecial 3, 3) := sorry
theorem dX1_init_4 : decode cX1_init 4 = .ok (.aload_n 0, 1) := sorry
theorem dX1_init_5 : decode cX1_init 5 = .ok (.sipush 1000, 3) := sorry
theorem dX1_init_8 : decode cX1_init 8 = .ok (.putfield 9, 3) := sorry
theorem dX1_init_11 : decode cX1_init 11 = .ok (.aload_n 0, 1) := sorry
theorem dX1_init_12 : decode cX1_init 12 = .ok (.iload_n 1, 1) := sorry
theorem dX1_init_13 : decode cX1_init 13 = .ok (.putfield 15, 3) := sorry
theorem dX1_init_16 : decode cX1_init 16 = .ok (.aload_n 0, 1) := sorry
theorem dX1_init_17 : decode cX1_init 17 = .ok (.iload_n 2, 1) := sorry
theorem dX1_init_18 : decode cX1_init 18 = .ok (.putfield 18, 3) := sorry
theorem dX1_init_21 : decode cX1_init 21 = .ok (.return_, 1) := sorry
theorem dX2_init_0 : decode cX2_init 0 = .ok (.aload_n 0, 1) := sorry
theorem dX2_init_1 : decode cX2_init 1 = .ok (.invokespecial 1, 3) := sorry
theorem dX2_init_4 : decode cX2_init 4 = .ok (.aload_n 0, 1) := sorry
theorem dX2_init_5 : decode cX2_init 5 = .ok (.aload_n 1, 1) := sorry
theorem dX2_init_6 : decode cX2_init 6 = .ok (.putfield 7, 3) := sorry
theorem dX2_init_9 : decode cX2_init 9 = .ok (.aload_n 0, 1) := sorry
theorem dX2_init_10 : decode cX2_init 10 = .ok (.iload_n 2, 1) := sorry
theorem dX2_init_11 : decode cX2_init 11 = .ok (.putfield 13, 3) := sorry
theorem dX2_init_14 : decode cX2_init 14 = .ok (.aload_n 0, 1) := sorry
theorem dX2_init_15 : decode cX2_init 15 = .ok (.iload_n 3, 1) := sorry
theorem dX2_init_16 : decode cX2_init 16 = .ok (.putfield 17, 3) := sorry
theorem dX2_init_19 : decode cX2_init 19 = .ok (.return_, 1) := sorry
theorem dX3_init_0 : decode cX3_init 0 = .ok (.aload_n 0, 1) := sorry
theorem dX3_init_1 : decode cX3_init 1 = .ok (.invokespecial 3, 3) := sorry
theorem dX3_init_4 : decode cX3_init 4 = .ok (.aload_n 0, 1) := sorry
theorem dX3_init_5 : decode cX3_init 5 = .ok (.bipush 16, 2) := sorry
theorem dX3_init_7 : decode cX3_init 7 = .ok (.newarray .int, 2) := sorry
theorem dX3_init_9 : decode cX3_init 9 = .ok (.putfield 9, 3) := sorry
theorem dX3_init_12 : decode cX3_init 12 = .ok (.aload_n 0, 1) := sorry
theorem dX3_init_13 : decode cX3_init 13 = .ok (.iload_n 1, 1) := sorry
theorem dX3_init_14 : decode cX3_init 14 = .ok (.putfield 15, 3) := sorry
theorem dX3_init_17 : decode cX3_init 17 = .ok (.aload_n 0, 1) := sorry
theorem dX3_init_18 : decode cX3_init 18 = .ok (.getfield 9, 3) := sorry
theorem dX3_init_21 : decode cX3_init 21 = .ok (.iconst (-1), 1) := sorry
theorem dX3_init_22 : decode cX3_init 22 = .ok (.invokestatic 19, 3) := sorry
theorem dX3_init_25 : decode cX3_init 25 = .ok (.return_, 1) := sorry
theorem dX3_fill_0 : decode cX3_fill 0 = .ok (.aload_n 0, 1) := sorry
theorem dX3_fill_1 : decode cX3_fill 1 = .ok (.iload_n 1, 1) := sorry
theorem dX3_fill_2 : decode cX3_fill 2 = .ok (.putfield 25, 3) := sorry
theorem dX3_fill_5 : decode cX3_fill 5 = .ok (.aload_n 0, 1) := sorry
theorem dX3_fill_6 : decode cX3_fill 6 = .ok (.iload_n 2, 1) := sorry
theorem dX3_fill_7 : decode cX3_fill 7 = .ok (.putfield 28, 3) := sorry
theorem dX3_fill_10 : decode cX3_fill 10 = .ok (.iconst 0, 1) := sorry
theorem dX3_fill_11 : decode cX3_fill 11 = .ok (.istore 5, 2) := sorry
theorem dX3_fill_13 : decode cX3_fill 13 = .ok (.iload 5, 2) := sorry
theorem dX3_fill_15 : decode cX3_fill 15 = .ok (.aload_n 0, 1) := sorry
theorem dX3_fill_16 : decode cX3_fill 16 = .ok (.getfield 25, 3) := sorry
theorem dX3_fill_19 : decode cX3_fill 19 = .ok (.aload_n 0, 1) := sorry
theorem dX3_fill_20 : decode cX3_fill 20 = .ok (.getfield 28, 3) := sorry
theorem dX3_fill_23 : decode cX3_fill 23 = .ok (.imul, 1) := sorry
theorem dX3_fill_24 : decode cX3_fill 24 = .ok (.if_icmp .ge 40, 3) := sorry
theorem dX3_fill_27 : decode cX3_fill 27 = .ok (.aload_n 0, 1) := sorry
theorem dX3_fill_28 : decode cX3_fill 28 = .ok (.getfield 9, 3) := sorry
theorem dX3_fill_31 : decode cX3_fill 31 = .ok (.iload 5, 2) := sorry
theorem dX3_fill_33 : decode cX3_fill 33 = .ok (.aload_n 0, 1) := sorry
theorem dX3_fill_34 : decode cX3_fill 34 = .ok (.getfield 25, 3) := sorry
theorem dX3_fill_37 : decode cX3_fill 37 = .ok (.irem, 1) := sorry
theorem dX3_fill_38 : decode cX3_fill 38 = .ok (.iconst 4, 1) := sorry
theorem dX3_fill_39 : decode cX3_fill 39 = .ok (.iload 5, 2) := sorry
theorem dX3_fill_41 : decode cX3_fill 41 = .ok (.aload_n 0, 1) := sorry
theorem dX3_fill_42 : decode cX3_fill 42 = .ok (.getfield 25, 3) := sorry
theorem dX3_fill_45 : decode cX3_fill 45 = .ok (.idiv, 1) := sorry
theorem dX3_fill_46 : decode cX3_fill 46 = .ok (.imul, 1) := sorry
theorem dX3_fill_47 : decode cX3_fill 47 = .ok (.iadd, 1) := sorry
theorem dX3_fill_48 : decode cX3_fill 48 = .ok (.aload_n 3, 1) := sorry
theorem dX3_fill_49 : decode cX3_fill 49 = .ok (.iload 4, 2) := sorry
theorem dX3_fill_51 : decode cX3_fill 51 = .ok (.iload 5, 2) := sorry
theorem dX3_fill_53 : decode cX3_fill 53 = .ok (.iadd, 1) := sorry
theorem dX3_fill_54 : decode cX3_fill 54 = .ok (.invokevirtual 31, 3) := sorry
theorem dX3_fill_57 : decode cX3_fill 57 = .ok (.iastore, 1) := sorry
theorem dX3_fill_58 : decode cX3_fill 58 = .ok (.iinc 5 1, 3) := sorry
theorem dX3_fill_61 : decode cX3_fill 61 = .ok (.goto (-48), 3) := sorry
theorem dX3_fill_64 : decode cX3_fill 64 = .ok (.return_, 1) := sorry
theorem dX3_become_0 : decode cX3_become 0 = .ok (.aload_n 0, 1) := sorry
theorem dX3_become_1 : decode cX3_become 1 = .ok (.aload_n 1, 1) := sorry
theorem dX3_become_2 : decode cX3_become 2 = .ok (.getfield 25, 3) := sorry
theorem dX3_become_5 : decode cX3_become 5 = .ok (.aload_n 1, 1) := sorry
theorem dX3_become_6 : decode cX3_become 6 = .ok (.getfield 28, 3) := sorry
theorem dX3_become_9 : decode cX3_become 9 = .ok (.aload_n 1, 1) := sorry
theorem dX3_become_10 : decode cX3_become 10 = .ok (.getfield 9, 3) := sorry
theorem dX3_become_13 : decode cX3_become 13 = .ok (.invokevirtual 37, 3) := sorry
theorem dX3_become_16 : decode cX3_become 16 = .ok (.return_, 1) := sorry
theorem dX3_replace_0 : decode cX3_replace 0 = .ok (.aload_n 0, 1) := sorry
theorem dX3_replace_1 : decode cX3_replace 1 = .ok (.iload_n 1, 1) := sorry
theorem dX3_replace_2 : decode cX3_replace 2 = .ok (.putfield 25, 3) := sorry
theorem dX3_replace_5 : decode cX3_replace 5 = .ok (.aload_n 0, 1) := sorry
theorem dX3_replace_6 : decode cX3_replace 6 = .ok (.iload_n 2, 1) := sorry
theorem dX3_replace_7 : decode cX3_replace 7 = .ok (.putfield 28, 3) := sorry
theorem dX3_replace_10 : decode cX3_replace 10 = .ok (.aload_n 3, 1) := sorry
theorem dX3_replace_11 : decode cX3_replace 11 = .ok (.iconst 0, 1) := sorry
theorem dX3_replace_12 : decode cX3_replace 12 = .ok (.aload_n 0, 1) := sorry
theorem dX3_replace_13 : decode cX3_replace 13 = .ok (.getfield 9, 3) := sorry
theorem dX3_replace_16 : decode cX3_replace 16 = .ok (.iconst 0, 1) := sorry
theorem dX3_replace_17 : decode cX3_replace 17 = .ok (.bipush 16, 2) := sorry
theorem dX3_replace_19 : decode cX3_replace 19 = .ok (.invokestatic 41, 3) := sorry
theorem dX3_replace_22 : decode cX3_replace 22 = .ok (.return_, 1) := sorry
theorem dX3_has_0 : decode cX3_has 0 = .ok (.iload_n 1, 1) := sorry
theorem dX3_has_1 : decode cX3_has 1 = .ok (.invokestatic 47, 3) := sorry
theorem dX3_has_4 : decode cX3_has 4 = .ok (.ifCond .eq 17, 3) := sorry
theorem dX3_has_7 : decode cX3_has 7 = .ok (.aload_n 0, 1) := sorry
theorem dX3_has_8 : decode cX3_has 8 = .ok (.getfield 9, 3) := sorry
theorem dX3_has_11 : decode cX3_has 11 = .ok (.iload_n 1, 1) := sorry
theorem dX3_has_12 : decode cX3_has 12 = .ok (.iaload, 1) := sorry
theorem dX3_has_13 : decode cX3_has 13 = .ok (.iconst (-1), 1) := sorry
theorem dX3_has_14 : decode cX3_has 14 = .ok (.if_icmp .eq 7, 3) := sorry
theorem dX3_has_17 : decode cX3_has 17 = .ok (.iconst 1, 1) := sorry
theorem dX3_has_18 : decode cX3_has 18 = .ok (.goto 4, 3) := sorry
theorem dX3_has_21 : decode cX3_has 21 = .ok (.iconst 0, 1) := sorry
theorem dX3_has_22 : decode cX3_has 22 = .ok (.ireturn, 1) := sorry
theorem dX3_origin_0 : decode cX3_origin 0 = .ok (.aload_n 0, 1) := sorry
theorem dX3_origin_1 : decode cX3_origin 1 = .ok (.getfield 51, 3) := sorry
theorem dX3_origin_4 : decode cX3_origin 4 = .ok (.ifnonnull 7, 3) := sorry
theorem dX3_origin_7 : decode cX3_origin 7 = .ok (.aconst_null, 1) := sorry
theorem dX3_origin_8 : decode cX3_origin 8 = .ok (.goto 10, 3) := sorry
theorem dX3_origin_11 : decode cX3_origin 11 = .ok (.aload_n 0, 1) := sorry
theorem dX3_origin_12 : decode cX3_origin 12 = .ok (.getfield 51, 3) := sorry
theorem dX3_origin_15 : decode cX3_origin 15 = .ok (.invokevirtual 55, 3) := sorry
theorem dX3_origin_18 : decode cX3_origin 18 = .ok (.areturn, 1) := sorry
theorem dX3_sum_0 : decode cX3_sum 0 = .ok (.iconst 0, 1) := sorry
theorem dX3_sum_1 : decode cX3_sum 1 = .ok (.istore_n 1, 1) := sorry
theorem dX3_sum_2 : decode cX3_sum 2 = .ok (.iconst 0, 1) := sorry
theorem dX3_sum_3 : decode cX3_sum 3 = .ok (.istore_n 2, 1) := sorry
theorem dX3_sum_4 : decode cX3_sum 4 = .ok (.iload_n 2, 1) := sorry
theorem dX3_sum_5 : decode cX3_sum 5 = .ok (.bipush 16, 2) := sorry
theorem dX3_sum_7 : decode cX3_sum 7 = .ok (.if_icmp .ge 22, 3) := sorry
theorem dX3_sum_10 : decode cX3_sum 10 = .ok (.iload_n 1, 1) := sorry
theorem dX3_sum_11 : decode cX3_sum 11 = .ok (.aload_n 0, 1) := sorry
theorem dX3_sum_12 : decode cX3_sum 12 = .ok (.getfield 9, 3) := sorry
theorem dX3_sum_15 : decode cX3_sum 15 = .ok (.iload_n 2, 1) := sorry
theorem dX3_sum_16 : decode cX3_sum 16 = .ok (.iaload, 1) := sorry
theorem dX3_sum_17 : decode cX3_sum 17 = .ok (.iconst 0, 1) := sorry
theorem dX3_sum_18 : decode cX3_sum 18 = .ok (.invokestatic 61, 3) := sorry
theorem dX3_sum_21 : decode cX3_sum 21 = .ok (.iadd, 1) := sorry
theorem dX3_sum_22 : decode cX3_sum 22 = .ok (.istore_n 1, 1) := sorry
theorem dX3_sum_23 : decode cX3_sum 23 = .ok (.iinc 2 1, 3) := sorry
theorem dX3_sum_26 : decode cX3_sum 26 = .ok (.goto (-22), 3) := sorry
theorem dX3_sum_29 : decode cX3_sum 29 = .ok (.iload_n 1, 1) := sorry
theorem dX3_sum_30 : decode cX3_sum 30 = .ok (.ireturn, 1) := sorry
theorem dX3_mean_0 : decode cX3_mean 0 = .ok (.aload_n 0, 1) := sorry
theorem dX3_mean_1 : decode cX3_mean 1 = .ok (.getfield 25, 3) := sorry
theorem dX3_mean_4 : decode cX3_mean 4 = .ok (.aload_n 0, 1) := sorry
theorem dX3_mean_5 : decode cX3_mean 5 = .ok (.getfield 28, 3) := sorry
theorem dX3_mean_8 : decode cX3_mean 8 = .ok (.imul, 1) := sorry
theorem dX3_mean_9 : decode cX3_mean 9 = .ok (.istore_n 1, 1) := sorry
theorem dX3_mean_10 : decode cX3_mean 10 = .ok (.iload_n 1, 1) := sorry
theorem dX3_mean_11 : decode cX3_mean 11 = .ok (.ifCond .ne 7, 3) := sorry
theorem dX3_mean_14 : decode cX3_mean 14 = .ok (.iconst 0, 1) := sorry
theorem dX3_mean_15 : decode cX3_mean 15 = .ok (.goto 9, 3) := sorry
theorem dX3_mean_18 : decode cX3_mean 18 = .ok (.aload_n 0, 1) := sorry
theorem dX3_mean_19 : decode cX3_mean 19 = .ok (.invokevirtual 67, 3) := sorry
theorem dX3_mean_22 : decode cX3_mean 22 = .ok (.iload_n 1, 1) := sorry
theorem dX3_mean_23 : decode cX3_mean 23 = .ok (.idiv, 1) := sorry
theorem dX3_mean_24 : decode cX3_mean 24 = .ok (.ireturn, 1) := sorry
theorem dX3_least_0 : decode cX3_least 0 = .ok (.bipush 99, 2) := sorry
theorem dX3_least_2 : decode cX3_least 2 = .ok (.istore_n 1, 1) := sorry
theorem dX3_least_3 : decode cX3_least 3 = .ok (.iconst 0, 1) := sorry
theorem dX3_least_4 : decode cX3_least 4 = .ok (.istore_n 2, 1) := sorry
theorem dX3_least_5 : decode cX3_least 5 = .ok (.iload_n 2, 1) := sorry
theorem dX3_least_6 : decode cX3_least 6 = .ok (.bipush 16, 2) := sorry
theorem dX3_least_8 : decode cX3_least 8 = .ok (.if_icmp .ge 28, 3) := sorry
theorem dX3_least_11 : decode cX3_least 11 = .ok (.aload_n 0, 1) := sorry
theorem dX3_least_12 : decode cX3_least 12 = .ok (.iload_n 2, 1) := sorry
theorem dX3_least_13 : decode cX3_least 13 = .ok (.invokevirtual 71, 3) := sorry
theorem dX3_least_16 : decode cX3_least 16 = .ok (.ifCond .eq 14, 3) := sorry
theorem dX3_least_19 : decode cX3_least 19 = .ok (.iload_n 1, 1) := sorry
theorem dX3_least_20 : decode cX3_least 20 = .ok (.aload_n 0, 1) := sorry
theorem dX3_least_21 : decode cX3_least 21 = .ok (.getfield 9, 3) := sorry
theorem dX3_least_24 : decode cX3_least 24 = .ok (.iload_n 2, 1) := sorry
theorem dX3_least_25 : decode cX3_least 25 = .ok (.iaload, 1) := sorry
theorem dX3_least_26 : decode cX3_least 26 = .ok (.invokestatic 74, 3) := sorry
theorem dX3_least_29 : decode cX3_least 29 = .ok (.istore_n 1, 1) := sorry
theorem dX3_least_30 : decode cX3_least 30 = .ok (.iinc 2 1, 3) := sorry
theorem dX3_least_33 : decode cX3_least 33 = .ok (.goto (-28), 3) := sorry
theorem dX3_least_36 : decode cX3_least 36 = .ok (.iload_n 1, 1) := sorry
theorem dX3_least_37 : decode cX3_least 37 = .ok (.ireturn, 1) := sorry
theorem dX3_greatest_0 : decode cX3_greatest 0 = .ok (.iconst 0, 1) := sorry
theorem dX3_greatest_1 : decode cX3_greatest 1 = .ok (.istore_n 1, 1) := sorry
theorem dX3_greatest_2 : decode cX3_greatest 2 = .ok (.iconst 0, 1) := sorry
theorem dX3_greatest_3 : decode cX3_greatest 3 = .ok (.istore_n 2, 1) := sorry
theorem dX3_greatest_4 : decode cX3_greatest 4 = .ok (.iload_n 2, 1) := sorry
theorem dX3_greatest_5 : decode cX3_greatest 5 = .ok (.bipush 16, 2) := sorry
theorem dX3_greatest_7 : decode cX3_greatest 7 = .ok (.if_icmp .ge 20, 3) := sorry
theorem dX3_greatest_10 : decode cX3_greatest 10 = .ok (.iload_n 1, 1) := sorry
theorem dX3_greatest_11 : decode cX3_greatest 11 = .ok (.aload_n 0, 1) := sorry
theorem dX3_greatest_12 : decode cX3_greatest 12 = .ok (.getfield 9, 3) := sorry
theorem dX3_greatest_15 : decode cX3_greatest 15 = .ok (.iload_n 2, 1) := sorry
theorem dX3_greatest_16 : decode cX3_greatest 16 = .ok (.iaload, 1) := sorry
theorem dX3_greatest_17 : decode cX3_greatest 17 = .ok (.invokestatic 61, 3) := sorry
theorem dX3_greatest_20 : decode cX3_greatest 20 = .ok (.istore_n 1, 1) := sorry
theorem dX3_greatest_21 : decode cX3_greatest 21 = .ok (.iinc 2 1, 3) := sorry
theorem dX3_greatest_24 : decode cX3_greatest 24 = .ok (.goto (-20), 3) := sorry
theorem dX3_greatest_27 : decode cX3_greatest 27 = .ok (.iload_n 1, 1) := sorry
theorem dX3_greatest_28 : decode cX3_greatest 28 = .ok (.ireturn, 1) := sorry
theorem dX3_imprint_0 : decode cX3_imprint 0 = .ok (.iconst 0, 1) := sorry
theorem dX3_imprint_1 : decode cX3_imprint 1 = .ok (.istore_n 2, 1) := sorry
theorem dX3_imprint_2 : decode cX3_imprint 2 = .ok (.iconst 0, 1) := sorry
theorem dX3_imprint_3 : decode cX3_imprint 3 = .ok (.istore_n 3, 1) := sorry
theorem dX3_imprint_4 : decode cX3_imprint 4 = .ok (.iconst 0, 1) := sorry
theorem dX3_imprint_5 : decode cX3_imprint 5 = .ok (.istore 4, 2) := sorry
theorem dX3_imprint_7 : decode cX3_imprint 7 = .ok (.iload 4, 2) := sorry
theorem dX3_imprint_9 : decode cX3_imprint 9 = .ok (.bipush 16, 2) := sorry
theorem dX3_imprint_11 : decode cX3_imprint 11 = .ok (.if_icmp .ge 74, 3) := sorry
theorem dX3_imprint_14 : decode cX3_imprint 14 = .ok (.iload_n 3, 1) := sorry
theorem dX3_imprint_15 : decode cX3_imprint 15 = .ok (.bipush 8, 2) := sorry
theorem dX3_imprint_17 : decode cX3_imprint 17 = .ok (.if_icmp .ge 68, 3) := sorry
theorem dX3_imprint_20 : decode cX3_imprint 20 = .ok (.aload_n 0, 1) := sorry
theorem dX3_imprint_21 : decode cX3_imprint 21 = .ok (.iload 4, 2) := sorry
theorem dX3_imprint_23 : decode cX3_imprint 23 = .ok (.invokevirtual 71, 3) := sorry
theorem dX3_imprint_26 : decode cX3_imprint 26 = .ok (.ifCond .ne 6, 3) := sorry
theorem dX3_imprint_29 : decode cX3_imprint 29 = .ok (.goto 50, 3) := sorry
theorem dX3_imprint_32 : decode cX3_imprint 32 = .ok (.aload_n 0, 1) := sorry
theorem dX3_imprint_33 : decode cX3_imprint 33 = .ok (.iload 4, 2) := sorry
theorem dX3_imprint_35 : decode cX3_imprint 35 = .ok (.iload_n 1, 1) := sorry
theorem dX3_imprint_36 : decode cX3_imprint 36 = .ok (.iload_n 3, 1) := sorry
theorem dX3_imprint_37 : decode cX3_imprint 37 = .ok (.invokevirtual 77, 3) := sorry
theorem dX3_imprint_40 : decode cX3_imprint 40 = .ok (.ifCond .ne 36, 3) := sorry
theorem dX3_imprint_43 : decode cX3_imprint 43 = .ok (.aload_n 0, 1) := sorry
theorem dX3_imprint_44 : decode cX3_imprint 44 = .ok (.getfield 9, 3) := sorry
theorem dX3_imprint_47 : decode cX3_imprint 47 = .ok (.iload 4, 2) := sorry
theorem dX3_imprint_49 : decode cX3_imprint 49 = .ok (.aload_n 0, 1) := sorry
theorem dX3_imprint_50 : decode cX3_imprint 50 = .ok (.getfield 9, 3) := sorry
theorem dX3_imprint_53 : decode cX3_imprint 53 = .ok (.iload 4, 2) := sorry
theorem dX3_imprint_55 : decode cX3_imprint 55 = .ok (.iaload, 1) := sorry
theorem dX3_imprint_56 : decode cX3_imprint 56 = .ok (.ifCond .ne 7, 3) := sorry
theorem dX3_imprint_59 : decode cX3_imprint 59 = .ok (.iconst 1, 1) := sorry
theorem dX3_imprint_60 : decode cX3_imprint 60 = .ok (.goto 12, 3) := sorry
theorem dX3_imprint_63 : decode cX3_imprint 63 = .ok (.aload_n 0, 1) := sorry
theorem dX3_imprint_64 : decode cX3_imprint 64 = .ok (.getfield 9, 3) := sorry
theorem dX3_imprint_67 : decode cX3_imprint 67 = .ok (.iload 4, 2) := sorry
theorem dX3_imprint_69 : decode cX3_imprint 69 = .ok (.iaload, 1) := sorry
theorem dX3_imprint_70 : decode cX3_imprint 70 = .ok (.iconst 1, 1) := sorry
theorem dX3_imprint_71 : decode cX3_imprint 71 = .ok (.isub, 1) := sorry
theorem dX3_imprint_72 : decode cX3_imprint 72 = .ok (.iastore, 1) := sorry
theorem dX3_imprint_73 : decode cX3_imprint 73 = .ok (.iinc 2 1, 3) := sorry
theorem dX3_imprint_76 : decode cX3_imprint 76 = .ok (.iinc 3 1, 3) := sorry
theorem dX3_imprint_79 : decode cX3_imprint 79 = .ok (.iinc 4 1, 3) := sorry
theorem dX3_imprint_82 : decode cX3_imprint 82 = .ok (.goto (-75), 3) := sorry
theorem dX3_imprint_85 : decode cX3_imprint 85 = .ok (.iload_n 2, 1) := sorry
theorem dX3_imprint_86 : decode cX3_imprint 86 = .ok (.ireturn, 1) := sorry
theorem dX3_agreement_0 : decode cX3_agreement 0 = .ok (.iconst 0, 1) := sorry
theorem dX3_agreement_1 : decode cX3_agreement 1 = .ok (.istore_n 2, 1) := sorry
theorem dX3_agreement_2 : decode cX3_agreement 2 = .ok (.iconst 0, 1) := sorry
theorem dX3_agreement_3 : decode cX3_agreement 3 = .ok (.istore_n 3, 1) := sorry
theorem dX3_agreement_4 : decode cX3_agreement 4 = .ok (.iconst 0, 1) := sorry
theorem dX3_agreement_5 : decode cX3_agreement 5 = .ok (.istore 4, 2) := sorry
theorem dX3_agreement_7 : decode cX3_agreement 7 = .ok (.iload 4, 2) := sorry
theorem dX3_agreement_9 : decode cX3_agreement 9 = .ok (.bipush 16, 2) := sorry
theorem dX3_agreement_11 : decode cX3_agreement 11 = .ok (.if_icmp .ge 44, 3) := sorry
theorem dX3_agreement_14 : decode cX3_agreement 14 = .ok (.iload_n 3, 1) := sorry
theorem dX3_agreement_15 : decode cX3_agreement 15 = .ok (.bipush 8, 2) := sorry
theorem dX3_agreement_17 : decode cX3_agreement 17 = .ok (.if_icmp .ge 38, 3) := sorry
theorem dX3_agreement_20 : decode cX3_agreement 20 = .ok (.aload_n 0, 1) := sorry
theorem dX3_agreement_21 : decode cX3_agreement 21 = .ok (.iload 4, 2) := sorry
theorem dX3_agreement_23 : decode cX3_agreement 23 = .ok (.invokevirtual 71, 3) := sorry
theorem dX3_agreement_26 : decode cX3_agreement 26 = .ok (.ifCond .ne 6, 3) := sorry
theorem dX3_agreement_29 : decode cX3_agreement 29 = .ok (.goto 20, 3) := sorry
theorem dX3_agreement_32 : decode cX3_agreement 32 = .ok (.aload_n 0, 1) := sorry
theorem dX3_agreement_33 : decode cX3_agreement 33 = .ok (.iload 4, 2) := sorry
theorem dX3_agreement_35 : decode cX3_agreement 35 = .ok (.iload_n 1, 1) := sorry
theorem dX3_agreement_36 : decode cX3_agreement 36 = .ok (.iload_n 3, 1) := sorry
theorem dX3_agreement_37 : decode cX3_agreement 37 = .ok (.invokevirtual 77, 3) := sorry
theorem dX3_agreement_40 : decode cX3_agreement 40 = .ok (.ifCond .eq 6, 3) := sorry
theorem dX3_agreement_43 : decode cX3_agreement 43 = .ok (.iinc 2 1, 3) := sorry
theorem dX3_agreement_46 : decode cX3_agreement 46 = .ok (.iinc 3 1, 3) := sorry
theorem dX3_agreement_49 : decode cX3_agreement 49 = .ok (.iinc 4 1, 3) := sorry
theorem dX3_agreement_52 : decode cX3_agreement 52 = .ok (.goto (-45), 3) := sorry
theorem dX3_agreement_55 : decode cX3_agreement 55 = .ok (.iload_n 2, 1) := sorry
theorem dX3_agreement_56 : decode cX3_agreement 56 = .ok (.ireturn, 1) := sorry
theorem dX3_tellsBit_0 : decode cX3_tellsBit 0 = .ok (.aload_n 0, 1) := sorry
theorem dX3_tellsBit_1 : decode cX3_tellsBit 1 = .ok (.getfield 9, 3) := sorry
theorem dX3_tellsBit_4 : decode cX3_tellsBit 4 = .ok (.iload_n 1, 1) := sorry
theorem dX3_tellsBit_5 : decode cX3_tellsBit 5 = .ok (.iaload, 1) := sorry
theorem dX3_tellsBit_6 : decode cX3_tellsBit 6 = .ok (.iconst 1, 1) := sorry
theorem dX3_tellsBit_7 : decode cX3_tellsBit 7 = .ok (.iand, 1) := sorry
theorem dX3_tellsBit_8 : decode cX3_tellsBit 8 = .ok (.iload_n 2, 1) := sorry
theorem dX3_tellsBit_9 : decode cX3_tellsBit 9 = .ok (.iload_n 3, 1) := sorry
theorem dX3_tellsBit_10 : decode cX3_tellsBit 10 = .ok (.ishr, 1) := sorry
theorem dX3_tellsBit_11 : decode cX3_tellsBit 11 = .ok (.iconst 1, 1) := sorry
theorem dX3_tellsBit_12 : decode cX3_tellsBit 12 = .ok (.iand, 1) := sorry
theorem dX3_tellsBit_13 : decode cX3_tellsBit 13 = .ok (.if_icmp .ne 7, 3) := sorry
theorem dX3_tellsBit_16 : decode cX3_tellsBit 16 = .ok (.iconst 1, 1) := sorry
theorem dX3_tellsBit_17 : decode cX3_tellsBit 17 = .ok (.goto 4, 3) := sorry
theorem dX3_tellsBit_20 : decode cX3_tellsBit 20 = .ok (.iconst 0, 1) := sorry
theorem dX3_tellsBit_21 : decode cX3_tellsBit 21 = .ok (.ireturn, 1) := sorry
theorem dX4_init_0 : decode cX4_init 0 = .ok (.aload_n 0, 1) := sorry
theorem dX4_init_1 : decode cX4_init 1 = .ok (.invokespecial 3, 3) := sorry
theorem dX4_init_4 : decode cX4_init 4 = .ok (.aload_n 0, 1) := sorry
theorem dX4_init_5 : decode cX4_init 5 = .ok (.iconst 5, 1) := sorry
theorem dX4_init_6 : decode cX4_init 6 = .ok (.newarray .int, 2) := sorry
theorem dX4_init_8 : decode cX4_init 8 = .ok (.putfield 9, 3) := sorry
theorem dX4_init_11 : decode cX4_init 11 = .ok (.aload_n 0, 1) := sorry
theorem dX4_init_12 : decode cX4_init 12 = .ok (.bipush 60, 2) := sorry
theorem dX4_init_14 : decode cX4_init 14 = .ok (.newarray .int, 2) := sorry
theorem dX4_init_16 : decode cX4_init 16 = .ok (.putfield 15, 3) := sorry
theorem dX4_init_19 : decode cX4_init 19 = .ok (.return_, 1) := sorry
theorem dX4_keptActs_0 : decode cX4_keptActs 0 = .ok (.aload_n 0, 1) := sorry
theorem dX4_keptActs_1 : decode cX4_keptActs 1 = .ok (.getfield 9, 3) := sorry
theorem dX4_keptActs_4 : decode cX4_keptActs 4 = .ok (.aload_n 0, 1) := sorry
theorem dX4_keptActs_5 : decode cX4_keptActs 5 = .ok (.getfield 18, 3) := sorry
theorem dX4_keptActs_8 : decode cX4_keptActs 8 = .ok (.invokestatic 22, 3) := sorry
theorem dX4_keptActs_11 : decode cX4_keptActs 11 = .ok (.areturn, 1) := sorry
theorem dX4_read_0 : decode cX4_read 0 = .ok (.aload_n 1, 1) := sorry
theorem dX4_read_1 : decode cX4_read 1 = .ok (.getfield 28, 3) := sorry
theorem dX4_read_4 : decode cX4_read 4 = .ok (.iload_n 2, 1) := sorry
theorem dX4_read_5 : decode cX4_read 5 = .ok (.aload_n 0, 1) := sorry
theorem dX4_read_6 : decode cX4_read 6 = .ok (.getfield 15, 3) := sorry
theorem dX4_read_9 : decode cX4_read 9 = .ok (.iconst 0, 1) := sorry
theorem dX4_read_10 : decode cX4_read 10 = .ok (.iload_n 3, 1) := sorry
theorem dX4_read_11 : decode cX4_read 11 = .ok (.invokestatic 33, 3) := sorry
theorem dX4_read_14 : decode cX4_read 14 = .ok (.aload_n 0, 1) := sorry
theorem dX4_read_15 : decode cX4_read 15 = .ok (.iload_n 3, 1) := sorry
theorem dX4_read_16 : decode cX4_read 16 = .ok (.putfield 39, 3) := sorry
theorem dX4_read_19 : decode cX4_read 19 = .ok (.aload_n 0, 1) := sorry
theorem dX4_read_20 : decode cX4_read 20 = .ok (.iconst 0, 1) := sorry
theorem dX4_read_21 : decode cX4_read 21 = .ok (.putfield 42, 3) := sorry
theorem dX4_read_24 : decode cX4_read 24 = .ok (.aload_n 0, 1) := sorry
theorem dX4_read_25 : decode cX4_read 25 = .ok (.iconst 0, 1) := sorry
theorem dX4_read_26 : decode cX4_read 26 = .ok (.putfield 18, 3) := sorry
theorem dX4_read_29 : decode cX4_read 29 = .ok (.aload_n 0, 1) := sorry
theorem dX4_read_30 : decode cX4_read 30 = .ok (.getfield 18, 3) := sorry
theorem dX4_read_33 : decode cX4_read 33 = .ok (.iconst 5, 1) := sorry
theorem dX4_read_34 : decode cX4_read 34 = .ok (.if_icmp .ge 124, 3) := sorry
theorem dX4_read_37 : decode cX4_read 37 = .ok (.aload_n 0, 1) := sorry
theorem dX4_read_38 : decode cX4_read 38 = .ok (.invokevirtual 45, 3) := sorry
theorem dX4_read_41 : decode cX4_read 41 = .ok (.istore 4, 2) := sorry
theorem dX4_read_43 : decode cX4_read 43 = .ok (.iload 4, 2) := sorry
theorem dX4_read_45 : decode cX4_read 45 = .ok (.invokestatic 49, 3) := sorry
theorem dX4_read_48 : decode cX4_read 48 = .ok (.ifCond .ne 8, 3) := sorry
theorem dX4_read_51 : decode cX4_read 51 = .ok (.aload_n 0, 1) := sorry
theorem dX4_read_52 : decode cX4_read 52 = .ok (.getfield 42, 3) := sorry
theorem dX4_read_55 : decode cX4_read 55 = .ok (.ireturn, 1) := sorry
theorem dX4_read_56 : decode cX4_read 56 = .ok (.aload_n 0, 1) := sorry
theorem dX4_read_57 : decode cX4_read 57 = .ok (.dup, 1) := sorry
theorem dX4_read_58 : decode cX4_read 58 = .ok (.getfield 42, 3) := sorry
theorem dX4_read_61 : decode cX4_read 61 = .ok (.iconst 1, 1) := sorry
theorem dX4_read_62 : decode cX4_read 62 = .ok (.iadd, 1) := sorry
theorem dX4_read_63 : decode cX4_read 63 = .ok (.putfield 42, 3) := sorry
theorem dX4_read_66 : decode cX4_read 66 = .ok (.aload_n 0, 1) := sorry
theorem dX4_read_67 : decode cX4_read 67 = .ok (.iload 4, 2) := sorry
theorem dX4_read_69 : decode cX4_read 69 = .ok (.invokevirtual 53, 3) := sorry
theorem dX4_read_72 : decode cX4_read 72 = .ok (.ifCond .ne 8, 3) := sorry
theorem dX4_read_75 : decode cX4_read 75 = .ok (.aload_n 0, 1) := sorry
theorem dX4_read_76 : decode cX4_read 76 = .ok (.getfield 42, 3) := sorry
theorem dX4_read_79 : decode cX4_read 79 = .ok (.ireturn, 1) := sorry
theorem dX4_read_80 : decode cX4_read 80 = .ok (.aload_n 0, 1) := sorry
theorem dX4_read_81 : decode cX4_read 81 = .ok (.getfield 9, 3) := sorry
theorem dX4_read_84 : decode cX4_read 84 = .ok (.aload_n 0, 1) := sorry
theorem dX4_read_85 : decode cX4_read 85 = .ok (.getfield 18, 3) := sorry
theorem dX4_read_88 : decode cX4_read 88 = .ok (.iload 4, 2) := sorry
theorem dX4_read_90 : decode cX4_read 90 = .ok (.sipush 10000, 3) := sorry
theorem dX4_read_93 : decode cX4_read 93 = .ok (.imul, 1) := sorry
theorem dX4_read_94 : decode cX4_read 94 = .ok (.aload_n 0, 1) := sorry
theorem dX4_read_95 : decode cX4_read 95 = .ok (.getfield 56, 3) := sorry
theorem dX4_read_98 : decode cX4_read 98 = .ok (.iadd, 1) := sorry
theorem dX4_read_99 : decode cX4_read 99 = .ok (.iastore, 1) := sorry
theorem dX4_read_100 : decode cX4_read 100 = .ok (.aload_n 0, 1) := sorry
theorem dX4_read_101 : decode cX4_read 101 = .ok (.dup, 1) := sorry
theorem dX4_read_102 : decode cX4_read 102 = .ok (.getfield 18, 3) := sorry
theorem dX4_read_105 : decode cX4_read 105 = .ok (.iconst 1, 1) := sorry
theorem dX4_read_106 : decode cX4_read 106 = .ok (.iadd, 1) := sorry
theorem dX4_read_107 : decode cX4_read 107 = .ok (.putfield 18, 3) := sorry
theorem dX4_read_110 : decode cX4_read 110 = .ok (.aload_n 0, 1) := sorry
theorem dX4_read_111 : decode cX4_read 111 = .ok (.getfield 42, 3) := sorry
theorem dX4_read_114 : decode cX4_read 114 = .ok (.aload_n 0, 1) := sorry
theorem dX4_read_115 : decode cX4_read 115 = .ok (.getfield 39, 3) := sorry
theorem dX4_read_118 : decode cX4_read 118 = .ok (.if_icmp .lt 5, 3) := sorry
theorem dX4_read_121 : decode cX4_read 121 = .ok (.iconst (-1), 1) := sorry
theorem dX4_read_122 : decode cX4_read 122 = .ok (.ireturn, 1) := sorry
theorem dX4_read_123 : decode cX4_read 123 = .ok (.aload_n 0, 1) := sorry
theorem dX4_read_124 : decode cX4_read 124 = .ok (.invokevirtual 45, 3) := sorry
theorem dX4_read_127 : decode cX4_read 127 = .ok (.bipush 59, 2) := sorry
theorem dX4_read_129 : decode cX4_read 129 = .ok (.if_icmp .ne 11, 3) := sorry
theorem dX4_read_132 : decode cX4_read 132 = .ok (.aload_n 0, 1) := sorry
theorem dX4_read_133 : decode cX4_read 133 = .ok (.getfield 18, 3) := sorry
theorem dX4_read_136 : decode cX4_read 136 = .ok (.iconst 5, 1) := sorry
theorem dX4_read_137 : decode cX4_read 137 = .ok (.if_icmp .lt 8, 3) := sorry
theorem dX4_read_140 : decode cX4_read 140 = .ok (.aload_n 0, 1) := sorry
theorem dX4_read_141 : decode cX4_read 141 = .ok (.getfield 42, 3) := sorry
theorem dX4_read_144 : decode cX4_read 144 = .ok (.ireturn, 1) := sorry
theorem dX4_read_145 : decode cX4_read 145 = .ok (.aload_n 0, 1) := sorry
theorem dX4_read_146 : decode cX4_read 146 = .ok (.dup, 1) := sorry
theorem dX4_read_147 : decode cX4_read 147 = .ok (.getfield 42, 3) := sorry
theorem dX4_read_150 : decode cX4_read 150 = .ok (.iconst 1, 1) := sorry
theorem dX4_read_151 : decode cX4_read 151 = .ok (.iadd, 1) := sorry
theorem dX4_read_152 : decode cX4_read 152 = .ok (.putfield 42, 3) := sorry
theorem dX4_read_155 : decode cX4_read 155 = .ok (.goto (-126), 3) := sorry
theorem dX4_read_158 : decode cX4_read 158 = .ok (.aload_n 0, 1) := sorry
theorem dX4_read_159 : decode cX4_read 159 = .ok (.getfield 42, 3) := sorry
theorem dX4_read_162 : decode cX4_read 162 = .ok (.ireturn, 1) := sorry
theorem dX4_code_0 : decode cX4_code 0 = .ok (.aload_n 0, 1) := sorry
theorem dX4_code_1 : decode cX4_code 1 = .ok (.getfield 42, 3) := sorry
theorem dX4_code_4 : decode cX4_code 4 = .ok (.aload_n 0, 1) := sorry
theorem dX4_code_5 : decode cX4_code 5 = .ok (.getfield 39, 3) := sorry
theorem dX4_code_8 : decode cX4_code 8 = .ok (.if_icmp .ge 15, 3) := sorry
theorem dX4_code_11 : decode cX4_code 11 = .ok (.aload_n 0, 1) := sorry
theorem dX4_code_12 : decode cX4_code 12 = .ok (.getfield 15, 3) := sorry
theorem dX4_code_15 : decode cX4_code 15 = .ok (.aload_n 0, 1) := sorry
theorem dX4_code_16 : decode cX4_code 16 = .ok (.getfield 42, 3) := sorry
theorem dX4_code_19 : decode cX4_code 19 = .ok (.iaload, 1) := sorry
theorem dX4_code_20 : decode cX4_code 20 = .ok (.goto 4, 3) := sorry
theorem dX4_code_23 : decode cX4_code 23 = .ok (.iconst 0, 1) := sorry
theorem dX4_code_24 : decode cX4_code 24 = .ok (.ireturn, 1) := sorry
theorem dX4_isKind_0 : decode cX4_isKind 0 = .ok (.iload_n 0, 1) := sorry
theorem dX4_isKind_1 : decode cX4_isKind 1 = .ok (.bipush 99, 2) := sorry
theorem dX4_isKind_3 : decode cX4_isKind 3 = .ok (.if_icmp .eq 33, 3) := sorry
theorem dX4_isKind_6 : decode cX4_isKind 6 = .ok (.iload_n 0, 1) := sorry
theorem dX4_isKind_7 : decode cX4_isKind 7 = .ok (.bipush 98, 2) := sorry
theorem dX4_isKind_9 : decode cX4_isKind 9 = .ok (.if_icmp .eq 27, 3) := sorry
theorem dX4_isKind_12 : decode cX4_isKind 12 = .ok (.iload_n 0, 1) := sorry
theorem dX4_isKind_13 : decode cX4_isKind 13 = .ok (.bipush 116, 2) := sorry
theorem dX4_isKind_15 : decode cX4_isKind 15 = .ok (.if_icmp .eq 21, 3) := sorry
theorem dX4_isKind_18 : decode cX4_isKind 18 = .ok (.iload_n 0, 1) := sorry
theorem dX4_isKind_19 : decode cX4_isKind 19 = .ok (.bipush 108, 2) := sorry
theorem dX4_isKind_21 : decode cX4_isKind 21 = .ok (.if_icmp .eq 15, 3) := sorry
theorem dX4_isKind_24 : decode cX4_isKind 24 = .ok (.iload_n 0, 1) := sorry
theorem dX4_isKind_25 : decode cX4_isKind 25 = .ok (.bipush 109, 2) := sorry
theorem dX4_isKind_27 : decode cX4_isKind 27 = .ok (.if_icmp .eq 9, 3) := sorry
theorem dX4_isKind_30 : decode cX4_isKind 30 = .ok (.iload_n 0, 1) := sorry
theorem dX4_isKind_31 : decode cX4_isKind 31 = .ok (.bipush 113, 2) := sorry
theorem dX4_isKind_33 : decode cX4_isKind 33 = .ok (.if_icmp .ne 7, 3) := sorry
theorem dX4_isKind_36 : decode cX4_isKind 36 = .ok (.iconst 1, 1) := sorry
theorem dX4_isKind_37 : decode cX4_isKind 37 = .ok (.goto 4, 3) := sorry
theorem dX4_isKind_40 : decode cX4_isKind 40 = .ok (.iconst 0, 1) := sorry
theorem dX4_isKind_41 : decode cX4_isKind 41 = .ok (.ireturn, 1) := sorry
theorem dX4_readNumber_0 : decode cX4_readNumber 0 = .ok (.aload_n 0, 1) := sorry
theorem dX4_readNumber_1 : decode cX4_readNumber 1 = .ok (.iconst 0, 1) := sorry
theorem dX4_readNumber_2 : decode cX4_readNumber 2 = .ok (.putfield 56, 3) := sorry
theorem dX4_readNumber_5 : decode cX4_readNumber 5 = .ok (.iload_n 1, 1) := sorry
theorem dX4_readNumber_6 : decode cX4_readNumber 6 = .ok (.lookupswitch 94 #[(98, 50), (99, 50), (108, 89), (109, 89), (113, 65)], 50) := sorry
theorem dX4_readNumber_56 : decode cX4_readNumber 56 = .ok (.aload_n 0, 1) := sorry
theorem dX4_readNumber_57 : decode cX4_readNumber 57 = .ok (.iconst 4, 1) := sorry
theorem dX4_readNumber_58 : decode cX4_readNumber 58 = .ok (.invokevirtual 59, 3) := sorry
theorem dX4_readNumber_61 : decode cX4_readNumber 61 = .ok (.iconst 4, 1) := sorry
theorem dX4_readNumber_62 : decode cX4_readNumber 62 = .ok (.if_icmp .ne 7, 3) := sorry
theorem dX4_readNumber_65 : decode cX4_readNumber 65 = .ok (.iconst 1, 1) := sorry
theorem dX4_readNumber_66 : decode cX4_readNumber 66 = .ok (.goto 4, 3) := sorry
theorem dX4_readNumber_69 : decode cX4_readNumber 69 = .ok (.iconst 0, 1) := sorry
theorem dX4_readNumber_70 : decode cX4_readNumber 70 = .ok (.ireturn, 1) := sorry
theorem dX4_readNumber_71 : decode cX4_readNumber 71 = .ok (.aload_n 0, 1) := sorry
theorem dX4_readNumber_72 : decode cX4_readNumber 72 = .ok (.invokevirtual 45, 3) := sorry
theorem dX4_readNumber_75 : decode cX4_readNumber 75 = .ok (.bipush 50, 2) := sorry
theorem dX4_readNumber_77 : decode cX4_readNumber 77 = .ok (.if_icmp .lt 16, 3) := sorry
theorem dX4_readNumber_80 : decode cX4_readNumber 80 = .ok (.aload_n 0, 1) := sorry
theorem dX4_readNumber_81 : decode cX4_readNumber 81 = .ok (.iconst 1, 1) := sorry
theorem dX4_readNumber_82 : decode cX4_readNumber 82 = .ok (.invokevirtual 59, 3) := sorry
theorem dX4_readNumber_85 : decode cX4_readNumber 85 = .ok (.iconst 1, 1) := sorry
theorem dX4_readNumber_86 : decode cX4_readNumber 86 = .ok (.if_icmp .ne 7, 3) := sorry
theorem dX4_readNumber_89 : decode cX4_readNumber 89 = .ok (.iconst 1, 1) := sorry
theorem dX4_readNumber_90 : decode cX4_readNumber 90 = .ok (.goto 4, 3) := sorry
theorem dX4_readNumber_93 : decode cX4_readNumber 93 = .ok (.iconst 0, 1) := sorry
theorem dX4_readNumber_94 : decode cX4_readNumber 94 = .ok (.ireturn, 1) := sorry
theorem dX4_readNumber_95 : decode cX4_readNumber 95 = .ok (.aload_n 0, 1) := sorry
theorem dX4_readNumber_96 : decode cX4_readNumber 96 = .ok (.invokevirtual 63, 3) := sorry
theorem dX4_readNumber_99 : decode cX4_readNumber 99 = .ok (.ireturn, 1) := sorry
theorem dX4_readNumber_100 : decode cX4_readNumber 100 = .ok (.iconst 1, 1) := sorry
theorem dX4_readNumber_101 : decode cX4_readNumber 101 = .ok (.ireturn, 1) := sorry
theorem dX4_readShift_0 : decode cX4_readShift 0 = .ok (.aload_n 0, 1) := sorry
theorem dX4_readShift_1 : decode cX4_readShift 1 = .ok (.iconst 2, 1) := sorry
theorem dX4_readShift_2 : decode cX4_readShift 2 = .ok (.invokevirtual 59, 3) := sorry
theorem dX4_readShift_5 : decode cX4_readShift 5 = .ok (.istore_n 1, 1) := sorry
theorem dX4_readShift_6 : decode cX4_readShift 6 = .ok (.aload_n 0, 1) := sorry
theorem dX4_readShift_7 : decode cX4_readShift 7 = .ok (.getfield 56, 3) := sorry
theorem dX4_readShift_10 : decode cX4_readShift 10 = .ok (.ifCond .ne 13, 3) := sorry
theorem dX4_readShift_13 : decode cX4_readShift 13 = .ok (.aload_n 0, 1) := sorry
theorem dX4_readShift_14 : decode cX4_readShift 14 = .ok (.dup, 1) := sorry
theorem dX4_readShift_15 : decode cX4_readShift 15 = .ok (.getfield 42, 3) := sorry
theorem dX4_readShift_18 : decode cX4_readShift 18 = .ok (.iload_n 1, 1) := sorry
theorem dX4_readShift_19 : decode cX4_readShift 19 = .ok (.isub, 1) := sorry
theorem dX4_readShift_20 : decode cX4_readShift 20 = .ok (.putfield 42, 3) := sorry
theorem dX4_readShift_23 : decode cX4_readShift 23 = .ok (.aload_n 0, 1) := sorry
theorem dX4_readShift_24 : decode cX4_readShift 24 = .ok (.getfield 56, 3) := sorry
theorem dX4_readShift_27 : decode cX4_readShift 27 = .ok (.ifCond .le 7, 3) := sorry
theorem dX4_readShift_30 : decode cX4_readShift 30 = .ok (.iconst 1, 1) := sorry
theorem dX4_readShift_31 : decode cX4_readShift 31 = .ok (.goto 4, 3) := sorry
theorem dX4_readShift_34 : decode cX4_readShift 34 = .ok (.iconst 0, 1) := sorry
theorem dX4_readShift_35 : decode cX4_readShift 35 = .ok (.ireturn, 1) := sorry
theorem dX4_readDigits_0 : decode cX4_readDigits 0 = .ok (.iconst 0, 1) := sorry
theorem dX4_readDigits_1 : decode cX4_readDigits 1 = .ok (.istore_n 2, 1) := sorry
theorem dX4_readDigits_2 : decode cX4_readDigits 2 = .ok (.iload_n 2, 1) := sorry
theorem dX4_readDigits_3 : decode cX4_readDigits 3 = .ok (.iload_n 1, 1) := sorry
theorem dX4_readDigits_4 : decode cX4_readDigits 4 = .ok (.if_icmp .ge 56, 3) := sorry
theorem dX4_readDigits_7 : decode cX4_readDigits 7 = .ok (.aload_n 0, 1) := sorry
theorem dX4_readDigits_8 : decode cX4_readDigits 8 = .ok (.invokevirtual 45, 3) := sorry
theorem dX4_readDigits_11 : decode cX4_readDigits 11 = .ok (.bipush 48, 2) := sorry
theorem dX4_readDigits_13 : decode cX4_readDigits 13 = .ok (.if_icmp .lt 47, 3) := sorry
theorem dX4_readDigits_16 : decode cX4_readDigits 16 = .ok (.aload_n 0, 1) := sorry
theorem dX4_readDigits_17 : decode cX4_readDigits 17 = .ok (.invokevirtual 45, 3) := sorry
theorem dX4_readDigits_20 : decode cX4_readDigits 20 = .ok (.bipush 57, 2) := sorry
theorem dX4_readDigits_22 : decode cX4_readDigits 22 = .ok (.if_icmp .gt 38, 3) := sorry
theorem dX4_readDigits_25 : decode cX4_readDigits 25 = .ok (.aload_n 0, 1) := sorry
theorem dX4_readDigits_26 : decode cX4_readDigits 26 = .ok (.bipush 10, 2) := sorry
theorem dX4_readDigits_28 : decode cX4_readDigits 28 = .ok (.aload_n 0, 1) := sorry
theorem dX4_readDigits_29 : decode cX4_readDigits 29 = .ok (.getfield 56, 3) := sorry
theorem dX4_readDigits_32 : decode cX4_readDigits 32 = .ok (.imul, 1) := sorry
theorem dX4_readDigits_33 : decode cX4_readDigits 33 = .ok (.aload_n 0, 1) := sorry
theorem dX4_readDigits_34 : decode cX4_readDigits 34 = .ok (.invokevirtual 45, 3) := sorry
theorem dX4_readDigits_37 : decode cX4_readDigits 37 = .ok (.iadd, 1) := sorry
theorem dX4_readDigits_38 : decode cX4_readDigits 38 = .ok (.bipush 48, 2) := sorry
theorem dX4_readDigits_40 : decode cX4_readDigits 40 = .ok (.isub, 1) := sorry
theorem dX4_readDigits_41 : decode cX4_readDigits 41 = .ok (.putfield 56, 3) := sorry
theorem dX4_readDigits_44 : decode cX4_readDigits 44 = .ok (.aload_n 0, 1) := sorry
theorem dX4_readDigits_45 : decode cX4_readDigits 45 = .ok (.dup, 1) := sorry
theorem dX4_readDigits_46 : decode cX4_readDigits 46 = .ok (.getfield 42, 3) := sorry
theorem dX4_readDigits_49 : decode cX4_readDigits 49 = .ok (.iconst 1, 1) := sorry
theorem dX4_readDigits_50 : decode cX4_readDigits 50 = .ok (.iadd, 1) := sorry
theorem dX4_readDigits_51 : decode cX4_readDigits 51 = .ok (.putfield 42, 3) := sorry
theorem dX4_readDigits_54 : decode cX4_readDigits 54 = .ok (.iinc 2 1, 3) := sorry
theorem dX4_readDigits_57 : decode cX4_readDigits 57 = .ok (.goto (-55), 3) := sorry
theorem dX4_readDigits_60 : decode cX4_readDigits 60 = .ok (.iload_n 2, 1) := sorry
theorem dX4_readDigits_61 : decode cX4_readDigits 61 = .ok (.ireturn, 1) := sorry
theorem dX5_init_0 : decode cX5_init 0 = .ok (.aload_n 0, 1) := sorry
theorem dX5_init_1 : decode cX5_init 1 = .ok (.invokespecial 3, 3) := sorry
theorem dX5_init_4 : decode cX5_init 4 = .ok (.aload_n 0, 1) := sorry
theorem dX5_init_5 : decode cX5_init 5 = .ok (.bipush 60, 2) := sorry
theorem dX5_init_7 : decode cX5_init 7 = .ok (.newarray .int, 2) := sorry
theorem dX5_init_9 : decode cX5_init 9 = .ok (.putfield 9, 3) := sorry
theorem dX5_init_12 : decode cX5_init 12 = .ok (.return_, 1) := sorry
theorem dX5_renew_0 : decode cX5_renew 0 = .ok (.aload_n 0, 1) := sorry
theorem dX5_renew_1 : decode cX5_renew 1 = .ok (.iconst 1, 1) := sorry
theorem dX5_renew_2 : decode cX5_renew 2 = .ok (.putfield 15, 3) := sorry
theorem dX5_renew_5 : decode cX5_renew 5 = .ok (.aload_n 0, 1) := sorry
theorem dX5_renew_6 : decode cX5_renew 6 = .ok (.iload_n 1, 1) := sorry
theorem dX5_renew_7 : decode cX5_renew 7 = .ok (.putfield 19, 3) := sorry
theorem dX5_renew_10 : decode cX5_renew 10 = .ok (.aload_n 0, 1) := sorry
theorem dX5_renew_11 : decode cX5_renew 11 = .ok (.iload_n 2, 1) := sorry
theorem dX5_renew_12 : decode cX5_renew 12 = .ok (.putfield 23, 3) := sorry
theorem dX5_renew_15 : decode cX5_renew 15 = .ok (.aload_n 0, 1) := sorry
theorem dX5_renew_16 : decode cX5_renew 16 = .ok (.getfield 9, 3) := sorry
theorem dX5_renew_19 : decode cX5_renew 19 = .ok (.iconst 0, 1) := sorry
theorem dX5_renew_20 : decode cX5_renew 20 = .ok (.invokestatic 26, 3) := sorry
theorem dX5_renew_23 : decode cX5_renew 23 = .ok (.return_, 1) := sorry
theorem dX5_faultOf_0 : decode cX5_faultOf 0 = .ok (.aload_n 0, 1) := sorry
theorem dX5_faultOf_1 : decode cX5_faultOf 1 = .ok (.getfield 15, 3) := sorry
theorem dX5_faultOf_4 : decode cX5_faultOf 4 = .ok (.ifCond .ne 5, 3) := sorry
theorem dX5_faultOf_7 : decode cX5_faultOf 7 = .ok (.iconst 1, 1) := sorry
theorem dX5_faultOf_8 : decode cX5_faultOf 8 = .ok (.ireturn, 1) := sorry
theorem dX5_faultOf_9 : decode cX5_faultOf 9 = .ok (.aload_n 0, 1) := sorry
theorem dX5_faultOf_10 : decode cX5_faultOf 10 = .ok (.getfield 19, 3) := sorry
theorem dX5_faultOf_13 : decode cX5_faultOf 13 = .ok (.iload_n 1, 1) := sorry
theorem dX5_faultOf_14 : decode cX5_faultOf 14 = .ok (.if_icmp .eq 5, 3) := sorry
theorem dX5_faultOf_17 : decode cX5_faultOf 17 = .ok (.iconst 2, 1) := sorry
theorem dX5_faultOf_18 : decode cX5_faultOf 18 = .ok (.ireturn, 1) := sorry
theorem dX5_faultOf_19 : decode cX5_faultOf 19 = .ok (.iload_n 3, 1) := sorry
theorem dX5_faultOf_20 : decode cX5_faultOf 20 = .ok (.ifCond .ge 5, 3) := sorry
theorem dX5_faultOf_23 : decode cX5_faultOf 23 = .ok (.iconst 4, 1) := sorry
theorem dX5_faultOf_24 : decode cX5_faultOf 24 = .ok (.ireturn, 1) := sorry
theorem dX5_faultOf_25 : decode cX5_faultOf 25 = .ok (.aload_n 0, 1) := sorry
theorem dX5_faultOf_26 : decode cX5_faultOf 26 = .ok (.iload_n 2, 1) := sorry
theorem dX5_faultOf_27 : decode cX5_faultOf 27 = .ok (.iload_n 3, 1) := sorry
theorem dX5_faultOf_28 : decode cX5_faultOf 28 = .ok (.invokevirtual 32, 3) := sorry
theorem dX5_faultOf_31 : decode cX5_faultOf 31 = .ok (.ifCond .eq 7, 3) := sorry
theorem dX5_faultOf_34 : decode cX5_faultOf 34 = .ok (.iconst 3, 1) := sorry
theorem dX5_faultOf_35 : decode cX5_faultOf 35 = .ok (.goto 4, 3) := sorry
theorem dX5_faultOf_38 : decode cX5_faultOf 38 = .ok (.iconst 0, 1) := sorry
theorem dX5_faultOf_39 : decode cX5_faultOf 39 = .ok (.ireturn, 1) := sorry
theorem dX5_lacks_0 : decode cX5_lacks 0 = .ok (.iload_n 1, 1) := sorry
theorem dX5_lacks_1 : decode cX5_lacks 1 = .ok (.ifCond .lt 13, 3) := sorry
theorem dX5_lacks_4 : decode cX5_lacks 4 = .ok (.iload_n 1, 1) := sorry
theorem dX5_lacks_5 : decode cX5_lacks 5 = .ok (.aload_n 0, 1) := sorry
theorem dX5_lacks_6 : decode cX5_lacks 6 = .ok (.getfield 23, 3) := sorry
theorem dX5_lacks_9 : decode cX5_lacks 9 = .ok (.iload_n 2, 1) := sorry
theorem dX5_lacks_10 : decode cX5_lacks 10 = .ok (.isub, 1) := sorry
theorem dX5_lacks_11 : decode cX5_lacks 11 = .ok (.if_icmp .le 7, 3) := sorry
theorem dX5_lacks_14 : decode cX5_lacks 14 = .ok (.iconst 1, 1) := sorry
theorem dX5_lacks_15 : decode cX5_lacks 15 = .ok (.goto 4, 3) := sorry
theorem dX5_lacks_18 : decode cX5_lacks 18 = .ok (.iconst 0, 1) := sorry
theorem dX5_lacks_19 : decode cX5_lacks 19 = .ok (.ireturn, 1) := sorry
theorem dX5_holdsSquares_0 : decode cX5_holdsSquares 0 = .ok (.iconst 0, 1) := sorry
theorem dX5_holdsSquares_1 : decode cX5_holdsSquares 1 = .ok (.istore_n 3, 1) := sorry
theorem dX5_holdsSquares_2 : decode cX5_holdsSquares 2 = .ok (.iload_n 3, 1) := sorry
theorem dX5_holdsSquares_3 : decode cX5_holdsSquares 3 = .ok (.iload_n 2, 1) := sorry
theorem dX5_holdsSquares_4 : decode cX5_holdsSquares 4 = .ok (.if_icmp .ge 27, 3) := sorry
theorem dX5_holdsSquares_7 : decode cX5_holdsSquares 7 = .ok (.aload_n 0, 1) := sorry
theorem dX5_holdsSquares_8 : decode cX5_holdsSquares 8 = .ok (.iload_n 1, 1) := sorry
theorem dX5_holdsSquares_9 : decode cX5_holdsSquares 9 = .ok (.iload_n 3, 1) := sorry
theorem dX5_holdsSquares_10 : decode cX5_holdsSquares 10 = .ok (.iadd, 1) := sorry
theorem dX5_holdsSquares_11 : decode cX5_holdsSquares 11 = .ok (.invokevirtual 36, 3) := sorry
theorem dX5_holdsSquares_14 : decode cX5_holdsSquares 14 = .ok (.iconst 0, 1) := sorry
theorem dX5_holdsSquares_15 : decode cX5_holdsSquares 15 = .ok (.bipush 99, 2) := sorry
theorem dX5_holdsSquares_17 : decode cX5_holdsSquares 17 = .ok (.invokestatic 40, 3) := sorry
theorem dX5_holdsSquares_20 : decode cX5_holdsSquares 20 = .ok (.ifCond .ne 5, 3) := sorry
theorem dX5_holdsSquares_23 : decode cX5_holdsSquares 23 = .ok (.iconst 0, 1) := sorry
theorem dX5_holdsSquares_24 : decode cX5_holdsSquares 24 = .ok (.ireturn, 1) := sorry
theorem dX5_holdsSquares_25 : decode cX5_holdsSquares 25 = .ok (.iinc 3 1, 3) := sorry
theorem dX5_holdsSquares_28 : decode cX5_holdsSquares 28 = .ok (.goto (-26), 3) := sorry
theorem dX5_holdsSquares_31 : decode cX5_holdsSquares 31 = .ok (.iconst 1, 1) := sorry
theorem dX5_holdsSquares_32 : decode cX5_holdsSquares 32 = .ok (.ireturn, 1) := sorry
theorem dX5_at_0 : decode cX5_at 0 = .ok (.iload_n 1, 1) := sorry
theorem dX5_at_1 : decode cX5_at 1 = .ok (.iconst 0, 1) := sorry
theorem dX5_at_2 : decode cX5_at 2 = .ok (.aload_n 0, 1) := sorry
theorem dX5_at_3 : decode cX5_at 3 = .ok (.getfield 23, 3) := sorry
theorem dX5_at_6 : decode cX5_at 6 = .ok (.iconst 1, 1) := sorry
theorem dX5_at_7 : decode cX5_at 7 = .ok (.isub, 1) := sorry
theorem dX5_at_8 : decode cX5_at 8 = .ok (.invokestatic 40, 3) := sorry
theorem dX5_at_11 : decode cX5_at 11 = .ok (.ifCond .eq 12, 3) := sorry
theorem dX5_at_14 : decode cX5_at 14 = .ok (.aload_n 0, 1) := sorry
theorem dX5_at_15 : decode cX5_at 15 = .ok (.getfield 9, 3) := sorry
theorem dX5_at_18 : decode cX5_at 18 = .ok (.iload_n 1, 1) := sorry
theorem dX5_at_19 : decode cX5_at 19 = .ok (.iaload, 1) := sorry
theorem dX5_at_20 : decode cX5_at 20 = .ok (.goto 4, 3) := sorry
theorem dX5_at_23 : decode cX5_at 23 = .ok (.iconst 0, 1) := sorry
theorem dX5_at_24 : decode cX5_at 24 = .ok (.ireturn, 1) := sorry
theorem dX5_write_0 : decode cX5_write 0 = .ok (.iload_n 1, 1) := sorry
theorem dX5_write_1 : decode cX5_write 1 = .ok (.iconst 0, 1) := sorry
theorem dX5_write_2 : decode cX5_write 2 = .ok (.aload_n 0, 1) := sorry
theorem dX5_write_3 : decode cX5_write 3 = .ok (.getfield 23, 3) := sorry
theorem dX5_write_6 : decode cX5_write 6 = .ok (.iconst 1, 1) := sorry
theorem dX5_write_7 : decode cX5_write 7 = .ok (.isub, 1) := sorry
theorem dX5_write_8 : decode cX5_write 8 = .ok (.invokestatic 40, 3) := sorry
theorem dX5_write_11 : decode cX5_write 11 = .ok (.ifCond .eq 35, 3) := sorry
theorem dX5_write_14 : decode cX5_write 14 = .ok (.aload_n 0, 1) := sorry
theorem dX5_write_15 : decode cX5_write 15 = .ok (.getfield 9, 3) := sorry
theorem dX5_write_18 : decode cX5_write 18 = .ok (.iload_n 1, 1) := sorry
theorem dX5_write_19 : decode cX5_write 19 = .ok (.aload_n 0, 1) := sorry
theorem dX5_write_20 : decode cX5_write 20 = .ok (.getfield 19, 3) := sorry
theorem dX5_write_23 : decode cX5_write 23 = .ok (.ifCond .ne 8, 3) := sorry
theorem dX5_write_26 : decode cX5_write 26 = .ok (.iload_n 2, 1) := sorry
theorem dX5_write_27 : decode cX5_write 27 = .ok (.i2b, 1) := sorry
theorem dX5_write_28 : decode cX5_write 28 = .ok (.goto 17, 3) := sorry
theorem dX5_write_31 : decode cX5_write 31 = .ok (.aload_n 0, 1) := sorry
theorem dX5_write_32 : decode cX5_write 32 = .ok (.getfield 19, 3) := sorry
theorem dX5_write_35 : decode cX5_write 35 = .ok (.iconst 1, 1) := sorry
theorem dX5_write_36 : decode cX5_write 36 = .ok (.if_icmp .ne 8, 3) := sorry
theorem dX5_write_39 : decode cX5_write 39 = .ok (.iload_n 2, 1) := sorry
theorem dX5_write_40 : decode cX5_write 40 = .ok (.i2s, 1) := sorry
theorem dX5_write_41 : decode cX5_write 41 = .ok (.goto 4, 3) := sorry
theorem dX5_write_44 : decode cX5_write 44 = .ok (.iload_n 2, 1) := sorry
theorem dX5_write_45 : decode cX5_write 45 = .ok (.iastore, 1) := sorry
theorem dX5_write_46 : decode cX5_write 46 = .ok (.return_, 1) := sorry
theorem dX6_init_0 : decode cX6_init 0 = .ok (.aload_n 0, 1) := sorry
theorem dX6_init_1 : decode cX6_init 1 = .ok (.aload_n 1, 1) := sorry
theorem dX6_init_2 : decode cX6_init 2 = .ok (.iload_n 2, 1) := sorry
theorem dX6_init_3 : decode cX6_init 3 = .ok (.iload_n 3, 1) := sorry
theorem dX6_init_4 : decode cX6_init 4 = .ok (.aload 4, 2) := sorry
theorem dX6_init_6 : decode cX6_init 6 = .ok (.getstatic 3, 3) := sorry
theorem dX6_init_9 : decode cX6_init 9 = .ok (.invokespecial 7, 3) := sorry
theorem dX6_init_12 : decode cX6_init 12 = .ok (.return_, 1) := sorry
theorem dX6_kind_0 : decode cX6_kind 0 = .ok (.iconst 2, 1) := sorry
theorem dX6_kind_1 : decode cX6_kind 1 = .ok (.ireturn, 1) := sorry
theorem dX6_telling_0 : decode cX6_telling 0 = .ok (.aload_n 1, 1) := sorry
theorem dX6_telling_1 : decode cX6_telling 1 = .ok (.iconst 3, 1) := sorry
theorem dX6_telling_2 : decode cX6_telling 2 = .ok (.invokevirtual 13, 3) := sorry
theorem dX6_telling_5 : decode cX6_telling 5 = .ok (.aload_n 0, 1) := sorry
theorem dX6_telling_6 : decode cX6_telling 6 = .ok (.aload_n 1, 1) := sorry
theorem dX6_telling_7 : decode cX6_telling 7 = .ok (.invokespecial 19, 3) := sorry
theorem dX6_telling_10 : decode cX6_telling 10 = .ok (.aload_n 0, 1) := sorry
theorem dX6_telling_11 : decode cX6_telling 11 = .ok (.aload_n 1, 1) := sorry
theorem dX6_telling_12 : decode cX6_telling 12 = .ok (.invokevirtual 23, 3) := sorry
theorem dX6_telling_15 : decode cX6_telling 15 = .ok (.iadd, 1) := sorry
theorem dX6_telling_16 : decode cX6_telling 16 = .ok (.ireturn, 1) := sorry
theorem dX6_showing_0 : decode cX6_showing 0 = .ok (.aload_n 1, 1) := sorry
theorem dX6_showing_1 : decode cX6_showing 1 = .ok (.iconst 5, 1) := sorry
theorem dX6_showing_2 : decode cX6_showing 2 = .ok (.invokevirtual 13, 3) := sorry
theorem dX6_showing_5 : decode cX6_showing 5 = .ok (.bipush 33, 2) := sorry
theorem dX6_showing_7 : decode cX6_showing 7 = .ok (.ireturn, 1) := sorry
theorem dX7_init_0 : decode cX7_init 0 = .ok (.aload_n 0, 1) := sorry
theorem dX7_init_1 : decode cX7_init 1 = .ok (.invokespecial 3, 3) := sorry
theorem dX7_init_4 : decode cX7_init 4 = .ok (.aload_n 0, 1) := sorry
theorem dX7_init_5 : decode cX7_init 5 = .ok (.aload_n 1, 1) := sorry
theorem dX7_init_6 : decode cX7_init 6 = .ok (.putfield 9, 3) := sorry
theorem dX7_init_9 : decode cX7_init 9 = .ok (.aload_n 0, 1) := sorry
theorem dX7_init_10 : decode cX7_init 10 = .ok (.iload_n 2, 1) := sorry
theorem dX7_init_11 : decode cX7_init 11 = .ok (.putfield 15, 3) := sorry
theorem dX7_init_14 : decode cX7_init 14 = .ok (.aload_n 0, 1) := sorry
theorem dX7_init_15 : decode cX7_init 15 = .ok (.iload_n 3, 1) := sorry
theorem dX7_init_16 : decode cX7_init 16 = .ok (.putfield 19, 3) := sorry
theorem dX7_init_19 : decode cX7_init 19 = .ok (.return_, 1) := sorry
theorem dX7_kind_0 : decode cX7_kind 0 = .ok (.iconst 0, 1) := sorry
theorem dX7_kind_1 : decode cX7_kind 1 = .ok (.ireturn, 1) := sorry
theorem dX7_origin_0 : decode cX7_origin 0 = .ok (.aconst_null, 1) := sorry
theorem dX7_origin_1 : decode cX7_origin 1 = .ok (.areturn, 1) := sorry
theorem dX7_acts_0 : decode cX7_acts 0 = .ok (.getstatic 22, 3) := sorry
theorem dX7_acts_3 : decode cX7_acts 3 = .ok (.areturn, 1) := sorry
theorem dX7_telling_0 : decode cX7_telling 0 = .ok (.aload_n 0, 1) := sorry
theorem dX7_telling_1 : decode cX7_telling 1 = .ok (.aload_n 1, 1) := sorry
theorem dX7_telling_2 : decode cX7_telling 2 = .ok (.invokevirtual 26, 3) := sorry
theorem dX7_telling_5 : decode cX7_telling 5 = .ok (.ireturn, 1) := sorry
theorem dX7_takenTelling_0 : decode cX7_takenTelling 0 = .ok (.aload_n 1, 1) := sorry
theorem dX7_takenTelling_1 : decode cX7_takenTelling 1 = .ok (.iconst 1, 1) := sorry
theorem dX7_takenTelling_2 : decode cX7_takenTelling 2 = .ok (.invokevirtual 30, 3) := sorry
theorem dX7_takenTelling_5 : decode cX7_takenTelling 5 = .ok (.aload_n 0, 1) := sorry
theorem dX7_takenTelling_6 : decode cX7_takenTelling 6 = .ok (.getfield 15, 3) := sorry
theorem dX7_takenTelling_9 : decode cX7_takenTelling 9 = .ok (.ireturn, 1) := sorry
theorem dX7_showing_0 : decode cX7_showing 0 = .ok (.aload_n 1, 1) := sorry
theorem dX7_showing_1 : decode cX7_showing 1 = .ok (.iconst 4, 1) := sorry
theorem dX7_showing_2 : decode cX7_showing 2 = .ok (.invokevirtual 30, 3) := sorry
theorem dX7_showing_5 : decode cX7_showing 5 = .ok (.aload_n 0, 1) := sorry
theorem dX7_showing_6 : decode cX7_showing 6 = .ok (.getfield 19, 3) := sorry
theorem dX7_showing_9 : decode cX7_showing 9 = .ok (.ireturn, 1) := sorry
theorem dX8_init_0 : decode cX8_init 0 = .ok (.aload_n 0, 1) := sorry
theorem dX8_init_1 : decode cX8_init 1 = .ok (.invokespecial 1, 3) := sorry
theorem dX8_init_4 : decode cX8_init 4 = .ok (.return_, 1) := sorry
theorem dX8_leave_0 : decode cX8_leave 0 = .ok (.aload_n 0, 1) := sorry
theorem dX8_leave_1 : decode cX8_leave 1 = .ok (.bipush 31, 2) := sorry
theorem dX8_leave_3 : decode cX8_leave 3 = .ok (.aload_n 0, 1) := sorry
theorem dX8_leave_4 : decode cX8_leave 4 = .ok (.getfield 7, 3) := sorry
theorem dX8_leave_7 : decode cX8_leave 7 = .ok (.imul, 1) := sorry
theorem dX8_leave_8 : decode cX8_leave 8 = .ok (.iload_n 1, 1) := sorry
theorem dX8_leave_9 : decode cX8_leave 9 = .ok (.iadd, 1) := sorry
theorem dX8_leave_10 : decode cX8_leave 10 = .ok (.putfield 7, 3) := sorry
theorem dX8_leave_13 : decode cX8_leave 13 = .ok (.return_, 1) := sorry
theorem dX9_init_0 : decode cX9_init 0 = .ok (.aload_n 0, 1) := sorry
theorem dX9_init_1 : decode cX9_init 1 = .ok (.invokespecial 3, 3) := sorry
theorem dX9_init_4 : decode cX9_init 4 = .ok (.aload_n 0, 1) := sorry
theorem dX9_init_5 : decode cX9_init 5 = .ok (.bipush 32, 2) := sorry
theorem dX9_init_7 : decode cX9_init 7 = .ok (.newarray .int, 2) := sorry
theorem dX9_init_9 : decode cX9_init 9 = .ok (.putfield 9, 3) := sorry
theorem dX9_init_12 : decode cX9_init 12 = .ok (.return_, 1) := sorry
theorem dX9_above_0 : decode cX9_above 0 = .ok (.bipush 31, 2) := sorry
theorem dX9_above_2 : decode cX9_above 2 = .ok (.iload_n 0, 1) := sorry
theorem dX9_above_3 : decode cX9_above 3 = .ok (.imul, 1) := sorry
theorem dX9_above_4 : decode cX9_above 4 = .ok (.bipush 17, 2) := sorry
theorem dX9_above_6 : decode cX9_above 6 = .ok (.iload_n 1, 1) := sorry
theorem dX9_above_7 : decode cX9_above 7 = .ok (.imul, 1) := sorry
theorem dX9_above_8 : decode cX9_above 8 = .ok (.iadd, 1) := sorry
theorem dX9_above_9 : decode cX9_above 9 = .ok (.iconst 5, 1) := sorry
theorem dX9_above_10 : decode cX9_above 10 = .ok (.iadd, 1) := sorry
theorem dX9_above_11 : decode cX9_above 11 = .ok (.sipush 9973, 3) := sorry
theorem dX9_above_14 : decode cX9_above 14 = .ok (.irem, 1) := sorry
theorem dX9_above_15 : decode cX9_above 15 = .ok (.ireturn, 1) := sorry
theorem dX9_rootOf_0 : decode cX9_rootOf 0 = .ok (.iconst 0, 1) := sorry
theorem dX9_rootOf_1 : decode cX9_rootOf 1 = .ok (.istore_n 2, 1) := sorry
theorem dX9_rootOf_2 : decode cX9_rootOf 2 = .ok (.iload_n 2, 1) := sorry
theorem dX9_rootOf_3 : decode cX9_rootOf 3 = .ok (.bipush 16, 2) := sorry
theorem dX9_rootOf_5 : decode cX9_rootOf 5 = .ok (.if_icmp .ge 26, 3) := sorry
theorem dX9_rootOf_8 : decode cX9_rootOf 8 = .ok (.aload_n 0, 1) := sorry
theorem dX9_rootOf_9 : decode cX9_rootOf 9 = .ok (.getfield 9, 3) := sorry
theorem dX9_rootOf_12 : decode cX9_rootOf 12 = .ok (.bipush 16, 2) := sorry
theorem dX9_rootOf_14 : decode cX9_rootOf 14 = .ok (.iload_n 2, 1) := sorry
theorem dX9_rootOf_15 : decode cX9_rootOf 15 = .ok (.iadd, 1) := sorry
theorem dX9_rootOf_16 : decode cX9_rootOf 16 = .ok (.aload_n 1, 1) := sorry
theorem dX9_rootOf_17 : decode cX9_rootOf 17 = .ok (.getfield 15, 3) := sorry
theorem dX9_rootOf_20 : decode cX9_rootOf 20 = .ok (.iload_n 2, 1) := sorry
theorem dX9_rootOf_21 : decode cX9_rootOf 21 = .ok (.iaload, 1) := sorry
theorem dX9_rootOf_22 : decode cX9_rootOf 22 = .ok (.iconst 1, 1) := sorry
theorem dX9_rootOf_23 : decode cX9_rootOf 23 = .ok (.iadd, 1) := sorry
theorem dX9_rootOf_24 : decode cX9_rootOf 24 = .ok (.iastore, 1) := sorry
theorem dX9_rootOf_25 : decode cX9_rootOf 25 = .ok (.iinc 2 1, 3) := sorry
theorem dX9_rootOf_28 : decode cX9_rootOf 28 = .ok (.goto (-26), 3) := sorry
theorem dX9_rootOf_31 : decode cX9_rootOf 31 = .ok (.bipush 15, 2) := sorry
theorem dX9_rootOf_33 : decode cX9_rootOf 33 = .ok (.istore_n 2, 1) := sorry
theorem dX9_rootOf_34 : decode cX9_rootOf 34 = .ok (.iload_n 2, 1) := sorry
theorem dX9_rootOf_35 : decode cX9_rootOf 35 = .ok (.iconst 1, 1) := sorry
theorem dX9_rootOf_36 : decode cX9_rootOf 36 = .ok (.if_icmp .lt 36, 3) := sorry
theorem dX9_rootOf_39 : decode cX9_rootOf 39 = .ok (.aload_n 0, 1) := sorry
theorem dX9_rootOf_40 : decode cX9_rootOf 40 = .ok (.getfield 9, 3) := sorry
theorem dX9_rootOf_43 : decode cX9_rootOf 43 = .ok (.iload_n 2, 1) := sorry
theorem dX9_rootOf_44 : decode cX9_rootOf 44 = .ok (.aload_n 0, 1) := sorry
theorem dX9_rootOf_45 : decode cX9_rootOf 45 = .ok (.getfield 9, 3) := sorry
theorem dX9_rootOf_48 : decode cX9_rootOf 48 = .ok (.iconst 2, 1) := sorry
theorem dX9_rootOf_49 : decode cX9_rootOf 49 = .ok (.iload_n 2, 1) := sorry
theorem dX9_rootOf_50 : decode cX9_rootOf 50 = .ok (.imul, 1) := sorry
theorem dX9_rootOf_51 : decode cX9_rootOf 51 = .ok (.iaload, 1) := sorry
theorem dX9_rootOf_52 : decode cX9_rootOf 52 = .ok (.aload_n 0, 1) := sorry
theorem dX9_rootOf_53 : decode cX9_rootOf 53 = .ok (.getfield 9, 3) := sorry
theorem dX9_rootOf_56 : decode cX9_rootOf 56 = .ok (.iconst 2, 1) := sorry
theorem dX9_rootOf_57 : decode cX9_rootOf 57 = .ok (.iload_n 2, 1) := sorry
theorem dX9_rootOf_58 : decode cX9_rootOf 58 = .ok (.imul, 1) := sorry
theorem dX9_rootOf_59 : decode cX9_rootOf 59 = .ok (.iconst 1, 1) := sorry
theorem dX9_rootOf_60 : decode cX9_rootOf 60 = .ok (.iadd, 1) := sorry
theorem dX9_rootOf_61 : decode cX9_rootOf 61 = .ok (.iaload, 1) := sorry
theorem dX9_rootOf_62 : decode cX9_rootOf 62 = .ok (.invokestatic 20, 3) := sorry
theorem dX9_rootOf_65 : decode cX9_rootOf 65 = .ok (.iastore, 1) := sorry
theorem dX9_rootOf_66 : decode cX9_rootOf 66 = .ok (.iinc 2 (-1), 3) := sorry
theorem dX9_rootOf_69 : decode cX9_rootOf 69 = .ok (.goto (-35), 3) := sorry
theorem dX9_rootOf_72 : decode cX9_rootOf 72 = .ok (.aload_n 0, 1) := sorry
theorem dX9_rootOf_73 : decode cX9_rootOf 73 = .ok (.getfield 9, 3) := sorry
theorem dX9_rootOf_76 : decode cX9_rootOf 76 = .ok (.iconst 1, 1) := sorry
theorem dX9_rootOf_77 : decode cX9_rootOf 77 = .ok (.iaload, 1) := sorry
theorem dX9_rootOf_78 : decode cX9_rootOf 78 = .ok (.ireturn, 1) := sorry
theorem dX9_beside_0 : decode cX9_beside 0 = .ok (.aload_n 0, 1) := sorry
theorem dX9_beside_1 : decode cX9_beside 1 = .ok (.getfield 9, 3) := sorry
theorem dX9_beside_4 : decode cX9_beside 4 = .ok (.bipush 16, 2) := sorry
theorem dX9_beside_6 : decode cX9_beside 6 = .ok (.iload_n 1, 1) := sorry
theorem dX9_beside_7 : decode cX9_beside 7 = .ok (.iadd, 1) := sorry
theorem dX9_beside_8 : decode cX9_beside 8 = .ok (.iload_n 2, 1) := sorry
theorem dX9_beside_9 : decode cX9_beside 9 = .ok (.ishr, 1) := sorry
theorem dX9_beside_10 : decode cX9_beside 10 = .ok (.iconst 1, 1) := sorry
theorem dX9_beside_11 : decode cX9_beside 11 = .ok (.ixor, 1) := sorry
theorem dX9_beside_12 : decode cX9_beside 12 = .ok (.iaload, 1) := sorry
theorem dX9_beside_13 : decode cX9_beside 13 = .ok (.ireturn, 1) := sorry
theorem dX10_init_0 : decode cX10_init 0 = .ok (.aload_n 0, 1) := sorry
theorem dX10_init_1 : decode cX10_init 1 = .ok (.invokespecial 3, 3) := sorry
theorem dX10_init_4 : decode cX10_init 4 = .ok (.aload_n 0, 1) := sorry
theorem dX10_init_5 : decode cX10_init 5 = .ok (.new 9, 3) := sorry
theorem dX10_init_8 : decode cX10_init 8 = .ok (.dup, 1) := sorry
theorem dX10_init_9 : decode cX10_init 9 = .ok (.bipush (-9), 2) := sorry
theorem dX10_init_11 : decode cX10_init 11 = .ok (.invokespecial 11, 3) := sorry
theorem dX10_init_14 : decode cX10_init 14 = .ok (.putfield 14, 3) := sorry
theorem dX10_init_17 : decode cX10_init 17 = .ok (.aload_n 0, 1) := sorry
theorem dX10_init_18 : decode cX10_init 18 = .ok (.bipush 16, 2) := sorry
theorem dX10_init_20 : decode cX10_init 20 = .ok (.newarray .int, 2) := sorry
theorem dX10_init_22 : decode cX10_init 22 = .ok (.putfield 20, 3) := sorry
theorem dX10_init_25 : decode cX10_init 25 = .ok (.return_, 1) := sorry
theorem dX10_perform_0 : decode cX10_perform 0 = .ok (.aload_n 0, 1) := sorry
theorem dX10_perform_1 : decode cX10_perform 1 = .ok (.getfield 14, 3) := sorry
theorem dX10_perform_4 : decode cX10_perform 4 = .ok (.aload_n 1, 1) := sorry
theorem dX10_perform_5 : decode cX10_perform 5 = .ok (.invokevirtual 24, 3) := sorry
theorem dX10_perform_8 : decode cX10_perform 8 = .ok (.iconst 0, 1) := sorry
theorem dX10_perform_9 : decode cX10_perform 9 = .ok (.istore 4, 2) := sorry
theorem dX10_perform_11 : decode cX10_perform 11 = .ok (.iload 4, 2) := sorry
theorem dX10_perform_13 : decode cX10_perform 13 = .ok (.iload_n 3, 1) := sorry
theorem dX10_perform_14 : decode cX10_perform 14 = .ok (.if_icmp .ge 41, 3) := sorry
theorem dX10_perform_17 : decode cX10_perform 17 = .ok (.iload 4, 2) := sorry
theorem dX10_perform_19 : decode cX10_perform 19 = .ok (.aload_n 2, 1) := sorry
theorem dX10_perform_20 : decode cX10_perform 20 = .ok (.arraylength, 1) := sorry
theorem dX10_perform_21 : decode cX10_perform 21 = .ok (.if_icmp .ge 34, 3) := sorry
theorem dX10_perform_24 : decode cX10_perform 24 = .ok (.aload_n 0, 1) := sorry
theorem dX10_perform_25 : decode cX10_perform 25 = .ok (.aload_n 2, 1) := sorry
theorem dX10_perform_26 : decode cX10_perform 26 = .ok (.iload 4, 2) := sorry
theorem dX10_perform_28 : decode cX10_perform 28 = .ok (.iaload, 1) := sorry
theorem dX10_perform_29 : decode cX10_perform 29 = .ok (.sipush 10000, 3) := sorry
theorem dX10_perform_32 : decode cX10_perform 32 = .ok (.idiv, 1) := sorry
theorem dX10_perform_33 : decode cX10_perform 33 = .ok (.aload_n 2, 1) := sorry
theorem dX10_perform_34 : decode cX10_perform 34 = .ok (.iload 4, 2) := sorry
theorem dX10_perform_36 : decode cX10_perform 36 = .ok (.iaload, 1) := sorry
theorem dX10_perform_37 : decode cX10_perform 37 = .ok (.sipush 10000, 3) := sorry
theorem dX10_perform_40 : decode cX10_perform 40 = .ok (.irem, 1) := sorry
theorem dX10_perform_41 : decode cX10_perform 41 = .ok (.invokevirtual 28, 3) := sorry
theorem dX10_perform_44 : decode cX10_perform 44 = .ok (.ifCond .ne 5, 3) := sorry
theorem dX10_perform_47 : decode cX10_perform 47 = .ok (.iconst 0, 1) := sorry
theorem dX10_perform_48 : decode cX10_perform 48 = .ok (.ireturn, 1) := sorry
theorem dX10_perform_49 : decode cX10_perform 49 = .ok (.iinc 4 1, 3) := sorry
theorem dX10_perform_52 : decode cX10_perform 52 = .ok (.goto (-41), 3) := sorry
theorem dX10_perform_55 : decode cX10_perform 55 = .ok (.iconst 1, 1) := sorry
theorem dX10_perform_56 : decode cX10_perform 56 = .ok (.ireturn, 1) := sorry
theorem dX10_performOne_0 : decode cX10_performOne 0 = .ok (.iload_n 2, 1) := sorry
theorem dX10_performOne_1 : decode cX10_performOne 1 = .ok (.sipush 1000, 3) := sorry
theorem dX10_performOne_4 : decode cX10_performOne 4 = .ok (.idiv, 1) := sorry
theorem dX10_performOne_5 : decode cX10_performOne 5 = .ok (.istore_n 3, 1) := sorry
theorem dX10_performOne_6 : decode cX10_performOne 6 = .ok (.iload_n 2, 1) := sorry
theorem dX10_performOne_7 : decode cX10_performOne 7 = .ok (.bipush 100, 2) := sorry
theorem dX10_performOne_9 : decode cX10_performOne 9 = .ok (.idiv, 1) := sorry
theorem dX10_performOne_10 : decode cX10_performOne 10 = .ok (.bipush 10, 2) := sorry
theorem dX10_performOne_12 : decode cX10_performOne 12 = .ok (.irem, 1) := sorry
theorem dX10_performOne_13 : decode cX10_performOne 13 = .ok (.istore 4, 2) := sorry
theorem dX10_performOne_15 : decode cX10_performOne 15 = .ok (.iload_n 2, 1) := sorry
theorem dX10_performOne_16 : decode cX10_performOne 16 = .ok (.bipush 10, 2) := sorry
theorem dX10_performOne_18 : decode cX10_performOne 18 = .ok (.idiv, 1) := sorry
theorem dX10_performOne_19 : decode cX10_performOne 19 = .ok (.bipush 10, 2) := sorry
theorem dX10_performOne_21 : decode cX10_performOne 21 = .ok (.irem, 1) := sorry
theorem dX10_performOne_22 : decode cX10_performOne 22 = .ok (.istore 5, 2) := sorry
theorem dX10_performOne_24 : decode cX10_performOne 24 = .ok (.iload_n 2, 1) := sorry
theorem dX10_performOne_25 : decode cX10_performOne 25 = .ok (.bipush 10, 2) := sorry
theorem dX10_performOne_27 : decode cX10_performOne 27 = .ok (.irem, 1) := sorry
theorem dX10_performOne_28 : decode cX10_performOne 28 = .ok (.istore 6, 2) := sorry
theorem dX10_performOne_30 : decode cX10_performOne 30 = .ok (.iload_n 1, 1) := sorry
theorem dX10_performOne_31 : decode cX10_performOne 31 = .ok (.bipush 99, 2) := sorry
theorem dX10_performOne_33 : decode cX10_performOne 33 = .ok (.if_icmp .eq 9, 3) := sorry
theorem dX10_performOne_36 : decode cX10_performOne 36 = .ok (.iload_n 1, 1) := sorry
theorem dX10_performOne_37 : decode cX10_performOne 37 = .ok (.bipush 98, 2) := sorry
theorem dX10_performOne_39 : decode cX10_performOne 39 = .ok (.if_icmp .ne 19, 3) := sorry
theorem dX10_performOne_42 : decode cX10_performOne 42 = .ok (.aload_n 0, 1) := sorry
theorem dX10_performOne_43 : decode cX10_performOne 43 = .ok (.iload_n 3, 1) := sorry
theorem dX10_performOne_44 : decode cX10_performOne 44 = .ok (.iload 4, 2) := sorry
theorem dX10_performOne_46 : decode cX10_performOne 46 = .ok (.iload 5, 2) := sorry
theorem dX10_performOne_48 : decode cX10_performOne 48 = .ok (.iload 6, 2) := sorry
theorem dX10_performOne_50 : decode cX10_performOne 50 = .ok (.invokevirtual 32, 3) := sorry
theorem dX10_performOne_53 : decode cX10_performOne 53 = .ok (.ifCond .ne 5, 3) := sorry
theorem dX10_performOne_56 : decode cX10_performOne 56 = .ok (.iconst 0, 1) := sorry
theorem dX10_performOne_57 : decode cX10_performOne 57 = .ok (.ireturn, 1) := sorry
theorem dX10_performOne_58 : decode cX10_performOne 58 = .ok (.iload_n 1, 1) := sorry
theorem dX10_performOne_59 : decode cX10_performOne 59 = .ok (.lookupswitch 101 #[(98, 63), (99, 49), (108, 84), (109, 92), (116, 77)], 49) := sorry
theorem dX10_performOne_108 : decode cX10_performOne 108 = .ok (.aload_n 0, 1) := sorry
theorem dX10_performOne_109 : decode cX10_performOne 109 = .ok (.iload_n 3, 1) := sorry
theorem dX10_performOne_110 : decode cX10_performOne 110 = .ok (.iload 4, 2) := sorry
theorem dX10_performOne_112 : decode cX10_performOne 112 = .ok (.iload 5, 2) := sorry
theorem dX10_performOne_114 : decode cX10_performOne 114 = .ok (.iload 6, 2) := sorry
theorem dX10_performOne_116 : decode cX10_performOne 116 = .ok (.invokevirtual 36, 3) := sorry
theorem dX10_performOne_119 : decode cX10_performOne 119 = .ok (.goto 46, 3) := sorry
theorem dX10_performOne_122 : decode cX10_performOne 122 = .ok (.aload_n 0, 1) := sorry
theorem dX10_performOne_123 : decode cX10_performOne 123 = .ok (.iload_n 3, 1) := sorry
theorem dX10_performOne_124 : decode cX10_performOne 124 = .ok (.iload 4, 2) := sorry
theorem dX10_performOne_126 : decode cX10_performOne 126 = .ok (.iload 5, 2) := sorry
theorem dX10_performOne_128 : decode cX10_performOne 128 = .ok (.iload 6, 2) := sorry
theorem dX10_performOne_130 : decode cX10_performOne 130 = .ok (.invokevirtual 40, 3) := sorry
theorem dX10_performOne_133 : decode cX10_performOne 133 = .ok (.goto 32, 3) := sorry
theorem dX10_performOne_136 : decode cX10_performOne 136 = .ok (.aload_n 0, 1) := sorry
theorem dX10_performOne_137 : decode cX10_performOne 137 = .ok (.invokevirtual 43, 3) := sorry
theorem dX10_performOne_140 : decode cX10_performOne 140 = .ok (.goto 25, 3) := sorry
theorem dX10_performOne_143 : decode cX10_performOne 143 = .ok (.aload_n 0, 1) := sorry
theorem dX10_performOne_144 : decode cX10_performOne 144 = .ok (.iload_n 2, 1) := sorry
theorem dX10_performOne_145 : decode cX10_performOne 145 = .ok (.invokevirtual 46, 3) := sorry
theorem dX10_performOne_148 : decode cX10_performOne 148 = .ok (.goto 17, 3) := sorry
theorem dX10_performOne_151 : decode cX10_performOne 151 = .ok (.aload_n 0, 1) := sorry
theorem dX10_performOne_152 : decode cX10_performOne 152 = .ok (.iload_n 2, 1) := sorry
theorem dX10_performOne_153 : decode cX10_performOne 153 = .ok (.ineg, 1) := sorry
theorem dX10_performOne_154 : decode cX10_performOne 154 = .ok (.invokevirtual 46, 3) := sorry
theorem dX10_performOne_157 : decode cX10_performOne 157 = .ok (.goto 8, 3) := sorry
theorem dX10_performOne_160 : decode cX10_performOne 160 = .ok (.aload_n 0, 1) := sorry
theorem dX10_performOne_161 : decode cX10_performOne 161 = .ok (.iload_n 2, 1) := sorry
theorem dX10_performOne_162 : decode cX10_performOne 162 = .ok (.invokevirtual 49, 3) := sorry
theorem dX10_performOne_165 : decode cX10_performOne 165 = .ok (.iconst 1, 1) := sorry
theorem dX10_performOne_166 : decode cX10_performOne 166 = .ok (.ireturn, 1) := sorry
theorem dX10_holds_0 : decode cX10_holds 0 = .ok (.iload_n 3, 1) := sorry
theorem dX10_holds_1 : decode cX10_holds 1 = .ok (.iconst 1, 1) := sorry
theorem dX10_holds_2 : decode cX10_holds 2 = .ok (.if_icmp .lt 40, 3) := sorry
theorem dX10_holds_5 : decode cX10_holds 5 = .ok (.iload 4, 2) := sorry
theorem dX10_holds_7 : decode cX10_holds 7 = .ok (.iconst 1, 1) := sorry
theorem dX10_holds_8 : decode cX10_holds 8 = .ok (.if_icmp .lt 34, 3) := sorry
theorem dX10_holds_11 : decode cX10_holds 11 = .ok (.iload_n 1, 1) := sorry
theorem dX10_holds_12 : decode cX10_holds 12 = .ok (.iload_n 3, 1) := sorry
theorem dX10_holds_13 : decode cX10_holds 13 = .ok (.iadd, 1) := sorry
theorem dX10_holds_14 : decode cX10_holds 14 = .ok (.aload_n 0, 1) := sorry
theorem dX10_holds_15 : decode cX10_holds 15 = .ok (.getfield 14, 3) := sorry
theorem dX10_holds_18 : decode cX10_holds 18 = .ok (.getfield 52, 3) := sorry
theorem dX10_holds_21 : decode cX10_holds 21 = .ok (.if_icmp .gt 21, 3) := sorry
theorem dX10_holds_24 : decode cX10_holds 24 = .ok (.iload_n 2, 1) := sorry
theorem dX10_holds_25 : decode cX10_holds 25 = .ok (.iload 4, 2) := sorry
theorem dX10_holds_27 : decode cX10_holds 27 = .ok (.iadd, 1) := sorry
theorem dX10_holds_28 : decode cX10_holds 28 = .ok (.aload_n 0, 1) := sorry
theorem dX10_holds_29 : decode cX10_holds 29 = .ok (.getfield 14, 3) := sorry
theorem dX10_holds_32 : decode cX10_holds 32 = .ok (.getfield 56, 3) := sorry
theorem dX10_holds_35 : decode cX10_holds 35 = .ok (.if_icmp .gt 7, 3) := sorry
theorem dX10_holds_38 : decode cX10_holds 38 = .ok (.iconst 1, 1) := sorry
theorem dX10_holds_39 : decode cX10_holds 39 = .ok (.goto 4, 3) := sorry
theorem dX10_holds_42 : decode cX10_holds 42 = .ok (.iconst 0, 1) := sorry
theorem dX10_holds_43 : decode cX10_holds 43 = .ok (.ireturn, 1) := sorry
theorem dX10_cutOut_0 : decode cX10_cutOut 0 = .ok (.aload_n 0, 1) := sorry
theorem dX10_cutOut_1 : decode cX10_cutOut 1 = .ok (.getfield 20, 3) := sorry
theorem dX10_cutOut_4 : decode cX10_cutOut 4 = .ok (.iconst (-1), 1) := sorry
theorem dX10_cutOut_5 : decode cX10_cutOut 5 = .ok (.invokestatic 59, 3) := sorry
theorem dX10_cutOut_8 : decode cX10_cutOut 8 = .ok (.iconst 0, 1) := sorry
theorem dX10_cutOut_9 : decode cX10_cutOut 9 = .ok (.istore 5, 2) := sorry
theorem dX10_cutOut_11 : decode cX10_cutOut 11 = .ok (.iload 5, 2) := sorry
theorem dX10_cutOut_13 : decode cX10_cutOut 13 = .ok (.iload 4, 2) := sorry
theorem dX10_cutOut_15 : decode cX10_cutOut 15 = .ok (.if_icmp .ge 55, 3) := sorry
theorem dX10_cutOut_18 : decode cX10_cutOut 18 = .ok (.iconst 0, 1) := sorry
theorem dX10_cutOut_19 : decode cX10_cutOut 19 = .ok (.istore 6, 2) := sorry
theorem dX10_cutOut_21 : decode cX10_cutOut 21 = .ok (.iload 6, 2) := sorry
theorem dX10_cutOut_23 : decode cX10_cutOut 23 = .ok (.iload_n 3, 1) := sorry
theorem dX10_cutOut_24 : decode cX10_cutOut 24 = .ok (.if_icmp .ge 40, 3) := sorry
theorem dX10_cutOut_27 : decode cX10_cutOut 27 = .ok (.aload_n 0, 1) := sorry
theorem dX10_cutOut_28 : decode cX10_cutOut 28 = .ok (.getfield 20, 3) := sorry
theorem dX10_cutOut_31 : decode cX10_cutOut 31 = .ok (.iload 6, 2) := sorry
theorem dX10_cutOut_33 : decode cX10_cutOut 33 = .ok (.iconst 4, 1) := sorry
theorem dX10_cutOut_34 : decode cX10_cutOut 34 = .ok (.iload 5, 2) := sorry
theorem dX10_cutOut_36 : decode cX10_cutOut 36 = .ok (.imul, 1) := sorry
theorem dX10_cutOut_37 : decode cX10_cutOut 37 = .ok (.iadd, 1) := sorry
theorem dX10_cutOut_38 : decode cX10_cutOut 38 = .ok (.aload_n 0, 1) := sorry
theorem dX10_cutOut_39 : decode cX10_cutOut 39 = .ok (.getfield 14, 3) := sorry
theorem dX10_cutOut_42 : decode cX10_cutOut 42 = .ok (.getfield 65, 3) := sorry
theorem dX10_cutOut_45 : decode cX10_cutOut 45 = .ok (.iload_n 1, 1) := sorry
theorem dX10_cutOut_46 : decode cX10_cutOut 46 = .ok (.iload 6, 2) := sorry
theorem dX10_cutOut_48 : decode cX10_cutOut 48 = .ok (.iadd, 1) := sorry
theorem dX10_cutOut_49 : decode cX10_cutOut 49 = .ok (.iconst 4, 1) := sorry
theorem dX10_cutOut_50 : decode cX10_cutOut 50 = .ok (.iload_n 2, 1) := sorry
theorem dX10_cutOut_51 : decode cX10_cutOut 51 = .ok (.iload 5, 2) := sorry
theorem dX10_cutOut_53 : decode cX10_cutOut 53 = .ok (.iadd, 1) := sorry
theorem dX10_cutOut_54 : decode cX10_cutOut 54 = .ok (.imul, 1) := sorry
theorem dX10_cutOut_55 : decode cX10_cutOut 55 = .ok (.iadd, 1) := sorry
theorem dX10_cutOut_56 : decode cX10_cutOut 56 = .ok (.iaload, 1) := sorry
theorem dX10_cutOut_57 : decode cX10_cutOut 57 = .ok (.iastore, 1) := sorry
theorem dX10_cutOut_58 : decode cX10_cutOut 58 = .ok (.iinc 6 1, 3) := sorry
theorem dX10_cutOut_61 : decode cX10_cutOut 61 = .ok (.goto (-40), 3) := sorry
theorem dX10_cutOut_64 : decode cX10_cutOut 64 = .ok (.iinc 5 1, 3) := sorry
theorem dX10_cutOut_67 : decode cX10_cutOut 67 = .ok (.goto (-56), 3) := sorry
theorem dX10_cutOut_70 : decode cX10_cutOut 70 = .ok (.aload_n 0, 1) := sorry
theorem dX10_cutOut_71 : decode cX10_cutOut 71 = .ok (.getfield 14, 3) := sorry
theorem dX10_cutOut_74 : decode cX10_cutOut 74 = .ok (.iload_n 3, 1) := sorry
theorem dX10_cutOut_75 : decode cX10_cutOut 75 = .ok (.iload 4, 2) := sorry
theorem dX10_cutOut_77 : decode cX10_cutOut 77 = .ok (.aload_n 0, 1) := sorry
theorem dX10_cutOut_78 : decode cX10_cutOut 78 = .ok (.getfield 20, 3) := sorry
theorem dX10_cutOut_81 : decode cX10_cutOut 81 = .ok (.invokevirtual 68, 3) := sorry
theorem dX10_cutOut_84 : decode cX10_cutOut 84 = .ok (.return_, 1) := sorry
theorem dX10_blur_0 : decode cX10_blur 0 = .ok (.iconst 0, 1) := sorry
theorem dX10_blur_1 : decode cX10_blur 1 = .ok (.istore 5, 2) := sorry
theorem dX10_blur_3 : decode cX10_blur 3 = .ok (.iconst 0, 1) := sorry
theorem dX10_blur_4 : decode cX10_blur 4 = .ok (.istore 6, 2) := sorry
theorem dX10_blur_6 : decode cX10_blur 6 = .ok (.iload 6, 2) := sorry
theorem dX10_blur_8 : decode cX10_blur 8 = .ok (.iload 4, 2) := sorry
theorem dX10_blur_10 : decode cX10_blur 10 = .ok (.if_icmp .ge 48, 3) := sorry
theorem dX10_blur_13 : decode cX10_blur 13 = .ok (.iconst 0, 1) := sorry
theorem dX10_blur_14 : decode cX10_blur 14 = .ok (.istore 7, 2) := sorry
theorem dX10_blur_16 : decode cX10_blur 16 = .ok (.iload 7, 2) := sorry
theorem dX10_blur_18 : decode cX10_blur 18 = .ok (.iload_n 3, 1) := sorry
theorem dX10_blur_19 : decode cX10_blur 19 = .ok (.if_icmp .ge 33, 3) := sorry
theorem dX10_blur_22 : decode cX10_blur 22 = .ok (.iload 5, 2) := sorry
theorem dX10_blur_24 : decode cX10_blur 24 = .ok (.aload_n 0, 1) := sorry
theorem dX10_blur_25 : decode cX10_blur 25 = .ok (.getfield 14, 3) := sorry
theorem dX10_blur_28 : decode cX10_blur 28 = .ok (.getfield 65, 3) := sorry
theorem dX10_blur_31 : decode cX10_blur 31 = .ok (.iload_n 1, 1) := sorry
theorem dX10_blur_32 : decode cX10_blur 32 = .ok (.iload 7, 2) := sorry
theorem dX10_blur_34 : decode cX10_blur 34 = .ok (.iadd, 1) := sorry
theorem dX10_blur_35 : decode cX10_blur 35 = .ok (.iconst 4, 1) := sorry
theorem dX10_blur_36 : decode cX10_blur 36 = .ok (.iload_n 2, 1) := sorry
theorem dX10_blur_37 : decode cX10_blur 37 = .ok (.iload 6, 2) := sorry
theorem dX10_blur_39 : decode cX10_blur 39 = .ok (.iadd, 1) := sorry
theorem dX10_blur_40 : decode cX10_blur 40 = .ok (.imul, 1) := sorry
theorem dX10_blur_41 : decode cX10_blur 41 = .ok (.iadd, 1) := sorry
theorem dX10_blur_42 : decode cX10_blur 42 = .ok (.iaload, 1) := sorry
theorem dX10_blur_43 : decode cX10_blur 43 = .ok (.iadd, 1) := sorry
theorem dX10_blur_44 : decode cX10_blur 44 = .ok (.istore 5, 2) := sorry
theorem dX10_blur_46 : decode cX10_blur 46 = .ok (.iinc 7 1, 3) := sorry
theorem dX10_blur_49 : decode cX10_blur 49 = .ok (.goto (-33), 3) := sorry
theorem dX10_blur_52 : decode cX10_blur 52 = .ok (.iinc 6 1, 3) := sorry
theorem dX10_blur_55 : decode cX10_blur 55 = .ok (.goto (-49), 3) := sorry
theorem dX10_blur_58 : decode cX10_blur 58 = .ok (.iconst 0, 1) := sorry
theorem dX10_blur_59 : decode cX10_blur 59 = .ok (.istore 6, 2) := sorry
theorem dX10_blur_61 : decode cX10_blur 61 = .ok (.iload 6, 2) := sorry
theorem dX10_blur_63 : decode cX10_blur 63 = .ok (.iload 4, 2) := sorry
theorem dX10_blur_65 : decode cX10_blur 65 = .ok (.if_icmp .ge 50, 3) := sorry
theorem dX10_blur_68 : decode cX10_blur 68 = .ok (.iconst 0, 1) := sorry
theorem dX10_blur_69 : decode cX10_blur 69 = .ok (.istore 7, 2) := sorry
theorem dX10_blur_71 : decode cX10_blur 71 = .ok (.iload 7, 2) := sorry
theorem dX10_blur_73 : decode cX10_blur 73 = .ok (.iload_n 3, 1) := sorry
theorem dX10_blur_74 : decode cX10_blur 74 = .ok (.if_icmp .ge 35, 3) := sorry
theorem dX10_blur_77 : decode cX10_blur 77 = .ok (.aload_n 0, 1) := sorry
theorem dX10_blur_78 : decode cX10_blur 78 = .ok (.getfield 14, 3) := sorry
theorem dX10_blur_81 : decode cX10_blur 81 = .ok (.getfield 65, 3) := sorry
theorem dX10_blur_84 : decode cX10_blur 84 = .ok (.iload_n 1, 1) := sorry
theorem dX10_blur_85 : decode cX10_blur 85 = .ok (.iload 7, 2) := sorry
theorem dX10_blur_87 : decode cX10_blur 87 = .ok (.iadd, 1) := sorry
theorem dX10_blur_88 : decode cX10_blur 88 = .ok (.iconst 4, 1) := sorry
theorem dX10_blur_89 : decode cX10_blur 89 = .ok (.iload_n 2, 1) := sorry
theorem dX10_blur_90 : decode cX10_blur 90 = .ok (.iload 6, 2) := sorry
theorem dX10_blur_92 : decode cX10_blur 92 = .ok (.iadd, 1) := sorry
theorem dX10_blur_93 : decode cX10_blur 93 = .ok (.imul, 1) := sorry
theorem dX10_blur_94 : decode cX10_blur 94 = .ok (.iadd, 1) := sorry
theorem dX10_blur_95 : decode cX10_blur 95 = .ok (.iload 5, 2) := sorry
theorem dX10_blur_97 : decode cX10_blur 97 = .ok (.iload_n 3, 1) := sorry
theorem dX10_blur_98 : decode cX10_blur 98 = .ok (.iload 4, 2) := sorry
theorem dX10_blur_100 : decode cX10_blur 100 = .ok (.imul, 1) := sorry
theorem dX10_blur_101 : decode cX10_blur 101 = .ok (.idiv, 1) := sorry
theorem dX10_blur_102 : decode cX10_blur 102 = .ok (.iastore, 1) := sorry
theorem dX10_blur_103 : decode cX10_blur 103 = .ok (.iinc 7 1, 3) := sorry
theorem dX10_blur_106 : decode cX10_blur 106 = .ok (.goto (-35), 3) := sorry
theorem dX10_blur_109 : decode cX10_blur 109 = .ok (.iinc 6 1, 3) := sorry
theorem dX10_blur_112 : decode cX10_blur 112 = .ok (.goto (-51), 3) := sorry
theorem dX10_blur_115 : decode cX10_blur 115 = .ok (.return_, 1) := sorry
theorem dX10_turn_0 : decode cX10_turn 0 = .ok (.aload_n 0, 1) := sorry
theorem dX10_turn_1 : decode cX10_turn 1 = .ok (.getfield 20, 3) := sorry
theorem dX10_turn_4 : decode cX10_turn 4 = .ok (.iconst (-1), 1) := sorry
theorem dX10_turn_5 : decode cX10_turn 5 = .ok (.invokestatic 59, 3) := sorry
theorem dX10_turn_8 : decode cX10_turn 8 = .ok (.iconst 0, 1) := sorry
theorem dX10_turn_9 : decode cX10_turn 9 = .ok (.istore_n 1, 1) := sorry
theorem dX10_turn_10 : decode cX10_turn 10 = .ok (.iload_n 1, 1) := sorry
theorem dX10_turn_11 : decode cX10_turn 11 = .ok (.aload_n 0, 1) := sorry
theorem dX10_turn_12 : decode cX10_turn 12 = .ok (.getfield 14, 3) := sorry
theorem dX10_turn_15 : decode cX10_turn 15 = .ok (.getfield 56, 3) := sorry
theorem dX10_turn_18 : decode cX10_turn 18 = .ok (.if_icmp .ge 61, 3) := sorry
theorem dX10_turn_21 : decode cX10_turn 21 = .ok (.iconst 0, 1) := sorry
theorem dX10_turn_22 : decode cX10_turn 22 = .ok (.istore_n 2, 1) := sorry
theorem dX10_turn_23 : decode cX10_turn 23 = .ok (.iload_n 2, 1) := sorry
theorem dX10_turn_24 : decode cX10_turn 24 = .ok (.aload_n 0, 1) := sorry
theorem dX10_turn_25 : decode cX10_turn 25 = .ok (.getfield 14, 3) := sorry
theorem dX10_turn_28 : decode cX10_turn 28 = .ok (.getfield 52, 3) := sorry
theorem dX10_turn_31 : decode cX10_turn 31 = .ok (.if_icmp .ge 42, 3) := sorry
theorem dX10_turn_34 : decode cX10_turn 34 = .ok (.aload_n 0, 1) := sorry
theorem dX10_turn_35 : decode cX10_turn 35 = .ok (.getfield 20, 3) := sorry
theorem dX10_turn_38 : decode cX10_turn 38 = .ok (.iload_n 1, 1) := sorry
theorem dX10_turn_39 : decode cX10_turn 39 = .ok (.iconst 4, 1) := sorry
theorem dX10_turn_40 : decode cX10_turn 40 = .ok (.iload_n 2, 1) := sorry
theorem dX10_turn_41 : decode cX10_turn 41 = .ok (.imul, 1) := sorry
theorem dX10_turn_42 : decode cX10_turn 42 = .ok (.iadd, 1) := sorry
theorem dX10_turn_43 : decode cX10_turn 43 = .ok (.aload_n 0, 1) := sorry
theorem dX10_turn_44 : decode cX10_turn 44 = .ok (.getfield 14, 3) := sorry
theorem dX10_turn_47 : decode cX10_turn 47 = .ok (.getfield 65, 3) := sorry
theorem dX10_turn_50 : decode cX10_turn 50 = .ok (.iload_n 2, 1) := sorry
theorem dX10_turn_51 : decode cX10_turn 51 = .ok (.iconst 4, 1) := sorry
theorem dX10_turn_52 : decode cX10_turn 52 = .ok (.aload_n 0, 1) := sorry
theorem dX10_turn_53 : decode cX10_turn 53 = .ok (.getfield 14, 3) := sorry
theorem dX10_turn_56 : decode cX10_turn 56 = .ok (.getfield 56, 3) := sorry
theorem dX10_turn_59 : decode cX10_turn 59 = .ok (.iconst 1, 1) := sorry
theorem dX10_turn_60 : decode cX10_turn 60 = .ok (.isub, 1) := sorry
theorem dX10_turn_61 : decode cX10_turn 61 = .ok (.iload_n 1, 1) := sorry
theorem dX10_turn_62 : decode cX10_turn 62 = .ok (.isub, 1) := sorry
theorem dX10_turn_63 : decode cX10_turn 63 = .ok (.imul, 1) := sorry
theorem dX10_turn_64 : decode cX10_turn 64 = .ok (.iadd, 1) := sorry
theorem dX10_turn_65 : decode cX10_turn 65 = .ok (.iaload, 1) := sorry
theorem dX10_turn_66 : decode cX10_turn 66 = .ok (.iastore, 1) := sorry
theorem dX10_turn_67 : decode cX10_turn 67 = .ok (.iinc 2 1, 3) := sorry
theorem dX10_turn_70 : decode cX10_turn 70 = .ok (.goto (-47), 3) := sorry
theorem dX10_turn_73 : decode cX10_turn 73 = .ok (.iinc 1 1, 3) := sorry
theorem dX10_turn_76 : decode cX10_turn 76 = .ok (.goto (-66), 3) := sorry
theorem dX10_turn_79 : decode cX10_turn 79 = .ok (.aload_n 0, 1) := sorry
theorem dX10_turn_80 : decode cX10_turn 80 = .ok (.getfield 14, 3) := sorry
theorem dX10_turn_83 : decode cX10_turn 83 = .ok (.aload_n 0, 1) := sorry
theorem dX10_turn_84 : decode cX10_turn 84 = .ok (.getfield 14, 3) := sorry
theorem dX10_turn_87 : decode cX10_turn 87 = .ok (.getfield 56, 3) := sorry
theorem dX10_turn_90 : decode cX10_turn 90 = .ok (.aload_n 0, 1) := sorry
theorem dX10_turn_91 : decode cX10_turn 91 = .ok (.getfield 14, 3) := sorry
theorem dX10_turn_94 : decode cX10_turn 94 = .ok (.getfield 52, 3) := sorry
theorem dX10_turn_97 : decode cX10_turn 97 = .ok (.aload_n 0, 1) := sorry
theorem dX10_turn_98 : decode cX10_turn 98 = .ok (.getfield 20, 3) := sorry
theorem dX10_turn_101 : decode cX10_turn 101 = .ok (.invokevirtual 68, 3) := sorry
theorem dX10_turn_104 : decode cX10_turn 104 = .ok (.return_, 1) := sorry
theorem dX10_shift_0 : decode cX10_shift 0 = .ok (.iconst 0, 1) := sorry
theorem dX10_shift_1 : decode cX10_shift 1 = .ok (.istore_n 2, 1) := sorry
theorem dX10_shift_2 : decode cX10_shift 2 = .ok (.iload_n 2, 1) := sorry
theorem dX10_shift_3 : decode cX10_shift 3 = .ok (.bipush 16, 2) := sorry
theorem dX10_shift_5 : decode cX10_shift 5 = .ok (.if_icmp .ge 51, 3) := sorry
theorem dX10_shift_8 : decode cX10_shift 8 = .ok (.aload_n 0, 1) := sorry
theorem dX10_shift_9 : decode cX10_shift 9 = .ok (.getfield 14, 3) := sorry
theorem dX10_shift_12 : decode cX10_shift 12 = .ok (.getfield 65, 3) := sorry
theorem dX10_shift_15 : decode cX10_shift 15 = .ok (.iload_n 2, 1) := sorry
theorem dX10_shift_16 : decode cX10_shift 16 = .ok (.iaload, 1) := sorry
theorem dX10_shift_17 : decode cX10_shift 17 = .ok (.iconst (-1), 1) := sorry
theorem dX10_shift_18 : decode cX10_shift 18 = .ok (.if_icmp .eq 32, 3) := sorry
theorem dX10_shift_21 : decode cX10_shift 21 = .ok (.aload_n 0, 1) := sorry
theorem dX10_shift_22 : decode cX10_shift 22 = .ok (.getfield 14, 3) := sorry
theorem dX10_shift_25 : decode cX10_shift 25 = .ok (.getfield 65, 3) := sorry
theorem dX10_shift_28 : decode cX10_shift 28 = .ok (.iload_n 2, 1) := sorry
theorem dX10_shift_29 : decode cX10_shift 29 = .ok (.iconst 0, 1) := sorry
theorem dX10_shift_30 : decode cX10_shift 30 = .ok (.bipush 99, 2) := sorry
theorem dX10_shift_32 : decode cX10_shift 32 = .ok (.aload_n 0, 1) := sorry
theorem dX10_shift_33 : decode cX10_shift 33 = .ok (.getfield 14, 3) := sorry
theorem dX10_shift_36 : decode cX10_shift 36 = .ok (.getfield 65, 3) := sorry
theorem dX10_shift_39 : decode cX10_shift 39 = .ok (.iload_n 2, 1) := sorry
theorem dX10_shift_40 : decode cX10_shift 40 = .ok (.iaload, 1) := sorry
theorem dX10_shift_41 : decode cX10_shift 41 = .ok (.iload_n 1, 1) := sorry
theorem dX10_shift_42 : decode cX10_shift 42 = .ok (.iadd, 1) := sorry
theorem dX10_shift_43 : decode cX10_shift 43 = .ok (.invokestatic 72, 3) := sorry
theorem dX10_shift_46 : decode cX10_shift 46 = .ok (.invokestatic 78, 3) := sorry
theorem dX10_shift_49 : decode cX10_shift 49 = .ok (.iastore, 1) := sorry
theorem dX10_shift_50 : decode cX10_shift 50 = .ok (.iinc 2 1, 3) := sorry
theorem dX10_shift_53 : decode cX10_shift 53 = .ok (.goto (-51), 3) := sorry
theorem dX10_shift_56 : decode cX10_shift 56 = .ok (.return_, 1) := sorry
theorem dX10_saveWorse_0 : decode cX10_saveWorse 0 = .ok (.iconst 0, 1) := sorry
theorem dX10_saveWorse_1 : decode cX10_saveWorse 1 = .ok (.istore_n 2, 1) := sorry
theorem dX10_saveWorse_2 : decode cX10_saveWorse 2 = .ok (.iload_n 2, 1) := sorry
theorem dX10_saveWorse_3 : decode cX10_saveWorse 3 = .ok (.bipush 16, 2) := sorry
theorem dX10_saveWorse_5 : decode cX10_saveWorse 5 = .ok (.if_icmp .ge 48, 3) := sorry
theorem dX10_saveWorse_8 : decode cX10_saveWorse 8 = .ok (.iload_n 1, 1) := sorry
theorem dX10_saveWorse_9 : decode cX10_saveWorse 9 = .ok (.ifCond .le 44, 3) := sorry
theorem dX10_saveWorse_12 : decode cX10_saveWorse 12 = .ok (.aload_n 0, 1) := sorry
theorem dX10_saveWorse_13 : decode cX10_saveWorse 13 = .ok (.getfield 14, 3) := sorry
theorem dX10_saveWorse_16 : decode cX10_saveWorse 16 = .ok (.getfield 65, 3) := sorry
theorem dX10_saveWorse_19 : decode cX10_saveWorse 19 = .ok (.iload_n 2, 1) := sorry
theorem dX10_saveWorse_20 : decode cX10_saveWorse 20 = .ok (.iaload, 1) := sorry
theorem dX10_saveWorse_21 : decode cX10_saveWorse 21 = .ok (.iconst (-1), 1) := sorry
theorem dX10_saveWorse_22 : decode cX10_saveWorse 22 = .ok (.if_icmp .eq 25, 3) := sorry
theorem dX10_saveWorse_25 : decode cX10_saveWorse 25 = .ok (.aload_n 0, 1) := sorry
theorem dX10_saveWorse_26 : decode cX10_saveWorse 26 = .ok (.getfield 14, 3) := sorry
theorem dX10_saveWorse_29 : decode cX10_saveWorse 29 = .ok (.getfield 65, 3) := sorry
theorem dX10_saveWorse_32 : decode cX10_saveWorse 32 = .ok (.iload_n 2, 1) := sorry
theorem dX10_saveWorse_33 : decode cX10_saveWorse 33 = .ok (.aload_n 0, 1) := sorry
theorem dX10_saveWorse_34 : decode cX10_saveWorse 34 = .ok (.getfield 14, 3) := sorry
theorem dX10_saveWorse_37 : decode cX10_saveWorse 37 = .ok (.getfield 65, 3) := sorry
theorem dX10_saveWorse_40 : decode cX10_saveWorse 40 = .ok (.iload_n 2, 1) := sorry
theorem dX10_saveWorse_41 : decode cX10_saveWorse 41 = .ok (.iaload, 1) := sorry
theorem dX10_saveWorse_42 : decode cX10_saveWorse 42 = .ok (.iload_n 1, 1) := sorry
theorem dX10_saveWorse_43 : decode cX10_saveWorse 43 = .ok (.idiv, 1) := sorry
theorem dX10_saveWorse_44 : decode cX10_saveWorse 44 = .ok (.iload_n 1, 1) := sorry
theorem dX10_saveWorse_45 : decode cX10_saveWorse 45 = .ok (.imul, 1) := sorry
theorem dX10_saveWorse_46 : decode cX10_saveWorse 46 = .ok (.iastore, 1) := sorry
theorem dX10_saveWorse_47 : decode cX10_saveWorse 47 = .ok (.iinc 2 1, 3) := sorry
theorem dX10_saveWorse_50 : decode cX10_saveWorse 50 = .ok (.goto (-48), 3) := sorry
theorem dX10_saveWorse_53 : decode cX10_saveWorse 53 = .ok (.return_, 1) := sorry
theorem dJ9_abs_0f7a4_0 : decode cJ9_abs_0f7a4 0 = .ok (.iload_n 0, 1) := sorry
theorem dJ9_abs_0f7a4_1 : decode cJ9_abs_0f7a4 1 = .ok (.ifCond .ge 8, 3) := sorry
theorem dJ9_abs_0f7a4_4 : decode cJ9_abs_0f7a4 4 = .ok (.iload_n 0, 1) := sorry
theorem dJ9_abs_0f7a4_5 : decode cJ9_abs_0f7a4 5 = .ok (.ineg, 1) := sorry
theorem dJ9_abs_0f7a4_6 : decode cJ9_abs_0f7a4 6 = .ok (.goto 4, 3) := sorry
theorem dJ9_abs_0f7a4_9 : decode cJ9_abs_0f7a4 9 = .ok (.iload_n 0, 1) := sorry
theorem dJ9_abs_0f7a4_10 : decode cJ9_abs_0f7a4 10 = .ok (.ireturn, 1) := sorry
theorem dJ9_max_7cf53_0 : decode cJ9_max_7cf53 0 = .ok (.iload_n 0, 1) := sorry
theorem dJ9_max_7cf53_1 : decode cJ9_max_7cf53 1 = .ok (.iload_n 1, 1) := sorry
theorem dJ9_max_7cf53_2 : decode cJ9_max_7cf53 2 = .ok (.if_icmp .lt 7, 3) := sorry
theorem dJ9_max_7cf53_5 : decode cJ9_max_7cf53 5 = .ok (.iload_n 0, 1) := sorry
theorem dJ9_max_7cf53_6 : decode cJ9_max_7cf53 6 = .ok (.goto 4, 3) := sorry
theorem dJ9_max_7cf53_9 : decode cJ9_max_7cf53 9 = .ok (.iload_n 1, 1) := sorry
theorem dJ9_max_7cf53_10 : decode cJ9_max_7cf53 10 = .ok (.ireturn, 1) := sorry
theorem dJ9_min_7cf53_0 : decode cJ9_min_7cf53 0 = .ok (.iload_n 0, 1) := sorry
theorem dJ9_min_7cf53_1 : decode cJ9_min_7cf53 1 = .ok (.iload_n 1, 1) := sorry
theorem dJ9_min_7cf53_2 : decode cJ9_min_7cf53 2 = .ok (.if_icmp .gt 7, 3) := sorry
theorem dJ9_min_7cf53_5 : decode cJ9_min_7cf53 5 = .ok (.iload_n 0, 1) := sorry
theorem dJ9_min_7cf53_6 : decode cJ9_min_7cf53 6 = .ok (.goto 4, 3) := sorry
theorem dJ9_min_7cf53_9 : decode cJ9_min_7cf53 9 = .ok (.iload_n 1, 1) := sorry
theorem dJ9_min_7cf53_10 : decode cJ9_min_7cf53 10 = .ok (.ireturn, 1) := sorry
theorem dJ7_fill_53178_0 : decode cJ7_fill_53178 0 = .ok (.iconst 0, 1) := sorry
theorem dJ7_fill_53178_1 : decode cJ7_fill_53178 1 = .ok (.istore_n 2, 1) := sorry
theorem dJ7_fill_53178_2 : decode cJ7_fill_53178 2 = .ok (.aload_n 0, 1) := sorry
theorem dJ7_fill_53178_3 : decode cJ7_fill_53178 3 = .ok (.arraylength, 1) := sorry
theorem dJ7_fill_53178_4 : decode cJ7_fill_53178 4 = .ok (.istore_n 3, 1) := sorry
theorem dJ7_fill_53178_5 : decode cJ7_fill_53178 5 = .ok (.iload_n 2, 1) := sorry
theorem dJ7_fill_53178_6 : decode cJ7_fill_53178 6 = .ok (.iload_n 3, 1) := sorry
theorem dJ7_fill_53178_7 : decode cJ7_fill_53178 7 = .ok (.if_icmp .ge 13, 3) := sorry
theorem dJ7_fill_53178_10 : decode cJ7_fill_53178 10 = .ok (.aload_n 0, 1) := sorry
theorem dJ7_fill_53178_11 : decode cJ7_fill_53178 11 = .ok (.iload_n 2, 1) := sorry
theorem dJ7_fill_53178_12 : decode cJ7_fill_53178 12 = .ok (.iload_n 1, 1) := sorry
theorem dJ7_fill_53178_13 : decode cJ7_fill_53178 13 = .ok (.iastore, 1) := sorry
theorem dJ7_fill_53178_14 : decode cJ7_fill_53178 14 = .ok (.iinc 2 1, 3) := sorry
theorem dJ7_fill_53178_17 : decode cJ7_fill_53178 17 = .ok (.goto (-12), 3) := sorry
theorem dJ7_fill_53178_20 : decode cJ7_fill_53178 20 = .ok (.return_, 1) := sorry
theorem dJ7_copyOf_59c91_0 : decode cJ7_copyOf_59c91 0 = .ok (.iload_n 1, 1) := sorry
theorem dJ7_copyOf_59c91_1 : decode cJ7_copyOf_59c91 1 = .ok (.aload_n 0, 1) := sorry
theorem dJ7_copyOf_59c91_2 : decode cJ7_copyOf_59c91 2 = .ok (.arraylength, 1) := sorry
theorem dJ7_copyOf_59c91_3 : decode cJ7_copyOf_59c91 3 = .ok (.if_icmp .ne 11, 3) := sorry
theorem dJ7_copyOf_59c91_6 : decode cJ7_copyOf_59c91 6 = .ok (.aload_n 0, 1) := sorry
theorem dJ7_copyOf_59c91_7 : decode cJ7_copyOf_59c91 7 = .ok (.invokevirtual 316, 3) := sorry
theorem dJ7_copyOf_59c91_10 : decode cJ7_copyOf_59c91 10 = .ok (.checkcast 317, 3) := sorry
theorem dJ7_copyOf_59c91_13 : decode cJ7_copyOf_59c91 13 = .ok (.areturn, 1) := sorry
theorem dJ7_copyOf_59c91_14 : decode cJ7_copyOf_59c91 14 = .ok (.iload_n 1, 1) := sorry
theorem dJ7_copyOf_59c91_15 : decode cJ7_copyOf_59c91 15 = .ok (.newarray .int, 2) := sorry
theorem dJ7_copyOf_59c91_17 : decode cJ7_copyOf_59c91 17 = .ok (.astore_n 2, 1) := sorry
theorem dJ7_copyOf_59c91_18 : decode cJ7_copyOf_59c91 18 = .ok (.aload_n 0, 1) := sorry
theorem dJ7_copyOf_59c91_19 : decode cJ7_copyOf_59c91 19 = .ok (.iconst 0, 1) := sorry
theorem dJ7_copyOf_59c91_20 : decode cJ7_copyOf_59c91 20 = .ok (.aload_n 2, 1) := sorry
theorem dJ7_copyOf_59c91_21 : decode cJ7_copyOf_59c91 21 = .ok (.iconst 0, 1) := sorry
theorem dJ7_copyOf_59c91_22 : decode cJ7_copyOf_59c91 22 = .ok (.aload_n 0, 1) := sorry
theorem dJ7_copyOf_59c91_23 : decode cJ7_copyOf_59c91 23 = .ok (.arraylength, 1) := sorry
theorem dJ7_copyOf_59c91_24 : decode cJ7_copyOf_59c91 24 = .ok (.iload_n 1, 1) := sorry
theorem dJ7_copyOf_59c91_25 : decode cJ7_copyOf_59c91 25 = .ok (.invokestatic 304, 3) := sorry
theorem dJ7_copyOf_59c91_28 : decode cJ7_copyOf_59c91 28 = .ok (.invokestatic 150, 3) := sorry
theorem dJ7_copyOf_59c91_31 : decode cJ7_copyOf_59c91 31 = .ok (.aload_n 2, 1) := sorry
theorem dJ7_copyOf_59c91_32 : decode cJ7_copyOf_59c91 32 = .ok (.areturn, 1) := sorry
end
section
theorem dX11_init_0 : decode cX11_init 0 = .ok (.aload_n 0, 1) := sorry
theorem dX11_init_1 : decode cX11_init 1 = .ok (.invokespecial 3, 3) := sorry
theorem dX11_init_4 : decode cX11_init 4 = .ok (.aload_n 0, 1) := sorry
theorem dX11_init_5 : decode cX11_init 5 = .ok (.bipush 12, 2) := sorry
theorem dX11_init_7 : decode cX11_init 7 = .ok (.anewarray 11, 3) := sorry
theorem dX11_init_10 : decode cX11_init 10 = .ok (.putfield 13, 3) := sorry
theorem dX11_init_13 : decode cX11_init 13 = .ok (.aload_n 0, 1) := sorry
theorem dX11_init_14 : decode cX11_init 14 = .ok (.bipush 6, 2) := sorry
theorem dX11_init_16 : decode cX11_init 16 = .ok (.anewarray 17, 3) := sorry
theorem dX11_init_19 : decode cX11_init 19 = .ok (.putfield 19, 3) := sorry
theorem dX11_init_22 : decode cX11_init 22 = .ok (.aload_n 0, 1) := sorry
theorem dX11_init_23 : decode cX11_init 23 = .ok (.bipush 9, 2) := sorry
theorem dX11_init_25 : decode cX11_init 25 = .ok (.anewarray 23, 3) := sorry
theorem dX11_init_28 : decode cX11_init 28 = .ok (.putfield 25, 3) := sorry
theorem dX11_init_31 : decode cX11_init 31 = .ok (.aload_n 0, 1) := sorry
theorem dX11_init_32 : decode cX11_init 32 = .ok (.iconst 4, 1) := sorry
theorem dX11_init_33 : decode cX11_init 33 = .ok (.anewarray 29, 3) := sorry
theorem dX11_init_36 : decode cX11_init 36 = .ok (.putfield 31, 3) := sorry
theorem dX11_init_39 : decode cX11_init 39 = .ok (.aload_n 0, 1) := sorry
theorem dX11_init_40 : decode cX11_init 40 = .ok (.new 35, 3) := sorry
theorem dX11_init_43 : decode cX11_init 43 = .ok (.dup, 1) := sorry
theorem dX11_init_44 : decode cX11_init 44 = .ok (.invokespecial 37, 3) := sorry
theorem dX11_init_47 : decode cX11_init 47 = .ok (.putfield 38, 3) := sorry
theorem dX11_init_50 : decode cX11_init 50 = .ok (.aload_n 0, 1) := sorry
theorem dX11_init_51 : decode cX11_init 51 = .ok (.new 42, 3) := sorry
theorem dX11_init_54 : decode cX11_init 54 = .ok (.dup, 1) := sorry
theorem dX11_init_55 : decode cX11_init 55 = .ok (.invokespecial 44, 3) := sorry
theorem dX11_init_58 : decode cX11_init 58 = .ok (.putfield 45, 3) := sorry
theorem dX11_init_61 : decode cX11_init 61 = .ok (.aload_n 0, 1) := sorry
theorem dX11_init_62 : decode cX11_init 62 = .ok (.new 49, 3) := sorry
theorem dX11_init_65 : decode cX11_init 65 = .ok (.dup, 1) := sorry
theorem dX11_init_66 : decode cX11_init 66 = .ok (.invokespecial 51, 3) := sorry
theorem dX11_init_69 : decode cX11_init 69 = .ok (.putfield 52, 3) := sorry
theorem dX11_init_72 : decode cX11_init 72 = .ok (.aload_n 0, 1) := sorry
theorem dX11_init_73 : decode cX11_init 73 = .ok (.new 56, 3) := sorry
theorem dX11_init_76 : decode cX11_init 76 = .ok (.dup, 1) := sorry
theorem dX11_init_77 : decode cX11_init 77 = .ok (.invokespecial 58, 3) := sorry
theorem dX11_init_80 : decode cX11_init 80 = .ok (.putfield 59, 3) := sorry
theorem dX11_init_83 : decode cX11_init 83 = .ok (.iconst 0, 1) := sorry
theorem dX11_init_84 : decode cX11_init 84 = .ok (.istore_n 1, 1) := sorry
theorem dX11_init_85 : decode cX11_init 85 = .ok (.iload_n 1, 1) := sorry
theorem dX11_init_86 : decode cX11_init 86 = .ok (.iconst 4, 1) := sorry
theorem dX11_init_87 : decode cX11_init 87 = .ok (.if_icmp .ge 22, 3) := sorry
theorem dX11_init_90 : decode cX11_init 90 = .ok (.aload_n 0, 1) := sorry
theorem dX11_init_91 : decode cX11_init 91 = .ok (.getfield 31, 3) := sorry
theorem dX11_init_94 : decode cX11_init 94 = .ok (.iload_n 1, 1) := sorry
theorem dX11_init_95 : decode cX11_init 95 = .ok (.new 29, 3) := sorry
theorem dX11_init_98 : decode cX11_init 98 = .ok (.dup, 1) := sorry
theorem dX11_init_99 : decode cX11_init 99 = .ok (.invokespecial 63, 3) := sorry
theorem dX11_init_102 : decode cX11_init 102 = .ok (.aastore, 1) := sorry
theorem dX11_init_103 : decode cX11_init 103 = .ok (.iinc 1 1, 3) := sorry
theorem dX11_init_106 : decode cX11_init 106 = .ok (.goto (-21), 3) := sorry
theorem dX11_init_109 : decode cX11_init 109 = .ok (.return_, 1) := sorry
theorem dX11_picture_0 : decode cX11_picture 0 = .ok (.aload_n 0, 1) := sorry
theorem dX11_picture_1 : decode cX11_picture 1 = .ok (.iconst 0, 1) := sorry
theorem dX11_picture_2 : decode cX11_picture 2 = .ok (.putfield 64, 3) := sorry
theorem dX11_picture_5 : decode cX11_picture 5 = .ok (.aload_n 0, 1) := sorry
theorem dX11_picture_6 : decode cX11_picture 6 = .ok (.iload_n 3, 1) := sorry
theorem dX11_picture_7 : decode cX11_picture 7 = .ok (.invokevirtual 68, 3) := sorry
theorem dX11_picture_10 : decode cX11_picture 10 = .ok (.astore 6, 2) := sorry
theorem dX11_picture_12 : decode cX11_picture 12 = .ok (.aload 6, 2) := sorry
theorem dX11_picture_14 : decode cX11_picture 14 = .ok (.ifnonnull 5, 3) := sorry
theorem dX11_picture_17 : decode cX11_picture 17 = .ok (.iconst (-1), 1) := sorry
theorem dX11_picture_18 : decode cX11_picture 18 = .ok (.ireturn, 1) := sorry
theorem dX11_picture_19 : decode cX11_picture 19 = .ok (.iload_n 1, 1) := sorry
theorem dX11_picture_20 : decode cX11_picture 20 = .ok (.iconst 1, 1) := sorry
theorem dX11_picture_21 : decode cX11_picture 21 = .ok (.iconst 4, 1) := sorry
theorem dX11_picture_22 : decode cX11_picture 22 = .ok (.invokestatic 72, 3) := sorry
theorem dX11_picture_25 : decode cX11_picture 25 = .ok (.ifCond .eq 20, 3) := sorry
theorem dX11_picture_28 : decode cX11_picture 28 = .ok (.iload_n 2, 1) := sorry
theorem dX11_picture_29 : decode cX11_picture 29 = .ok (.iconst 1, 1) := sorry
theorem dX11_picture_30 : decode cX11_picture 30 = .ok (.iconst 4, 1) := sorry
theorem dX11_picture_31 : decode cX11_picture 31 = .ok (.invokestatic 72, 3) := sorry
theorem dX11_picture_34 : decode cX11_picture 34 = .ok (.ifCond .eq 11, 3) := sorry
theorem dX11_picture_37 : decode cX11_picture 37 = .ok (.iload 4, 2) := sorry
theorem dX11_picture_39 : decode cX11_picture 39 = .ok (.invokestatic 76, 3) := sorry
theorem dX11_picture_42 : decode cX11_picture 42 = .ok (.ifCond .ne 6, 3) := sorry
theorem dX11_picture_45 : decode cX11_picture 45 = .ok (.bipush (-2), 2) := sorry
theorem dX11_picture_47 : decode cX11_picture 47 = .ok (.ireturn, 1) := sorry
theorem dX11_picture_48 : decode cX11_picture 48 = .ok (.aload 6, 2) := sorry
theorem dX11_picture_50 : decode cX11_picture 50 = .ok (.iload 4, 2) := sorry
theorem dX11_picture_52 : decode cX11_picture 52 = .ok (.iload 5, 2) := sorry
theorem dX11_picture_54 : decode cX11_picture 54 = .ok (.iload_n 1, 1) := sorry
theorem dX11_picture_55 : decode cX11_picture 55 = .ok (.iload_n 2, 1) := sorry
theorem dX11_picture_56 : decode cX11_picture 56 = .ok (.imul, 1) := sorry
theorem dX11_picture_57 : decode cX11_picture 57 = .ok (.invokevirtual 80, 3) := sorry
theorem dX11_picture_60 : decode cX11_picture 60 = .ok (.istore 7, 2) := sorry
theorem dX11_picture_62 : decode cX11_picture 62 = .ok (.iload 7, 2) := sorry
theorem dX11_picture_64 : decode cX11_picture 64 = .ok (.ifCond .eq 10, 3) := sorry
theorem dX11_picture_67 : decode cX11_picture 67 = .ok (.aload_n 0, 1) := sorry
theorem dX11_picture_68 : decode cX11_picture 68 = .ok (.iload 7, 2) := sorry
theorem dX11_picture_70 : decode cX11_picture 70 = .ok (.invokevirtual 84, 3) := sorry
theorem dX11_picture_73 : decode cX11_picture 73 = .ok (.ireturn, 1) := sorry
theorem dX11_picture_74 : decode cX11_picture 74 = .ok (.aload 6, 2) := sorry
theorem dX11_picture_76 : decode cX11_picture 76 = .ok (.iload 5, 2) := sorry
theorem dX11_picture_78 : decode cX11_picture 78 = .ok (.iload_n 1, 1) := sorry
theorem dX11_picture_79 : decode cX11_picture 79 = .ok (.iload_n 2, 1) := sorry
theorem dX11_picture_80 : decode cX11_picture 80 = .ok (.imul, 1) := sorry
theorem dX11_picture_81 : decode cX11_picture 81 = .ok (.invokevirtual 88, 3) := sorry
theorem dX11_picture_84 : decode cX11_picture 84 = .ok (.ifCond .ne 6, 3) := sorry
theorem dX11_picture_87 : decode cX11_picture 87 = .ok (.bipush (-2), 2) := sorry
theorem dX11_picture_89 : decode cX11_picture 89 = .ok (.ireturn, 1) := sorry
theorem dX11_picture_90 : decode cX11_picture 90 = .ok (.aload_n 0, 1) := sorry
theorem dX11_picture_91 : decode cX11_picture 91 = .ok (.getfield 92, 3) := sorry
theorem dX11_picture_94 : decode cX11_picture 94 = .ok (.bipush 12, 2) := sorry
theorem dX11_picture_96 : decode cX11_picture 96 = .ok (.if_icmp .lt 6, 3) := sorry
theorem dX11_picture_99 : decode cX11_picture 99 = .ok (.bipush (-4), 2) := sorry
theorem dX11_picture_101 : decode cX11_picture 101 = .ok (.ireturn, 1) := sorry
theorem dX11_picture_102 : decode cX11_picture 102 = .ok (.aload_n 0, 1) := sorry
theorem dX11_picture_103 : decode cX11_picture 103 = .ok (.invokevirtual 95, 3) := sorry
theorem dX11_picture_106 : decode cX11_picture 106 = .ok (.astore 8, 2) := sorry
theorem dX11_picture_108 : decode cX11_picture 108 = .ok (.aload 8, 2) := sorry
theorem dX11_picture_110 : decode cX11_picture 110 = .ok (.iload_n 1, 1) := sorry
theorem dX11_picture_111 : decode cX11_picture 111 = .ok (.iload_n 2, 1) := sorry
theorem dX11_picture_112 : decode cX11_picture 112 = .ok (.aload 6, 2) := sorry
theorem dX11_picture_114 : decode cX11_picture 114 = .ok (.iload 5, 2) := sorry
theorem dX11_picture_116 : decode cX11_picture 116 = .ok (.invokevirtual 99, 3) := sorry
theorem dX11_picture_119 : decode cX11_picture 119 = .ok (.aload 8, 2) := sorry
theorem dX11_picture_121 : decode cX11_picture 121 = .ok (.getfield 103, 3) := sorry
theorem dX11_picture_124 : decode cX11_picture 124 = .ok (.ireturn, 1) := sorry
theorem dX11_ofPicture_0 : decode cX11_ofPicture 0 = .ok (.aload_n 0, 1) := sorry
theorem dX11_ofPicture_1 : decode cX11_ofPicture 1 = .ok (.iload_n 1, 1) := sorry
theorem dX11_ofPicture_2 : decode cX11_ofPicture 2 = .ok (.invokevirtual 106, 3) := sorry
theorem dX11_ofPicture_5 : decode cX11_ofPicture 5 = .ok (.astore_n 3, 1) := sorry
theorem dX11_ofPicture_6 : decode cX11_ofPicture 6 = .ok (.aload_n 3, 1) := sorry
theorem dX11_ofPicture_7 : decode cX11_ofPicture 7 = .ok (.ifnonnull 5, 3) := sorry
theorem dX11_ofPicture_10 : decode cX11_ofPicture 10 = .ok (.iconst (-1), 1) := sorry
theorem dX11_ofPicture_11 : decode cX11_ofPicture 11 = .ok (.ireturn, 1) := sorry
theorem dX11_ofPicture_12 : decode cX11_ofPicture 12 = .ok (.iload_n 2, 1) := sorry
theorem dX11_ofPicture_13 : decode cX11_ofPicture 13 = .ok (.tableswitch 55 0 3 #[31, 36, 41, 46], 31) := sorry
theorem dX11_ofPicture_44 : decode cX11_ofPicture 44 = .ok (.aload_n 3, 1) := sorry
theorem dX11_ofPicture_45 : decode cX11_ofPicture 45 = .ok (.getfield 110, 3) := sorry
theorem dX11_ofPicture_48 : decode cX11_ofPicture 48 = .ok (.ireturn, 1) := sorry
theorem dX11_ofPicture_49 : decode cX11_ofPicture 49 = .ok (.aload_n 3, 1) := sorry
theorem dX11_ofPicture_50 : decode cX11_ofPicture 50 = .ok (.getfield 113, 3) := sorry
theorem dX11_ofPicture_53 : decode cX11_ofPicture 53 = .ok (.ireturn, 1) := sorry
theorem dX11_ofPicture_54 : decode cX11_ofPicture 54 = .ok (.aload_n 3, 1) := sorry
theorem dX11_ofPicture_55 : decode cX11_ofPicture 55 = .ok (.invokevirtual 116, 3) := sorry
theorem dX11_ofPicture_58 : decode cX11_ofPicture 58 = .ok (.ireturn, 1) := sorry
theorem dX11_ofPicture_59 : decode cX11_ofPicture 59 = .ok (.aload_n 0, 1) := sorry
theorem dX11_ofPicture_60 : decode cX11_ofPicture 60 = .ok (.getfield 38, 3) := sorry
theorem dX11_ofPicture_63 : decode cX11_ofPicture 63 = .ok (.aload_n 3, 1) := sorry
theorem dX11_ofPicture_64 : decode cX11_ofPicture 64 = .ok (.invokevirtual 120, 3) := sorry
theorem dX11_ofPicture_67 : decode cX11_ofPicture 67 = .ok (.ireturn, 1) := sorry
theorem dX11_ofPicture_68 : decode cX11_ofPicture 68 = .ok (.iload_n 2, 1) := sorry
theorem dX11_ofPicture_69 : decode cX11_ofPicture 69 = .ok (.bipush 10, 2) := sorry
theorem dX11_ofPicture_71 : decode cX11_ofPicture 71 = .ok (.if_icmp .lt 14, 3) := sorry
theorem dX11_ofPicture_74 : decode cX11_ofPicture 74 = .ok (.aload_n 3, 1) := sorry
theorem dX11_ofPicture_75 : decode cX11_ofPicture 75 = .ok (.iload_n 2, 1) := sorry
theorem dX11_ofPicture_76 : decode cX11_ofPicture 76 = .ok (.bipush 10, 2) := sorry
theorem dX11_ofPicture_78 : decode cX11_ofPicture 78 = .ok (.isub, 1) := sorry
theorem dX11_ofPicture_79 : decode cX11_ofPicture 79 = .ok (.invokevirtual 124, 3) := sorry
theorem dX11_ofPicture_82 : decode cX11_ofPicture 82 = .ok (.ifCond .ne 6, 3) := sorry
theorem dX11_ofPicture_85 : decode cX11_ofPicture 85 = .ok (.bipush (-2), 2) := sorry
theorem dX11_ofPicture_87 : decode cX11_ofPicture 87 = .ok (.ireturn, 1) := sorry
theorem dX11_ofPicture_88 : decode cX11_ofPicture 88 = .ok (.aload_n 3, 1) := sorry
theorem dX11_ofPicture_89 : decode cX11_ofPicture 89 = .ok (.getfield 127, 3) := sorry
theorem dX11_ofPicture_92 : decode cX11_ofPicture 92 = .ok (.iload_n 2, 1) := sorry
theorem dX11_ofPicture_93 : decode cX11_ofPicture 93 = .ok (.bipush 10, 2) := sorry
theorem dX11_ofPicture_95 : decode cX11_ofPicture 95 = .ok (.isub, 1) := sorry
theorem dX11_ofPicture_96 : decode cX11_ofPicture 96 = .ok (.iaload, 1) := sorry
theorem dX11_ofPicture_97 : decode cX11_ofPicture 97 = .ok (.ireturn, 1) := sorry
theorem dX11_alter_0 : decode cX11_alter 0 = .ok (.aload_n 0, 1) := sorry
theorem dX11_alter_1 : decode cX11_alter 1 = .ok (.iload_n 1, 1) := sorry
theorem dX11_alter_2 : decode cX11_alter 2 = .ok (.invokevirtual 106, 3) := sorry
theorem dX11_alter_5 : decode cX11_alter 5 = .ok (.astore 4, 2) := sorry
theorem dX11_alter_7 : decode cX11_alter 7 = .ok (.aload 4, 2) := sorry
theorem dX11_alter_9 : decode cX11_alter 9 = .ok (.ifnull 12, 3) := sorry
theorem dX11_alter_12 : decode cX11_alter 12 = .ok (.aload 4, 2) := sorry
theorem dX11_alter_14 : decode cX11_alter 14 = .ok (.iload_n 2, 1) := sorry
theorem dX11_alter_15 : decode cX11_alter 15 = .ok (.invokevirtual 124, 3) := sorry
theorem dX11_alter_18 : decode cX11_alter 18 = .ok (.ifCond .ne 5, 3) := sorry
theorem dX11_alter_21 : decode cX11_alter 21 = .ok (.iconst (-1), 1) := sorry
theorem dX11_alter_22 : decode cX11_alter 22 = .ok (.ireturn, 1) := sorry
theorem dX11_alter_23 : decode cX11_alter 23 = .ok (.iload_n 3, 1) := sorry
theorem dX11_alter_24 : decode cX11_alter 24 = .ok (.iconst 0, 1) := sorry
theorem dX11_alter_25 : decode cX11_alter 25 = .ok (.bipush 99, 2) := sorry
theorem dX11_alter_27 : decode cX11_alter 27 = .ok (.invokestatic 72, 3) := sorry
theorem dX11_alter_30 : decode cX11_alter 30 = .ok (.ifCond .ne 6, 3) := sorry
theorem dX11_alter_33 : decode cX11_alter 33 = .ok (.bipush (-2), 2) := sorry
theorem dX11_alter_35 : decode cX11_alter 35 = .ok (.ireturn, 1) := sorry
theorem dX11_alter_36 : decode cX11_alter 36 = .ok (.aload 4, 2) := sorry
theorem dX11_alter_38 : decode cX11_alter 38 = .ok (.getfield 127, 3) := sorry
theorem dX11_alter_41 : decode cX11_alter 41 = .ok (.iload_n 2, 1) := sorry
theorem dX11_alter_42 : decode cX11_alter 42 = .ok (.iaload, 1) := sorry
theorem dX11_alter_43 : decode cX11_alter 43 = .ok (.istore 5, 2) := sorry
theorem dX11_alter_45 : decode cX11_alter 45 = .ok (.aload 4, 2) := sorry
theorem dX11_alter_47 : decode cX11_alter 47 = .ok (.getfield 127, 3) := sorry
theorem dX11_alter_50 : decode cX11_alter 50 = .ok (.iload_n 2, 1) := sorry
theorem dX11_alter_51 : decode cX11_alter 51 = .ok (.iload_n 3, 1) := sorry
theorem dX11_alter_52 : decode cX11_alter 52 = .ok (.iastore, 1) := sorry
theorem dX11_alter_53 : decode cX11_alter 53 = .ok (.iload 5, 2) := sorry
theorem dX11_alter_55 : decode cX11_alter 55 = .ok (.ireturn, 1) := sorry
theorem dX11_lens_0 : decode cX11_lens 0 = .ok (.iload_n 1, 1) := sorry
theorem dX11_lens_1 : decode cX11_lens 1 = .ok (.iconst 1, 1) := sorry
theorem dX11_lens_2 : decode cX11_lens 2 = .ok (.sipush 9972, 3) := sorry
theorem dX11_lens_5 : decode cX11_lens 5 = .ok (.invokestatic 72, 3) := sorry
theorem dX11_lens_8 : decode cX11_lens 8 = .ok (.ifCond .ne 6, 3) := sorry
theorem dX11_lens_11 : decode cX11_lens 11 = .ok (.bipush (-2), 2) := sorry
theorem dX11_lens_13 : decode cX11_lens 13 = .ok (.ireturn, 1) := sorry
theorem dX11_lens_14 : decode cX11_lens 14 = .ok (.aload_n 0, 1) := sorry
theorem dX11_lens_15 : decode cX11_lens 15 = .ok (.getfield 131, 3) := sorry
theorem dX11_lens_18 : decode cX11_lens 18 = .ok (.bipush 6, 2) := sorry
theorem dX11_lens_20 : decode cX11_lens 20 = .ok (.if_icmp .lt 6, 3) := sorry
theorem dX11_lens_23 : decode cX11_lens 23 = .ok (.bipush (-4), 2) := sorry
theorem dX11_lens_25 : decode cX11_lens 25 = .ok (.ireturn, 1) := sorry
theorem dX11_lens_26 : decode cX11_lens 26 = .ok (.aload_n 0, 1) := sorry
theorem dX11_lens_27 : decode cX11_lens 27 = .ok (.getfield 19, 3) := sorry
theorem dX11_lens_30 : decode cX11_lens 30 = .ok (.aload_n 0, 1) := sorry
theorem dX11_lens_31 : decode cX11_lens 31 = .ok (.getfield 131, 3) := sorry
theorem dX11_lens_34 : decode cX11_lens 34 = .ok (.new 17, 3) := sorry
theorem dX11_lens_37 : decode cX11_lens 37 = .ok (.dup, 1) := sorry
theorem dX11_lens_38 : decode cX11_lens 38 = .ok (.aload_n 0, 1) := sorry
theorem dX11_lens_39 : decode cX11_lens 39 = .ok (.getfield 131, 3) := sorry
theorem dX11_lens_42 : decode cX11_lens 42 = .ok (.iload_n 1, 1) := sorry
theorem dX11_lens_43 : decode cX11_lens 43 = .ok (.invokespecial 134, 3) := sorry
theorem dX11_lens_46 : decode cX11_lens 46 = .ok (.aastore, 1) := sorry
theorem dX11_lens_47 : decode cX11_lens 47 = .ok (.aload_n 0, 1) := sorry
theorem dX11_lens_48 : decode cX11_lens 48 = .ok (.dup, 1) := sorry
theorem dX11_lens_49 : decode cX11_lens 49 = .ok (.getfield 131, 3) := sorry
theorem dX11_lens_52 : decode cX11_lens 52 = .ok (.dup_x1, 1) := sorry
theorem dX11_lens_53 : decode cX11_lens 53 = .ok (.iconst 1, 1) := sorry
theorem dX11_lens_54 : decode cX11_lens 54 = .ok (.iadd, 1) := sorry
theorem dX11_lens_55 : decode cX11_lens 55 = .ok (.putfield 131, 3) := sorry
theorem dX11_lens_58 : decode cX11_lens 58 = .ok (.ireturn, 1) := sorry
theorem dX11_steal_0 : decode cX11_steal 0 = .ok (.aload_n 0, 1) := sorry
theorem dX11_steal_1 : decode cX11_steal 1 = .ok (.iload_n 1, 1) := sorry
theorem dX11_steal_2 : decode cX11_steal 2 = .ok (.invokevirtual 137, 3) := sorry
theorem dX11_steal_5 : decode cX11_steal 5 = .ok (.astore_n 3, 1) := sorry
theorem dX11_steal_6 : decode cX11_steal 6 = .ok (.aload_n 3, 1) := sorry
theorem dX11_steal_7 : decode cX11_steal 7 = .ok (.ifnonnull 5, 3) := sorry
theorem dX11_steal_10 : decode cX11_steal 10 = .ok (.iconst (-1), 1) := sorry
theorem dX11_steal_11 : decode cX11_steal 11 = .ok (.ireturn, 1) := sorry
theorem dX11_steal_12 : decode cX11_steal 12 = .ok (.iload_n 2, 1) := sorry
theorem dX11_steal_13 : decode cX11_steal 13 = .ok (.iconst 0, 1) := sorry
theorem dX11_steal_14 : decode cX11_steal 14 = .ok (.sipush 1000, 3) := sorry
theorem dX11_steal_17 : decode cX11_steal 17 = .ok (.invokestatic 72, 3) := sorry
theorem dX11_steal_20 : decode cX11_steal 20 = .ok (.ifCond .ne 6, 3) := sorry
theorem dX11_steal_23 : decode cX11_steal 23 = .ok (.bipush (-2), 2) := sorry
theorem dX11_steal_25 : decode cX11_steal 25 = .ok (.ireturn, 1) := sorry
theorem dX11_steal_26 : decode cX11_steal 26 = .ok (.aload_n 3, 1) := sorry
theorem dX11_steal_27 : decode cX11_steal 27 = .ok (.getfield 141, 3) := sorry
theorem dX11_steal_30 : decode cX11_steal 30 = .ok (.istore 4, 2) := sorry
theorem dX11_steal_32 : decode cX11_steal 32 = .ok (.aload_n 3, 1) := sorry
theorem dX11_steal_33 : decode cX11_steal 33 = .ok (.iload_n 2, 1) := sorry
theorem dX11_steal_34 : decode cX11_steal 34 = .ok (.putfield 141, 3) := sorry
theorem dX11_steal_37 : decode cX11_steal 37 = .ok (.iload 4, 2) := sorry
theorem dX11_steal_39 : decode cX11_steal 39 = .ok (.ireturn, 1) := sorry
theorem dX11_take_0 : decode cX11_take 0 = .ok (.aload_n 0, 1) := sorry
theorem dX11_take_1 : decode cX11_take 1 = .ok (.iload_n 1, 1) := sorry
theorem dX11_take_2 : decode cX11_take 2 = .ok (.invokevirtual 106, 3) := sorry
theorem dX11_take_5 : decode cX11_take 5 = .ok (.astore 4, 2) := sorry
theorem dX11_take_7 : decode cX11_take 7 = .ok (.aload_n 0, 1) := sorry
theorem dX11_take_8 : decode cX11_take 8 = .ok (.iload_n 2, 1) := sorry
theorem dX11_take_9 : decode cX11_take 9 = .ok (.invokevirtual 137, 3) := sorry
theorem dX11_take_12 : decode cX11_take 12 = .ok (.astore 5, 2) := sorry
theorem dX11_take_14 : decode cX11_take 14 = .ok (.aload 4, 2) := sorry
theorem dX11_take_16 : decode cX11_take 16 = .ok (.ifnull 8, 3) := sorry
theorem dX11_take_19 : decode cX11_take 19 = .ok (.aload 5, 2) := sorry
theorem dX11_take_21 : decode cX11_take 21 = .ok (.ifnonnull 5, 3) := sorry
theorem dX11_take_24 : decode cX11_take 24 = .ok (.iconst (-1), 1) := sorry
theorem dX11_take_25 : decode cX11_take 25 = .ok (.ireturn, 1) := sorry
theorem dX11_take_26 : decode cX11_take 26 = .ok (.iload_n 3, 1) := sorry
theorem dX11_take_27 : decode cX11_take 27 = .ok (.invokestatic 144, 3) := sorry
theorem dX11_take_30 : decode cX11_take 30 = .ok (.ifCond .ne 6, 3) := sorry
theorem dX11_take_33 : decode cX11_take 33 = .ok (.bipush (-2), 2) := sorry
theorem dX11_take_35 : decode cX11_take 35 = .ok (.ireturn, 1) := sorry
theorem dX11_take_36 : decode cX11_take 36 = .ok (.aload 4, 2) := sorry
theorem dX11_take_38 : decode cX11_take 38 = .ok (.getfield 147, 3) := sorry
theorem dX11_take_41 : decode cX11_take 41 = .ok (.ifnull 6, 3) := sorry
theorem dX11_take_44 : decode cX11_take 44 = .ok (.bipush (-3), 2) := sorry
theorem dX11_take_46 : decode cX11_take 46 = .ok (.ireturn, 1) := sorry
theorem dX11_take_47 : decode cX11_take 47 = .ok (.aload 4, 2) := sorry
theorem dX11_take_49 : decode cX11_take 49 = .ok (.new 151, 3) := sorry
theorem dX11_take_52 : decode cX11_take 52 = .ok (.dup, 1) := sorry
theorem dX11_take_53 : decode cX11_take 53 = .ok (.aload 5, 2) := sorry
theorem dX11_take_55 : decode cX11_take 55 = .ok (.iload_n 3, 1) := sorry
theorem dX11_take_56 : decode cX11_take 56 = .ok (.aload_n 0, 1) := sorry
theorem dX11_take_57 : decode cX11_take 57 = .ok (.aload 4, 2) := sorry
theorem dX11_take_59 : decode cX11_take 59 = .ok (.aload 5, 2) := sorry
theorem dX11_take_61 : decode cX11_take 61 = .ok (.iload_n 3, 1) := sorry
theorem dX11_take_62 : decode cX11_take 62 = .ok (.invokevirtual 153, 3) := sorry
theorem dX11_take_65 : decode cX11_take 65 = .ok (.invokespecial 157, 3) := sorry
theorem dX11_take_68 : decode cX11_take 68 = .ok (.putfield 147, 3) := sorry
theorem dX11_take_71 : decode cX11_take 71 = .ok (.aload 4, 2) := sorry
theorem dX11_take_73 : decode cX11_take 73 = .ok (.getfield 147, 3) := sorry
theorem dX11_take_76 : decode cX11_take 76 = .ok (.getfield 160, 3) := sorry
theorem dX11_take_79 : decode cX11_take 79 = .ok (.ireturn, 1) := sorry
theorem dX11_hush_0 : decode cX11_hush 0 = .ok (.aload_n 0, 1) := sorry
theorem dX11_hush_1 : decode cX11_hush 1 = .ok (.iload_n 1, 1) := sorry
theorem dX11_hush_2 : decode cX11_hush 2 = .ok (.invokevirtual 106, 3) := sorry
theorem dX11_hush_5 : decode cX11_hush 5 = .ok (.astore 5, 2) := sorry
theorem dX11_hush_7 : decode cX11_hush 7 = .ok (.aload_n 0, 1) := sorry
theorem dX11_hush_8 : decode cX11_hush 8 = .ok (.iload_n 2, 1) := sorry
theorem dX11_hush_9 : decode cX11_hush 9 = .ok (.invokevirtual 106, 3) := sorry
theorem dX11_hush_12 : decode cX11_hush 12 = .ok (.astore 6, 2) := sorry
theorem dX11_hush_14 : decode cX11_hush 14 = .ok (.aload_n 0, 1) := sorry
theorem dX11_hush_15 : decode cX11_hush 15 = .ok (.iload_n 3, 1) := sorry
theorem dX11_hush_16 : decode cX11_hush 16 = .ok (.invokevirtual 137, 3) := sorry
theorem dX11_hush_19 : decode cX11_hush 19 = .ok (.astore 7, 2) := sorry
theorem dX11_hush_21 : decode cX11_hush 21 = .ok (.aload 5, 2) := sorry
theorem dX11_hush_23 : decode cX11_hush 23 = .ok (.ifnull 13, 3) := sorry
theorem dX11_hush_26 : decode cX11_hush 26 = .ok (.aload 6, 2) := sorry
theorem dX11_hush_28 : decode cX11_hush 28 = .ok (.ifnull 8, 3) := sorry
theorem dX11_hush_31 : decode cX11_hush 31 = .ok (.aload 7, 2) := sorry
theorem dX11_hush_33 : decode cX11_hush 33 = .ok (.ifnonnull 5, 3) := sorry
theorem dX11_hush_36 : decode cX11_hush 36 = .ok (.iconst (-1), 1) := sorry
theorem dX11_hush_37 : decode cX11_hush 37 = .ok (.ireturn, 1) := sorry
theorem dX11_hush_38 : decode cX11_hush 38 = .ok (.iload 4, 2) := sorry
theorem dX11_hush_40 : decode cX11_hush 40 = .ok (.invokestatic 144, 3) := sorry
theorem dX11_hush_43 : decode cX11_hush 43 = .ok (.ifCond .ne 6, 3) := sorry
theorem dX11_hush_46 : decode cX11_hush 46 = .ok (.bipush (-2), 2) := sorry
theorem dX11_hush_48 : decode cX11_hush 48 = .ok (.ireturn, 1) := sorry
theorem dX11_hush_49 : decode cX11_hush 49 = .ok (.aload 5, 2) := sorry
theorem dX11_hush_51 : decode cX11_hush 51 = .ok (.getfield 147, 3) := sorry
theorem dX11_hush_54 : decode cX11_hush 54 = .ok (.ifnonnull 8, 3) := sorry
theorem dX11_hush_57 : decode cX11_hush 57 = .ok (.iload_n 2, 1) := sorry
theorem dX11_hush_58 : decode cX11_hush 58 = .ok (.iload_n 1, 1) := sorry
theorem dX11_hush_59 : decode cX11_hush 59 = .ok (.if_icmp .lt 6, 3) := sorry
theorem dX11_hush_62 : decode cX11_hush 62 = .ok (.bipush (-3), 2) := sorry
theorem dX11_hush_64 : decode cX11_hush 64 = .ok (.ireturn, 1) := sorry
theorem dX11_hush_65 : decode cX11_hush 65 = .ok (.aload 5, 2) := sorry
theorem dX11_hush_67 : decode cX11_hush 67 = .ok (.new 163, 3) := sorry
theorem dX11_hush_70 : decode cX11_hush 70 = .ok (.dup, 1) := sorry
theorem dX11_hush_71 : decode cX11_hush 71 = .ok (.aload 7, 2) := sorry
theorem dX11_hush_73 : decode cX11_hush 73 = .ok (.iload 4, 2) := sorry
theorem dX11_hush_75 : decode cX11_hush 75 = .ok (.aload_n 0, 1) := sorry
theorem dX11_hush_76 : decode cX11_hush 76 = .ok (.aload 5, 2) := sorry
theorem dX11_hush_78 : decode cX11_hush 78 = .ok (.aload 7, 2) := sorry
theorem dX11_hush_80 : decode cX11_hush 80 = .ok (.iload 4, 2) := sorry
theorem dX11_hush_82 : decode cX11_hush 82 = .ok (.invokevirtual 153, 3) := sorry
theorem dX11_hush_85 : decode cX11_hush 85 = .ok (.aload 6, 2) := sorry
theorem dX11_hush_87 : decode cX11_hush 87 = .ok (.invokespecial 165, 3) := sorry
theorem dX11_hush_90 : decode cX11_hush 90 = .ok (.putfield 147, 3) := sorry
theorem dX11_hush_93 : decode cX11_hush 93 = .ok (.aload 5, 2) := sorry
theorem dX11_hush_95 : decode cX11_hush 95 = .ok (.getfield 147, 3) := sorry
theorem dX11_hush_98 : decode cX11_hush 98 = .ok (.getfield 160, 3) := sorry
theorem dX11_hush_101 : decode cX11_hush 101 = .ok (.ireturn, 1) := sorry
theorem dX11_change_0 : decode cX11_change 0 = .ok (.aload_n 0, 1) := sorry
theorem dX11_change_1 : decode cX11_change 1 = .ok (.iconst 0, 1) := sorry
theorem dX11_change_2 : decode cX11_change 2 = .ok (.putfield 64, 3) := sorry
theorem dX11_change_5 : decode cX11_change 5 = .ok (.aload_n 0, 1) := sorry
theorem dX11_change_6 : decode cX11_change 6 = .ok (.iload_n 1, 1) := sorry
theorem dX11_change_7 : decode cX11_change 7 = .ok (.invokevirtual 106, 3) := sorry
theorem dX11_change_10 : decode cX11_change 10 = .ok (.astore 9, 2) := sorry
theorem dX11_change_12 : decode cX11_change 12 = .ok (.aload_n 0, 1) := sorry
theorem dX11_change_13 : decode cX11_change 13 = .ok (.iload_n 2, 1) := sorry
theorem dX11_change_14 : decode cX11_change 14 = .ok (.invokevirtual 106, 3) := sorry
theorem dX11_change_17 : decode cX11_change 17 = .ok (.astore 10, 2) := sorry
theorem dX11_change_19 : decode cX11_change 19 = .ok (.aload_n 0, 1) := sorry
theorem dX11_change_20 : decode cX11_change 20 = .ok (.iload_n 3, 1) := sorry
theorem dX11_change_21 : decode cX11_change 21 = .ok (.invokevirtual 137, 3) := sorry
theorem dX11_change_24 : decode cX11_change 24 = .ok (.astore 11, 2) := sorry
theorem dX11_change_26 : decode cX11_change 26 = .ok (.aload_n 0, 1) := sorry
theorem dX11_change_27 : decode cX11_change 27 = .ok (.iload 5, 2) := sorry
theorem dX11_change_29 : decode cX11_change 29 = .ok (.invokevirtual 68, 3) := sorry
theorem dX11_change_32 : decode cX11_change 32 = .ok (.astore 12, 2) := sorry
theorem dX11_change_34 : decode cX11_change 34 = .ok (.aload 9, 2) := sorry
theorem dX11_change_36 : decode cX11_change 36 = .ok (.ifnull 18, 3) := sorry
theorem dX11_change_39 : decode cX11_change 39 = .ok (.aload 10, 2) := sorry
theorem dX11_change_41 : decode cX11_change 41 = .ok (.ifnull 13, 3) := sorry
theorem dX11_change_44 : decode cX11_change 44 = .ok (.aload 11, 2) := sorry
theorem dX11_change_46 : decode cX11_change 46 = .ok (.ifnull 8, 3) := sorry
theorem dX11_change_49 : decode cX11_change 49 = .ok (.aload 12, 2) := sorry
theorem dX11_change_51 : decode cX11_change 51 = .ok (.ifnonnull 5, 3) := sorry
theorem dX11_change_54 : decode cX11_change 54 = .ok (.iconst (-1), 1) := sorry
theorem dX11_change_55 : decode cX11_change 55 = .ok (.ireturn, 1) := sorry
theorem dX11_change_56 : decode cX11_change 56 = .ok (.iload 4, 2) := sorry
theorem dX11_change_58 : decode cX11_change 58 = .ok (.invokestatic 144, 3) := sorry
theorem dX11_change_61 : decode cX11_change 61 = .ok (.ifCond .eq 11, 3) := sorry
theorem dX11_change_64 : decode cX11_change 64 = .ok (.iload 6, 2) := sorry
theorem dX11_change_66 : decode cX11_change 66 = .ok (.invokestatic 76, 3) := sorry
theorem dX11_change_69 : decode cX11_change 69 = .ok (.ifCond .ne 6, 3) := sorry
theorem dX11_change_72 : decode cX11_change 72 = .ok (.bipush (-2), 2) := sorry
theorem dX11_change_74 : decode cX11_change 74 = .ok (.ireturn, 1) := sorry
theorem dX11_change_75 : decode cX11_change 75 = .ok (.aload_n 0, 1) := sorry
theorem dX11_change_76 : decode cX11_change 76 = .ok (.aload 12, 2) := sorry
theorem dX11_change_78 : decode cX11_change 78 = .ok (.iload 6, 2) := sorry
theorem dX11_change_80 : decode cX11_change 80 = .ok (.iload 7, 2) := sorry
theorem dX11_change_82 : decode cX11_change 82 = .ok (.iload 8, 2) := sorry
theorem dX11_change_84 : decode cX11_change 84 = .ok (.invokevirtual 168, 3) := sorry
theorem dX11_change_87 : decode cX11_change 87 = .ok (.istore 13, 2) := sorry
theorem dX11_change_89 : decode cX11_change 89 = .ok (.iload 13, 2) := sorry
theorem dX11_change_91 : decode cX11_change 91 = .ok (.ifCond .eq 6, 3) := sorry
theorem dX11_change_94 : decode cX11_change 94 = .ok (.iload 13, 2) := sorry
theorem dX11_change_96 : decode cX11_change 96 = .ok (.ireturn, 1) := sorry
theorem dX11_change_97 : decode cX11_change 97 = .ok (.aload 9, 2) := sorry
theorem dX11_change_99 : decode cX11_change 99 = .ok (.getfield 147, 3) := sorry
theorem dX11_change_102 : decode cX11_change 102 = .ok (.ifnonnull 8, 3) := sorry
theorem dX11_change_105 : decode cX11_change 105 = .ok (.iload_n 2, 1) := sorry
theorem dX11_change_106 : decode cX11_change 106 = .ok (.iload_n 1, 1) := sorry
theorem dX11_change_107 : decode cX11_change 107 = .ok (.if_icmp .lt 6, 3) := sorry
theorem dX11_change_110 : decode cX11_change 110 = .ok (.bipush (-3), 2) := sorry
theorem dX11_change_112 : decode cX11_change 112 = .ok (.ireturn, 1) := sorry
theorem dX11_change_113 : decode cX11_change 113 = .ok (.aload 9, 2) := sorry
theorem dX11_change_115 : decode cX11_change 115 = .ok (.new 172, 3) := sorry
theorem dX11_change_118 : decode cX11_change 118 = .ok (.dup, 1) := sorry
theorem dX11_change_119 : decode cX11_change 119 = .ok (.aload 11, 2) := sorry
theorem dX11_change_121 : decode cX11_change 121 = .ok (.iload 4, 2) := sorry
theorem dX11_change_123 : decode cX11_change 123 = .ok (.aload_n 0, 1) := sorry
theorem dX11_change_124 : decode cX11_change 124 = .ok (.aload 9, 2) := sorry
theorem dX11_change_126 : decode cX11_change 126 = .ok (.aload 11, 2) := sorry
theorem dX11_change_128 : decode cX11_change 128 = .ok (.iload 4, 2) := sorry
theorem dX11_change_130 : decode cX11_change 130 = .ok (.invokevirtual 153, 3) := sorry
theorem dX11_change_133 : decode cX11_change 133 = .ok (.aload 10, 2) := sorry
theorem dX11_change_135 : decode cX11_change 135 = .ok (.aload_n 0, 1) := sorry
theorem dX11_change_136 : decode cX11_change 136 = .ok (.getfield 45, 3) := sorry
theorem dX11_change_139 : decode cX11_change 139 = .ok (.invokevirtual 174, 3) := sorry
theorem dX11_change_142 : decode cX11_change 142 = .ok (.invokespecial 178, 3) := sorry
theorem dX11_change_145 : decode cX11_change 145 = .ok (.putfield 147, 3) := sorry
theorem dX11_change_148 : decode cX11_change 148 = .ok (.aload 9, 2) := sorry
theorem dX11_change_150 : decode cX11_change 150 = .ok (.getfield 147, 3) := sorry
theorem dX11_change_153 : decode cX11_change 153 = .ok (.getfield 160, 3) := sorry
theorem dX11_change_156 : decode cX11_change 156 = .ok (.ireturn, 1) := sorry
theorem dX11_act_0 : decode cX11_act 0 = .ok (.aload_n 0, 1) := sorry
theorem dX11_act_1 : decode cX11_act 1 = .ok (.iconst 0, 1) := sorry
theorem dX11_act_2 : decode cX11_act 2 = .ok (.putfield 64, 3) := sorry
theorem dX11_act_5 : decode cX11_act 5 = .ok (.aload_n 0, 1) := sorry
theorem dX11_act_6 : decode cX11_act 6 = .ok (.iload_n 1, 1) := sorry
theorem dX11_act_7 : decode cX11_act 7 = .ok (.invokevirtual 106, 3) := sorry
theorem dX11_act_10 : decode cX11_act 10 = .ok (.astore 6, 2) := sorry
theorem dX11_act_12 : decode cX11_act 12 = .ok (.aload_n 0, 1) := sorry
theorem dX11_act_13 : decode cX11_act 13 = .ok (.iload_n 2, 1) := sorry
theorem dX11_act_14 : decode cX11_act 14 = .ok (.invokevirtual 68, 3) := sorry
theorem dX11_act_17 : decode cX11_act 17 = .ok (.astore 7, 2) := sorry
theorem dX11_act_19 : decode cX11_act 19 = .ok (.aload 6, 2) := sorry
theorem dX11_act_21 : decode cX11_act 21 = .ok (.ifnull 8, 3) := sorry
theorem dX11_act_24 : decode cX11_act 24 = .ok (.aload 7, 2) := sorry
theorem dX11_act_26 : decode cX11_act 26 = .ok (.ifnonnull 5, 3) := sorry
theorem dX11_act_29 : decode cX11_act 29 = .ok (.iconst (-1), 1) := sorry
theorem dX11_act_30 : decode cX11_act 30 = .ok (.ireturn, 1) := sorry
theorem dX11_act_31 : decode cX11_act 31 = .ok (.iload_n 3, 1) := sorry
theorem dX11_act_32 : decode cX11_act 32 = .ok (.invokestatic 76, 3) := sorry
theorem dX11_act_35 : decode cX11_act 35 = .ok (.ifCond .ne 6, 3) := sorry
theorem dX11_act_38 : decode cX11_act 38 = .ok (.bipush (-2), 2) := sorry
theorem dX11_act_40 : decode cX11_act 40 = .ok (.ireturn, 1) := sorry
theorem dX11_act_41 : decode cX11_act 41 = .ok (.aload_n 0, 1) := sorry
theorem dX11_act_42 : decode cX11_act 42 = .ok (.aload 7, 2) := sorry
theorem dX11_act_44 : decode cX11_act 44 = .ok (.iload_n 3, 1) := sorry
theorem dX11_act_45 : decode cX11_act 45 = .ok (.iload 4, 2) := sorry
theorem dX11_act_47 : decode cX11_act 47 = .ok (.iload 5, 2) := sorry
theorem dX11_act_49 : decode cX11_act 49 = .ok (.invokevirtual 168, 3) := sorry
theorem dX11_act_52 : decode cX11_act 52 = .ok (.istore 8, 2) := sorry
theorem dX11_act_54 : decode cX11_act 54 = .ok (.iload 8, 2) := sorry
theorem dX11_act_56 : decode cX11_act 56 = .ok (.ifCond .eq 6, 3) := sorry
theorem dX11_act_59 : decode cX11_act 59 = .ok (.iload 8, 2) := sorry
theorem dX11_act_61 : decode cX11_act 61 = .ok (.ireturn, 1) := sorry
theorem dX11_act_62 : decode cX11_act 62 = .ok (.aload_n 0, 1) := sorry
theorem dX11_act_63 : decode cX11_act 63 = .ok (.getfield 52, 3) := sorry
theorem dX11_act_66 : decode cX11_act 66 = .ok (.aload 6, 2) := sorry
theorem dX11_act_68 : decode cX11_act 68 = .ok (.aload_n 0, 1) := sorry
theorem dX11_act_69 : decode cX11_act 69 = .ok (.getfield 45, 3) := sorry
theorem dX11_act_72 : decode cX11_act 72 = .ok (.getfield 181, 3) := sorry
theorem dX11_act_75 : decode cX11_act 75 = .ok (.aload_n 0, 1) := sorry
theorem dX11_act_76 : decode cX11_act 76 = .ok (.getfield 45, 3) := sorry
theorem dX11_act_79 : decode cX11_act 79 = .ok (.getfield 184, 3) := sorry
theorem dX11_act_82 : decode cX11_act 82 = .ok (.invokevirtual 187, 3) := sorry
theorem dX11_act_85 : decode cX11_act 85 = .ok (.ifCond .ne 6, 3) := sorry
theorem dX11_act_88 : decode cX11_act 88 = .ok (.bipush (-3), 2) := sorry
theorem dX11_act_90 : decode cX11_act 90 = .ok (.ireturn, 1) := sorry
theorem dX11_act_91 : decode cX11_act 91 = .ok (.aload_n 0, 1) := sorry
theorem dX11_act_92 : decode cX11_act 92 = .ok (.getfield 92, 3) := sorry
theorem dX11_act_95 : decode cX11_act 95 = .ok (.bipush 12, 2) := sorry
theorem dX11_act_97 : decode cX11_act 97 = .ok (.if_icmp .lt 6, 3) := sorry
theorem dX11_act_100 : decode cX11_act 100 = .ok (.bipush (-4), 2) := sorry
theorem dX11_act_102 : decode cX11_act 102 = .ok (.ireturn, 1) := sorry
theorem dX11_act_103 : decode cX11_act 103 = .ok (.aload_n 0, 1) := sorry
theorem dX11_act_104 : decode cX11_act 104 = .ok (.invokevirtual 95, 3) := sorry
theorem dX11_act_107 : decode cX11_act 107 = .ok (.astore 9, 2) := sorry
theorem dX11_act_109 : decode cX11_act 109 = .ok (.aload 9, 2) := sorry
theorem dX11_act_111 : decode cX11_act 111 = .ok (.aload_n 0, 1) := sorry
theorem dX11_act_112 : decode cX11_act 112 = .ok (.getfield 52, 3) := sorry
theorem dX11_act_115 : decode cX11_act 115 = .ok (.getfield 191, 3) := sorry
theorem dX11_act_118 : decode cX11_act 118 = .ok (.invokevirtual 195, 3) := sorry
theorem dX11_act_121 : decode cX11_act 121 = .ok (.aload 9, 2) := sorry
theorem dX11_act_123 : decode cX11_act 123 = .ok (.getfield 103, 3) := sorry
theorem dX11_act_126 : decode cX11_act 126 = .ok (.ireturn, 1) := sorry
theorem dX11_tear_0 : decode cX11_tear 0 = .ok (.aload_n 0, 1) := sorry
theorem dX11_tear_1 : decode cX11_tear 1 = .ok (.iload_n 1, 1) := sorry
theorem dX11_tear_2 : decode cX11_tear 2 = .ok (.invokevirtual 106, 3) := sorry
theorem dX11_tear_5 : decode cX11_tear 5 = .ok (.astore_n 2, 1) := sorry
theorem dX11_tear_6 : decode cX11_tear 6 = .ok (.aload_n 2, 1) := sorry
theorem dX11_tear_7 : decode cX11_tear 7 = .ok (.ifnonnull 5, 3) := sorry
theorem dX11_tear_10 : decode cX11_tear 10 = .ok (.iconst (-1), 1) := sorry
theorem dX11_tear_11 : decode cX11_tear 11 = .ok (.ireturn, 1) := sorry
theorem dX11_tear_12 : decode cX11_tear 12 = .ok (.aload_n 2, 1) := sorry
theorem dX11_tear_13 : decode cX11_tear 13 = .ok (.getfield 147, 3) := sorry
theorem dX11_tear_16 : decode cX11_tear 16 = .ok (.ifnonnull 5, 3) := sorry
theorem dX11_tear_19 : decode cX11_tear 19 = .ok (.iconst 0, 1) := sorry
theorem dX11_tear_20 : decode cX11_tear 20 = .ok (.ireturn, 1) := sorry
theorem dX11_tear_21 : decode cX11_tear 21 = .ok (.aload_n 2, 1) := sorry
theorem dX11_tear_22 : decode cX11_tear 22 = .ok (.aconst_null, 1) := sorry
theorem dX11_tear_23 : decode cX11_tear 23 = .ok (.putfield 147, 3) := sorry
theorem dX11_tear_26 : decode cX11_tear 26 = .ok (.iconst 1, 1) := sorry
theorem dX11_tear_27 : decode cX11_tear 27 = .ok (.ireturn, 1) := sorry
theorem dX11_line_0 : decode cX11_line 0 = .ok (.aload_n 0, 1) := sorry
theorem dX11_line_1 : decode cX11_line 1 = .ok (.iload_n 1, 1) := sorry
theorem dX11_line_2 : decode cX11_line 2 = .ok (.invokevirtual 106, 3) := sorry
theorem dX11_line_5 : decode cX11_line 5 = .ok (.astore_n 3, 1) := sorry
theorem dX11_line_6 : decode cX11_line 6 = .ok (.aload_n 3, 1) := sorry
theorem dX11_line_7 : decode cX11_line 7 = .ok (.ifnonnull 5, 3) := sorry
theorem dX11_line_10 : decode cX11_line 10 = .ok (.iconst (-1), 1) := sorry
theorem dX11_line_11 : decode cX11_line 11 = .ok (.ireturn, 1) := sorry
theorem dX11_line_12 : decode cX11_line 12 = .ok (.iload_n 2, 1) := sorry
theorem dX11_line_13 : decode cX11_line 13 = .ok (.iconst 0, 1) := sorry
theorem dX11_line_14 : decode cX11_line 14 = .ok (.iconst 5, 1) := sorry
theorem dX11_line_15 : decode cX11_line 15 = .ok (.invokestatic 72, 3) := sorry
theorem dX11_line_18 : decode cX11_line 18 = .ok (.ifCond .ne 6, 3) := sorry
theorem dX11_line_21 : decode cX11_line 21 = .ok (.bipush (-2), 2) := sorry
theorem dX11_line_23 : decode cX11_line 23 = .ok (.ireturn, 1) := sorry
theorem dX11_line_24 : decode cX11_line 24 = .ok (.aload_n 3, 1) := sorry
theorem dX11_line_25 : decode cX11_line 25 = .ok (.getfield 147, 3) := sorry
theorem dX11_line_28 : decode cX11_line 28 = .ok (.astore 4, 2) := sorry
theorem dX11_line_30 : decode cX11_line 30 = .ok (.aload 4, 2) := sorry
theorem dX11_line_32 : decode cX11_line 32 = .ok (.ifnonnull 6, 3) := sorry
theorem dX11_line_35 : decode cX11_line 35 = .ok (.bipush (-3), 2) := sorry
theorem dX11_line_37 : decode cX11_line 37 = .ok (.ireturn, 1) := sorry
theorem dX11_line_38 : decode cX11_line 38 = .ok (.iload_n 2, 1) := sorry
theorem dX11_line_39 : decode cX11_line 39 = .ok (.tableswitch 82 0 4 #[33, 39, 48, 54, 60], 33) := sorry
theorem dX11_line_72 : decode cX11_line 72 = .ok (.aload 4, 2) := sorry
theorem dX11_line_74 : decode cX11_line 74 = .ok (.invokevirtual 199, 3) := sorry
theorem dX11_line_77 : decode cX11_line 77 = .ok (.ireturn, 1) := sorry
theorem dX11_line_78 : decode cX11_line 78 = .ok (.aload 4, 2) := sorry
theorem dX11_line_80 : decode cX11_line 80 = .ok (.getfield 202, 3) := sorry
theorem dX11_line_83 : decode cX11_line 83 = .ok (.getfield 206, 3) := sorry
theorem dX11_line_86 : decode cX11_line 86 = .ok (.ireturn, 1) := sorry
theorem dX11_line_87 : decode cX11_line 87 = .ok (.aload 4, 2) := sorry
theorem dX11_line_89 : decode cX11_line 89 = .ok (.getfield 207, 3) := sorry
theorem dX11_line_92 : decode cX11_line 92 = .ok (.ireturn, 1) := sorry
theorem dX11_line_93 : decode cX11_line 93 = .ok (.aload 4, 2) := sorry
theorem dX11_line_95 : decode cX11_line 95 = .ok (.getfield 160, 3) := sorry
theorem dX11_line_98 : decode cX11_line 98 = .ok (.ireturn, 1) := sorry
theorem dX11_line_99 : decode cX11_line 99 = .ok (.aload 4, 2) := sorry
theorem dX11_line_101 : decode cX11_line 101 = .ok (.invokevirtual 210, 3) := sorry
theorem dX11_line_104 : decode cX11_line 104 = .ok (.ifnonnull 8, 3) := sorry
theorem dX11_line_107 : decode cX11_line 107 = .ok (.bipush (-9), 2) := sorry
theorem dX11_line_109 : decode cX11_line 109 = .ok (.goto 11, 3) := sorry
theorem dX11_line_112 : decode cX11_line 112 = .ok (.aload 4, 2) := sorry
theorem dX11_line_114 : decode cX11_line 114 = .ok (.invokevirtual 210, 3) := sorry
theorem dX11_line_117 : decode cX11_line 117 = .ok (.getfield 103, 3) := sorry
theorem dX11_line_120 : decode cX11_line 120 = .ok (.ireturn, 1) := sorry
theorem dX11_line_121 : decode cX11_line 121 = .ok (.aload 4, 2) := sorry
theorem dX11_line_123 : decode cX11_line 123 = .ok (.invokevirtual 213, 3) := sorry
theorem dX11_line_126 : decode cX11_line 126 = .ok (.arraylength, 1) := sorry
theorem dX11_line_127 : decode cX11_line 127 = .ok (.ireturn, 1) := sorry
theorem dX11_speaks_0 : decode cX11_speaks 0 = .ok (.aload_n 0, 1) := sorry
theorem dX11_speaks_1 : decode cX11_speaks 1 = .ok (.iload_n 1, 1) := sorry
theorem dX11_speaks_2 : decode cX11_speaks 2 = .ok (.invokevirtual 106, 3) := sorry
theorem dX11_speaks_5 : decode cX11_speaks 5 = .ok (.astore_n 2, 1) := sorry
theorem dX11_speaks_6 : decode cX11_speaks 6 = .ok (.aload_n 2, 1) := sorry
theorem dX11_speaks_7 : decode cX11_speaks 7 = .ok (.ifnonnull 5, 3) := sorry
theorem dX11_speaks_10 : decode cX11_speaks 10 = .ok (.iconst (-1), 1) := sorry
theorem dX11_speaks_11 : decode cX11_speaks 11 = .ok (.ireturn, 1) := sorry
theorem dX11_speaks_12 : decode cX11_speaks 12 = .ok (.aload_n 2, 1) := sorry
theorem dX11_speaks_13 : decode cX11_speaks 13 = .ok (.getfield 147, 3) := sorry
theorem dX11_speaks_16 : decode cX11_speaks 16 = .ok (.ifnonnull 8, 3) := sorry
theorem dX11_speaks_19 : decode cX11_speaks 19 = .ok (.bipush (-3), 2) := sorry
theorem dX11_speaks_21 : decode cX11_speaks 21 = .ok (.goto 12, 3) := sorry
theorem dX11_speaks_24 : decode cX11_speaks 24 = .ok (.aload_n 0, 1) := sorry
theorem dX11_speaks_25 : decode cX11_speaks 25 = .ok (.aload_n 2, 1) := sorry
theorem dX11_speaks_26 : decode cX11_speaks 26 = .ok (.aload_n 2, 1) := sorry
theorem dX11_speaks_27 : decode cX11_speaks 27 = .ok (.getfield 147, 3) := sorry
theorem dX11_speaks_30 : decode cX11_speaks 30 = .ok (.invokevirtual 215, 3) := sorry
theorem dX11_speaks_33 : decode cX11_speaks 33 = .ok (.ireturn, 1) := sorry
theorem dX11_play_0 : decode cX11_play 0 = .ok (.aload_n 0, 1) := sorry
theorem dX11_play_1 : decode cX11_play 1 = .ok (.iload_n 1, 1) := sorry
theorem dX11_play_2 : decode cX11_play 2 = .ok (.invokevirtual 106, 3) := sorry
theorem dX11_play_5 : decode cX11_play 5 = .ok (.astore_n 2, 1) := sorry
theorem dX11_play_6 : decode cX11_play 6 = .ok (.aload_n 2, 1) := sorry
theorem dX11_play_7 : decode cX11_play 7 = .ok (.ifnonnull 5, 3) := sorry
theorem dX11_play_10 : decode cX11_play 10 = .ok (.iconst (-1), 1) := sorry
theorem dX11_play_11 : decode cX11_play 11 = .ok (.ireturn, 1) := sorry
theorem dX11_play_12 : decode cX11_play 12 = .ok (.aload_n 2, 1) := sorry
theorem dX11_play_13 : decode cX11_play 13 = .ok (.getfield 147, 3) := sorry
theorem dX11_play_16 : decode cX11_play 16 = .ok (.astore_n 3, 1) := sorry
theorem dX11_play_17 : decode cX11_play 17 = .ok (.aload_n 3, 1) := sorry
theorem dX11_play_18 : decode cX11_play 18 = .ok (.ifnull 11, 3) := sorry
theorem dX11_play_21 : decode cX11_play 21 = .ok (.aload_n 3, 1) := sorry
theorem dX11_play_22 : decode cX11_play 22 = .ok (.invokevirtual 199, 3) := sorry
theorem dX11_play_25 : decode cX11_play 25 = .ok (.iconst 1, 1) := sorry
theorem dX11_play_26 : decode cX11_play 26 = .ok (.if_icmp .eq 6, 3) := sorry
theorem dX11_play_29 : decode cX11_play 29 = .ok (.bipush (-3), 2) := sorry
theorem dX11_play_31 : decode cX11_play 31 = .ok (.ireturn, 1) := sorry
theorem dX11_play_32 : decode cX11_play 32 = .ok (.aload_n 0, 1) := sorry
theorem dX11_play_33 : decode cX11_play 33 = .ok (.aload_n 2, 1) := sorry
theorem dX11_play_34 : decode cX11_play 34 = .ok (.aload_n 3, 1) := sorry
theorem dX11_play_35 : decode cX11_play 35 = .ok (.invokevirtual 219, 3) := sorry
theorem dX11_play_38 : decode cX11_play 38 = .ok (.ireturn, 1) := sorry
theorem dX11_within_0 : decode cX11_within 0 = .ok (.iload_n 1, 1) := sorry
theorem dX11_within_1 : decode cX11_within 1 = .ok (.iconst 0, 1) := sorry
theorem dX11_within_2 : decode cX11_within 2 = .ok (.bipush 20, 2) := sorry
theorem dX11_within_4 : decode cX11_within 4 = .ok (.invokestatic 72, 3) := sorry
theorem dX11_within_7 : decode cX11_within 7 = .ok (.ifCond .ne 6, 3) := sorry
theorem dX11_within_10 : decode cX11_within 10 = .ok (.bipush (-2), 2) := sorry
theorem dX11_within_12 : decode cX11_within 12 = .ok (.ireturn, 1) := sorry
theorem dX11_within_13 : decode cX11_within 13 = .ok (.aload_n 0, 1) := sorry
theorem dX11_within_14 : decode cX11_within 14 = .ok (.getfield 222, 3) := sorry
theorem dX11_within_17 : decode cX11_within 17 = .ok (.istore_n 2, 1) := sorry
theorem dX11_within_18 : decode cX11_within 18 = .ok (.aload_n 0, 1) := sorry
theorem dX11_within_19 : decode cX11_within 19 = .ok (.iload_n 1, 1) := sorry
theorem dX11_within_20 : decode cX11_within 20 = .ok (.putfield 222, 3) := sorry
theorem dX11_within_23 : decode cX11_within 23 = .ok (.iload_n 2, 1) := sorry
theorem dX11_within_24 : decode cX11_within 24 = .ok (.ireturn, 1) := sorry
theorem dX11_way_0 : decode cX11_way 0 = .ok (.aload_n 0, 1) := sorry
theorem dX11_way_1 : decode cX11_way 1 = .ok (.iload_n 1, 1) := sorry
theorem dX11_way_2 : decode cX11_way 2 = .ok (.invokevirtual 106, 3) := sorry
theorem dX11_way_5 : decode cX11_way 5 = .ok (.astore_n 3, 1) := sorry
theorem dX11_way_6 : decode cX11_way 6 = .ok (.aload_n 3, 1) := sorry
theorem dX11_way_7 : decode cX11_way 7 = .ok (.ifnull 13, 3) := sorry
theorem dX11_way_10 : decode cX11_way 10 = .ok (.iload_n 2, 1) := sorry
theorem dX11_way_11 : decode cX11_way 11 = .ok (.iconst (-1), 1) := sorry
theorem dX11_way_12 : decode cX11_way 12 = .ok (.bipush 11, 2) := sorry
theorem dX11_way_14 : decode cX11_way 14 = .ok (.invokestatic 72, 3) := sorry
theorem dX11_way_17 : decode cX11_way 17 = .ok (.ifCond .ne 5, 3) := sorry
theorem dX11_way_20 : decode cX11_way 20 = .ok (.iconst (-1), 1) := sorry
theorem dX11_way_21 : decode cX11_way 21 = .ok (.ireturn, 1) := sorry
theorem dX11_way_22 : decode cX11_way 22 = .ok (.iconst 0, 1) := sorry
theorem dX11_way_23 : decode cX11_way 23 = .ok (.istore 4, 2) := sorry
theorem dX11_way_25 : decode cX11_way 25 = .ok (.aload_n 3, 1) := sorry
theorem dX11_way_26 : decode cX11_way 26 = .ok (.astore 5, 2) := sorry
theorem dX11_way_28 : decode cX11_way 28 = .ok (.aload 5, 2) := sorry
theorem dX11_way_30 : decode cX11_way 30 = .ok (.ifnull 28, 3) := sorry
theorem dX11_way_33 : decode cX11_way 33 = .ok (.iload 4, 2) := sorry
theorem dX11_way_35 : decode cX11_way 35 = .ok (.iload_n 2, 1) := sorry
theorem dX11_way_36 : decode cX11_way 36 = .ok (.if_icmp .ne 9, 3) := sorry
theorem dX11_way_39 : decode cX11_way 39 = .ok (.aload 5, 2) := sorry
theorem dX11_way_41 : decode cX11_way 41 = .ok (.getfield 103, 3) := sorry
theorem dX11_way_44 : decode cX11_way 44 = .ok (.ireturn, 1) := sorry
theorem dX11_way_45 : decode cX11_way 45 = .ok (.iinc 4 1, 3) := sorry
theorem dX11_way_48 : decode cX11_way 48 = .ok (.aload 5, 2) := sorry
theorem dX11_way_50 : decode cX11_way 50 = .ok (.invokevirtual 225, 3) := sorry
theorem dX11_way_53 : decode cX11_way 53 = .ok (.astore 5, 2) := sorry
theorem dX11_way_55 : decode cX11_way 55 = .ok (.goto (-27), 3) := sorry
theorem dX11_way_58 : decode cX11_way 58 = .ok (.iload_n 2, 1) := sorry
theorem dX11_way_59 : decode cX11_way 59 = .ok (.iconst (-1), 1) := sorry
theorem dX11_way_60 : decode cX11_way 60 = .ok (.if_icmp .ne 8, 3) := sorry
theorem dX11_way_63 : decode cX11_way 63 = .ok (.iload 4, 2) := sorry
theorem dX11_way_65 : decode cX11_way 65 = .ok (.goto 5, 3) := sorry
theorem dX11_way_68 : decode cX11_way 68 = .ok (.bipush (-9), 2) := sorry
theorem dX11_way_70 : decode cX11_way 70 = .ok (.ireturn, 1) := sorry
theorem dX11_doubt_0 : decode cX11_doubt 0 = .ok (.aload_n 0, 1) := sorry
theorem dX11_doubt_1 : decode cX11_doubt 1 = .ok (.iload_n 1, 1) := sorry
theorem dX11_doubt_2 : decode cX11_doubt 2 = .ok (.invokevirtual 106, 3) := sorry
theorem dX11_doubt_5 : decode cX11_doubt 5 = .ok (.astore_n 2, 1) := sorry
theorem dX11_doubt_6 : decode cX11_doubt 6 = .ok (.aload_n 2, 1) := sorry
theorem dX11_doubt_7 : decode cX11_doubt 7 = .ok (.ifnonnull 7, 3) := sorry
theorem dX11_doubt_10 : decode cX11_doubt 10 = .ok (.iconst (-1), 1) := sorry
theorem dX11_doubt_11 : decode cX11_doubt 11 = .ok (.goto 8, 3) := sorry
theorem dX11_doubt_14 : decode cX11_doubt 14 = .ok (.aload_n 0, 1) := sorry
theorem dX11_doubt_15 : decode cX11_doubt 15 = .ok (.aload_n 2, 1) := sorry
theorem dX11_doubt_16 : decode cX11_doubt 16 = .ok (.invokevirtual 226, 3) := sorry
theorem dX11_doubt_19 : decode cX11_doubt 19 = .ok (.ireturn, 1) := sorry
theorem dX11_whole_0 : decode cX11_whole 0 = .ok (.aload_n 0, 1) := sorry
theorem dX11_whole_1 : decode cX11_whole 1 = .ok (.iload_n 1, 1) := sorry
theorem dX11_whole_2 : decode cX11_whole 2 = .ok (.invokevirtual 106, 3) := sorry
theorem dX11_whole_5 : decode cX11_whole 5 = .ok (.astore_n 2, 1) := sorry
theorem dX11_whole_6 : decode cX11_whole 6 = .ok (.aload_n 2, 1) := sorry
theorem dX11_whole_7 : decode cX11_whole 7 = .ok (.ifnonnull 5, 3) := sorry
theorem dX11_whole_10 : decode cX11_whole 10 = .ok (.iconst (-1), 1) := sorry
theorem dX11_whole_11 : decode cX11_whole 11 = .ok (.ireturn, 1) := sorry
theorem dX11_whole_12 : decode cX11_whole 12 = .ok (.aload_n 0, 1) := sorry
theorem dX11_whole_13 : decode cX11_whole 13 = .ok (.aload_n 2, 1) := sorry
theorem dX11_whole_14 : decode cX11_whole 14 = .ok (.invokevirtual 226, 3) := sorry
theorem dX11_whole_17 : decode cX11_whole 17 = .ok (.bipush (-9), 2) := sorry
theorem dX11_whole_19 : decode cX11_whole 19 = .ok (.if_icmp .eq 5, 3) := sorry
theorem dX11_whole_22 : decode cX11_whole 22 = .ok (.iconst 0, 1) := sorry
theorem dX11_whole_23 : decode cX11_whole 23 = .ok (.ireturn, 1) := sorry
theorem dX11_whole_24 : decode cX11_whole 24 = .ok (.aload_n 2, 1) := sorry
theorem dX11_whole_25 : decode cX11_whole 25 = .ok (.astore_n 3, 1) := sorry
theorem dX11_whole_26 : decode cX11_whole 26 = .ok (.aload_n 3, 1) := sorry
theorem dX11_whole_27 : decode cX11_whole 27 = .ok (.ifnull 31, 3) := sorry
theorem dX11_whole_30 : decode cX11_whole 30 = .ok (.aload_n 3, 1) := sorry
theorem dX11_whole_31 : decode cX11_whole 31 = .ok (.getfield 147, 3) := sorry
theorem dX11_whole_34 : decode cX11_whole 34 = .ok (.ifnull 16, 3) := sorry
theorem dX11_whole_37 : decode cX11_whole 37 = .ok (.aload_n 3, 1) := sorry
theorem dX11_whole_38 : decode cX11_whole 38 = .ok (.getfield 147, 3) := sorry
theorem dX11_whole_41 : decode cX11_whole 41 = .ok (.invokevirtual 199, 3) := sorry
theorem dX11_whole_44 : decode cX11_whole 44 = .ok (.iconst 2, 1) := sorry
theorem dX11_whole_45 : decode cX11_whole 45 = .ok (.if_icmp .ne 5, 3) := sorry
theorem dX11_whole_48 : decode cX11_whole 48 = .ok (.iconst 0, 1) := sorry
theorem dX11_whole_49 : decode cX11_whole 49 = .ok (.ireturn, 1) := sorry
theorem dX11_whole_50 : decode cX11_whole 50 = .ok (.aload_n 3, 1) := sorry
theorem dX11_whole_51 : decode cX11_whole 51 = .ok (.invokevirtual 225, 3) := sorry
theorem dX11_whole_54 : decode cX11_whole 54 = .ok (.astore_n 3, 1) := sorry
theorem dX11_whole_55 : decode cX11_whole 55 = .ok (.goto (-29), 3) := sorry
theorem dX11_whole_58 : decode cX11_whole 58 = .ok (.iconst 1, 1) := sorry
theorem dX11_whole_59 : decode cX11_whole 59 = .ok (.ireturn, 1) := sorry
theorem dX11_proof_0 : decode cX11_proof 0 = .ok (.aload_n 0, 1) := sorry
theorem dX11_proof_1 : decode cX11_proof 1 = .ok (.iload_n 1, 1) := sorry
theorem dX11_proof_2 : decode cX11_proof 2 = .ok (.invokevirtual 106, 3) := sorry
theorem dX11_proof_5 : decode cX11_proof 5 = .ok (.astore 4, 2) := sorry
theorem dX11_proof_7 : decode cX11_proof 7 = .ok (.aload 4, 2) := sorry
theorem dX11_proof_9 : decode cX11_proof 9 = .ok (.ifnull 19, 3) := sorry
theorem dX11_proof_12 : decode cX11_proof 12 = .ok (.iload_n 2, 1) := sorry
theorem dX11_proof_13 : decode cX11_proof 13 = .ok (.invokestatic 229, 3) := sorry
theorem dX11_proof_16 : decode cX11_proof 16 = .ok (.ifCond .eq 12, 3) := sorry
theorem dX11_proof_19 : decode cX11_proof 19 = .ok (.iload_n 3, 1) := sorry
theorem dX11_proof_20 : decode cX11_proof 20 = .ok (.iconst 0, 1) := sorry
theorem dX11_proof_21 : decode cX11_proof 21 = .ok (.iconst 3, 1) := sorry
theorem dX11_proof_22 : decode cX11_proof 22 = .ok (.invokestatic 72, 3) := sorry
theorem dX11_proof_25 : decode cX11_proof 25 = .ok (.ifCond .ne 5, 3) := sorry
theorem dX11_proof_28 : decode cX11_proof 28 = .ok (.iconst (-1), 1) := sorry
theorem dX11_proof_29 : decode cX11_proof 29 = .ok (.ireturn, 1) := sorry
theorem dX11_proof_30 : decode cX11_proof 30 = .ok (.aload_n 0, 1) := sorry
theorem dX11_proof_31 : decode cX11_proof 31 = .ok (.getfield 38, 3) := sorry
theorem dX11_proof_34 : decode cX11_proof 34 = .ok (.aload 4, 2) := sorry
theorem dX11_proof_36 : decode cX11_proof 36 = .ok (.invokevirtual 120, 3) := sorry
theorem dX11_proof_39 : decode cX11_proof 39 = .ok (.pop, 1) := sorry
theorem dX11_proof_40 : decode cX11_proof 40 = .ok (.aload_n 0, 1) := sorry
theorem dX11_proof_41 : decode cX11_proof 41 = .ok (.getfield 38, 3) := sorry
theorem dX11_proof_44 : decode cX11_proof 44 = .ok (.iload_n 2, 1) := sorry
theorem dX11_proof_45 : decode cX11_proof 45 = .ok (.iload_n 3, 1) := sorry
theorem dX11_proof_46 : decode cX11_proof 46 = .ok (.invokevirtual 232, 3) := sorry
theorem dX11_proof_49 : decode cX11_proof 49 = .ok (.ireturn, 1) := sorry
theorem dX11_proves_0 : decode cX11_proves 0 = .ok (.aload_n 0, 1) := sorry
theorem dX11_proves_1 : decode cX11_proves 1 = .ok (.iconst 0, 1) := sorry
theorem dX11_proves_2 : decode cX11_proves 2 = .ok (.putfield 64, 3) := sorry
theorem dX11_proves_5 : decode cX11_proves 5 = .ok (.aload_n 0, 1) := sorry
theorem dX11_proves_6 : decode cX11_proves 6 = .ok (.iload 4, 2) := sorry
theorem dX11_proves_8 : decode cX11_proves 8 = .ok (.invokevirtual 68, 3) := sorry
theorem dX11_proves_11 : decode cX11_proves 11 = .ok (.astore 7, 2) := sorry
theorem dX11_proves_13 : decode cX11_proves 13 = .ok (.aload 7, 2) := sorry
theorem dX11_proves_15 : decode cX11_proves 15 = .ok (.ifnull 10, 3) := sorry
theorem dX11_proves_18 : decode cX11_proves 18 = .ok (.iload_n 1, 1) := sorry
theorem dX11_proves_19 : decode cX11_proves 19 = .ok (.invokestatic 229, 3) := sorry
theorem dX11_proves_22 : decode cX11_proves 22 = .ok (.ifCond .ne 5, 3) := sorry
theorem dX11_proves_25 : decode cX11_proves 25 = .ok (.iconst (-1), 1) := sorry
theorem dX11_proves_26 : decode cX11_proves 26 = .ok (.ireturn, 1) := sorry
theorem dX11_proves_27 : decode cX11_proves 27 = .ok (.iload_n 2, 1) := sorry
theorem dX11_proves_28 : decode cX11_proves 28 = .ok (.iconst (-1), 1) := sorry
theorem dX11_proves_29 : decode cX11_proves 29 = .ok (.bipush 99, 2) := sorry
theorem dX11_proves_31 : decode cX11_proves 31 = .ok (.invokestatic 72, 3) := sorry
theorem dX11_proves_34 : decode cX11_proves 34 = .ok (.ifCond .eq 11, 3) := sorry
theorem dX11_proves_37 : decode cX11_proves 37 = .ok (.iload 5, 2) := sorry
theorem dX11_proves_39 : decode cX11_proves 39 = .ok (.invokestatic 76, 3) := sorry
theorem dX11_proves_42 : decode cX11_proves 42 = .ok (.ifCond .ne 6, 3) := sorry
theorem dX11_proves_45 : decode cX11_proves 45 = .ok (.bipush (-2), 2) := sorry
theorem dX11_proves_47 : decode cX11_proves 47 = .ok (.ireturn, 1) := sorry
theorem dX11_proves_48 : decode cX11_proves 48 = .ok (.aload 7, 2) := sorry
theorem dX11_proves_50 : decode cX11_proves 50 = .ok (.iload 5, 2) := sorry
theorem dX11_proves_52 : decode cX11_proves 52 = .ok (.iload 6, 2) := sorry
theorem dX11_proves_54 : decode cX11_proves 54 = .ok (.iconst 4, 1) := sorry
theorem dX11_proves_55 : decode cX11_proves 55 = .ok (.invokevirtual 80, 3) := sorry
theorem dX11_proves_58 : decode cX11_proves 58 = .ok (.istore 8, 2) := sorry
theorem dX11_proves_60 : decode cX11_proves 60 = .ok (.iload 8, 2) := sorry
theorem dX11_proves_62 : decode cX11_proves 62 = .ok (.ifCond .eq 10, 3) := sorry
theorem dX11_proves_65 : decode cX11_proves 65 = .ok (.aload_n 0, 1) := sorry
theorem dX11_proves_66 : decode cX11_proves 66 = .ok (.iload 8, 2) := sorry
theorem dX11_proves_68 : decode cX11_proves 68 = .ok (.invokevirtual 84, 3) := sorry
theorem dX11_proves_71 : decode cX11_proves 71 = .ok (.ireturn, 1) := sorry
theorem dX11_proves_72 : decode cX11_proves 72 = .ok (.iload_n 2, 1) := sorry
theorem dX11_proves_73 : decode cX11_proves 73 = .ok (.iconst 1, 1) := sorry
theorem dX11_proves_74 : decode cX11_proves 74 = .ok (.iadd, 1) := sorry
theorem dX11_proves_75 : decode cX11_proves 75 = .ok (.istore 9, 2) := sorry
theorem dX11_proves_77 : decode cX11_proves 77 = .ok (.iconst 0, 1) := sorry
theorem dX11_proves_78 : decode cX11_proves 78 = .ok (.istore 10, 2) := sorry
theorem dX11_proves_80 : decode cX11_proves 80 = .ok (.iload 10, 2) := sorry
theorem dX11_proves_82 : decode cX11_proves 82 = .ok (.iconst 4, 1) := sorry
theorem dX11_proves_83 : decode cX11_proves 83 = .ok (.if_icmp .ge 75, 3) := sorry
theorem dX11_proves_86 : decode cX11_proves 86 = .ok (.aload 7, 2) := sorry
theorem dX11_proves_88 : decode cX11_proves 88 = .ok (.iload 6, 2) := sorry
theorem dX11_proves_90 : decode cX11_proves 90 = .ok (.iload 10, 2) := sorry
theorem dX11_proves_92 : decode cX11_proves 92 = .ok (.iadd, 1) := sorry
theorem dX11_proves_93 : decode cX11_proves 93 = .ok (.invokevirtual 236, 3) := sorry
theorem dX11_proves_96 : decode cX11_proves 96 = .ok (.istore 11, 2) := sorry
theorem dX11_proves_98 : decode cX11_proves 98 = .ok (.iload 11, 2) := sorry
theorem dX11_proves_100 : decode cX11_proves 100 = .ok (.iconst 0, 1) := sorry
theorem dX11_proves_101 : decode cX11_proves 101 = .ok (.sipush 9972, 3) := sorry
theorem dX11_proves_104 : decode cX11_proves 104 = .ok (.invokestatic 72, 3) := sorry
theorem dX11_proves_107 : decode cX11_proves 107 = .ok (.ifCond .ne 5, 3) := sorry
theorem dX11_proves_110 : decode cX11_proves 110 = .ok (.iconst 0, 1) := sorry
theorem dX11_proves_111 : decode cX11_proves 111 = .ok (.ireturn, 1) := sorry
theorem dX11_proves_112 : decode cX11_proves 112 = .ok (.iload_n 1, 1) := sorry
theorem dX11_proves_113 : decode cX11_proves 113 = .ok (.iload 10, 2) := sorry
theorem dX11_proves_115 : decode cX11_proves 115 = .ok (.ishr, 1) := sorry
theorem dX11_proves_116 : decode cX11_proves 116 = .ok (.iconst 1, 1) := sorry
theorem dX11_proves_117 : decode cX11_proves 117 = .ok (.iand, 1) := sorry
theorem dX11_proves_118 : decode cX11_proves 118 = .ok (.ifCond .ne 7, 3) := sorry
theorem dX11_proves_121 : decode cX11_proves 121 = .ok (.iconst 1, 1) := sorry
theorem dX11_proves_122 : decode cX11_proves 122 = .ok (.goto 4, 3) := sorry
theorem dX11_proves_125 : decode cX11_proves 125 = .ok (.iconst 0, 1) := sorry
theorem dX11_proves_126 : decode cX11_proves 126 = .ok (.istore 12, 2) := sorry
theorem dX11_proves_128 : decode cX11_proves 128 = .ok (.iload 12, 2) := sorry
theorem dX11_proves_130 : decode cX11_proves 130 = .ok (.ifCond .eq 13, 3) := sorry
theorem dX11_proves_133 : decode cX11_proves 133 = .ok (.iload 9, 2) := sorry
theorem dX11_proves_135 : decode cX11_proves 135 = .ok (.iload 11, 2) := sorry
theorem dX11_proves_137 : decode cX11_proves 137 = .ok (.invokestatic 239, 3) := sorry
theorem dX11_proves_140 : decode cX11_proves 140 = .ok (.goto 10, 3) := sorry
theorem dX11_proves_143 : decode cX11_proves 143 = .ok (.iload 11, 2) := sorry
theorem dX11_proves_145 : decode cX11_proves 145 = .ok (.iload 9, 2) := sorry
theorem dX11_proves_147 : decode cX11_proves 147 = .ok (.invokestatic 239, 3) := sorry
theorem dX11_proves_150 : decode cX11_proves 150 = .ok (.istore 9, 2) := sorry
theorem dX11_proves_152 : decode cX11_proves 152 = .ok (.iinc 10 1, 3) := sorry
theorem dX11_proves_155 : decode cX11_proves 155 = .ok (.goto (-75), 3) := sorry
theorem dX11_proves_158 : decode cX11_proves 158 = .ok (.iload 9, 2) := sorry
theorem dX11_proves_160 : decode cX11_proves 160 = .ok (.iload_n 3, 1) := sorry
theorem dX11_proves_161 : decode cX11_proves 161 = .ok (.if_icmp .ne 7, 3) := sorry
theorem dX11_proves_164 : decode cX11_proves 164 = .ok (.iconst 1, 1) := sorry
theorem dX11_proves_165 : decode cX11_proves 165 = .ok (.goto 4, 3) := sorry
theorem dX11_proves_168 : decode cX11_proves 168 = .ok (.iconst 0, 1) := sorry
theorem dX11_proves_169 : decode cX11_proves 169 = .ok (.ireturn, 1) := sorry
theorem dX11_hide_0 : decode cX11_hide 0 = .ok (.aload_n 0, 1) := sorry
theorem dX11_hide_1 : decode cX11_hide 1 = .ok (.iload_n 1, 1) := sorry
theorem dX11_hide_2 : decode cX11_hide 2 = .ok (.invokevirtual 106, 3) := sorry
theorem dX11_hide_5 : decode cX11_hide 5 = .ok (.astore_n 3, 1) := sorry
theorem dX11_hide_6 : decode cX11_hide 6 = .ok (.aload_n 3, 1) := sorry
theorem dX11_hide_7 : decode cX11_hide 7 = .ok (.ifnonnull 5, 3) := sorry
theorem dX11_hide_10 : decode cX11_hide 10 = .ok (.iconst (-1), 1) := sorry
theorem dX11_hide_11 : decode cX11_hide 11 = .ok (.ireturn, 1) := sorry
theorem dX11_hide_12 : decode cX11_hide 12 = .ok (.iload_n 2, 1) := sorry
theorem dX11_hide_13 : decode cX11_hide 13 = .ok (.invokestatic 242, 3) := sorry
theorem dX11_hide_16 : decode cX11_hide 16 = .ok (.ifCond .eq 11, 3) := sorry
theorem dX11_hide_19 : decode cX11_hide 19 = .ok (.aload_n 3, 1) := sorry
theorem dX11_hide_20 : decode cX11_hide 20 = .ok (.iload_n 2, 1) := sorry
theorem dX11_hide_21 : decode cX11_hide 21 = .ok (.invokevirtual 245, 3) := sorry
theorem dX11_hide_24 : decode cX11_hide 24 = .ok (.goto 5, 3) := sorry
theorem dX11_hide_27 : decode cX11_hide 27 = .ok (.bipush (-2), 2) := sorry
theorem dX11_hide_29 : decode cX11_hide 29 = .ok (.ireturn, 1) := sorry
theorem dX11_found_0 : decode cX11_found 0 = .ok (.aload_n 0, 1) := sorry
theorem dX11_found_1 : decode cX11_found 1 = .ok (.iload_n 1, 1) := sorry
theorem dX11_found_2 : decode cX11_found 2 = .ok (.invokevirtual 106, 3) := sorry
theorem dX11_found_5 : decode cX11_found 5 = .ok (.astore_n 3, 1) := sorry
theorem dX11_found_6 : decode cX11_found 6 = .ok (.aload_n 3, 1) := sorry
theorem dX11_found_7 : decode cX11_found 7 = .ok (.ifnonnull 5, 3) := sorry
theorem dX11_found_10 : decode cX11_found 10 = .ok (.iconst (-1), 1) := sorry
theorem dX11_found_11 : decode cX11_found 11 = .ok (.ireturn, 1) := sorry
theorem dX11_found_12 : decode cX11_found 12 = .ok (.iload_n 2, 1) := sorry
theorem dX11_found_13 : decode cX11_found 13 = .ok (.invokestatic 242, 3) := sorry
theorem dX11_found_16 : decode cX11_found 16 = .ok (.ifCond .eq 11, 3) := sorry
theorem dX11_found_19 : decode cX11_found 19 = .ok (.aload_n 3, 1) := sorry
theorem dX11_found_20 : decode cX11_found 20 = .ok (.iload_n 2, 1) := sorry
theorem dX11_found_21 : decode cX11_found 21 = .ok (.invokevirtual 248, 3) := sorry
theorem dX11_found_24 : decode cX11_found 24 = .ok (.goto 5, 3) := sorry
theorem dX11_found_27 : decode cX11_found 27 = .ok (.bipush (-2), 2) := sorry
theorem dX11_found_29 : decode cX11_found 29 = .ok (.ireturn, 1) := sorry
theorem dX11_falsely_0 : decode cX11_falsely 0 = .ok (.aload_n 0, 1) := sorry
theorem dX11_falsely_1 : decode cX11_falsely 1 = .ok (.iload_n 1, 1) := sorry
theorem dX11_falsely_2 : decode cX11_falsely 2 = .ok (.invokevirtual 106, 3) := sorry
theorem dX11_falsely_5 : decode cX11_falsely 5 = .ok (.astore 4, 2) := sorry
theorem dX11_falsely_7 : decode cX11_falsely 7 = .ok (.aload 4, 2) := sorry
theorem dX11_falsely_9 : decode cX11_falsely 9 = .ok (.ifnull 19, 3) := sorry
theorem dX11_falsely_12 : decode cX11_falsely 12 = .ok (.iload_n 2, 1) := sorry
theorem dX11_falsely_13 : decode cX11_falsely 13 = .ok (.invokestatic 242, 3) := sorry
theorem dX11_falsely_16 : decode cX11_falsely 16 = .ok (.ifCond .eq 12, 3) := sorry
theorem dX11_falsely_19 : decode cX11_falsely 19 = .ok (.iload_n 3, 1) := sorry
theorem dX11_falsely_20 : decode cX11_falsely 20 = .ok (.iconst 0, 1) := sorry
theorem dX11_falsely_21 : decode cX11_falsely 21 = .ok (.iconst 1, 1) := sorry
theorem dX11_falsely_22 : decode cX11_falsely 22 = .ok (.invokestatic 72, 3) := sorry
theorem dX11_falsely_25 : decode cX11_falsely 25 = .ok (.ifCond .ne 7, 3) := sorry
theorem dX11_falsely_28 : decode cX11_falsely 28 = .ok (.ldc2_w 251, 3) := sorry
theorem dX11_falsely_31 : decode cX11_falsely 31 = .ok (.lreturn, 1) := sorry
theorem dX11_falsely_32 : decode cX11_falsely 32 = .ok (.bipush 8, 2) := sorry
theorem dX11_falsely_34 : decode cX11_falsely 34 = .ok (.aload 4, 2) := sorry
theorem dX11_falsely_36 : decode cX11_falsely 36 = .ok (.getfield 110, 3) := sorry
theorem dX11_falsely_39 : decode cX11_falsely 39 = .ok (.aload 4, 2) := sorry
theorem dX11_falsely_41 : decode cX11_falsely 41 = .ok (.getfield 113, 3) := sorry
theorem dX11_falsely_44 : decode cX11_falsely 44 = .ok (.imul, 1) := sorry
theorem dX11_falsely_45 : decode cX11_falsely 45 = .ok (.invokestatic 253, 3) := sorry
theorem dX11_falsely_48 : decode cX11_falsely 48 = .ok (.istore 5, 2) := sorry
theorem dX11_falsely_50 : decode cX11_falsely 50 = .ok (.aload 4, 2) := sorry
theorem dX11_falsely_52 : decode cX11_falsely 52 = .ok (.iload_n 2, 1) := sorry
theorem dX11_falsely_53 : decode cX11_falsely 53 = .ok (.invokevirtual 248, 3) := sorry
theorem dX11_falsely_56 : decode cX11_falsely 56 = .ok (.iload 5, 2) := sorry
theorem dX11_falsely_58 : decode cX11_falsely 58 = .ok (.invokestatic 258, 3) := sorry
theorem dX11_falsely_61 : decode cX11_falsely 61 = .ok (.lstore 6, 2) := sorry
theorem dX11_falsely_63 : decode cX11_falsely 63 = .ok (.lconst 1, 1) := sorry
theorem dX11_falsely_64 : decode cX11_falsely 64 = .ok (.iload 5, 2) := sorry
theorem dX11_falsely_66 : decode cX11_falsely 66 = .ok (.lshl, 1) := sorry
theorem dX11_falsely_67 : decode cX11_falsely 67 = .ok (.lstore 8, 2) := sorry
theorem dX11_falsely_69 : decode cX11_falsely 69 = .ok (.iconst 0, 1) := sorry
theorem dX11_falsely_70 : decode cX11_falsely 70 = .ok (.istore 10, 2) := sorry
theorem dX11_falsely_72 : decode cX11_falsely 72 = .ok (.iload 10, 2) := sorry
theorem dX11_falsely_74 : decode cX11_falsely 74 = .ok (.iload 5, 2) := sorry
theorem dX11_falsely_76 : decode cX11_falsely 76 = .ok (.if_icmp .ge 47, 3) := sorry
theorem dX11_falsely_79 : decode cX11_falsely 79 = .ok (.lload 6, 2) := sorry
theorem dX11_falsely_81 : decode cX11_falsely 81 = .ok (.ldc2_w 262, 3) := sorry
theorem dX11_falsely_84 : decode cX11_falsely 84 = .ok (.lrem, 1) := sorry
theorem dX11_falsely_85 : decode cX11_falsely 85 = .ok (.lconst 0, 1) := sorry
theorem dX11_falsely_86 : decode cX11_falsely 86 = .ok (.lcmp, 1) := sorry
theorem dX11_falsely_87 : decode cX11_falsely 87 = .ok (.ifCond .ne 36, 3) := sorry
theorem dX11_falsely_90 : decode cX11_falsely 90 = .ok (.lload 8, 2) := sorry
theorem dX11_falsely_92 : decode cX11_falsely 92 = .ok (.ldc2_w 262, 3) := sorry
theorem dX11_falsely_95 : decode cX11_falsely 95 = .ok (.lrem, 1) := sorry
theorem dX11_falsely_96 : decode cX11_falsely 96 = .ok (.lconst 0, 1) := sorry
theorem dX11_falsely_97 : decode cX11_falsely 97 = .ok (.lcmp, 1) := sorry
theorem dX11_falsely_98 : decode cX11_falsely 98 = .ok (.ifCond .ne 25, 3) := sorry
theorem dX11_falsely_101 : decode cX11_falsely 101 = .ok (.lload 6, 2) := sorry
theorem dX11_falsely_103 : decode cX11_falsely 103 = .ok (.ldc2_w 262, 3) := sorry
theorem dX11_falsely_106 : decode cX11_falsely 106 = .ok (.ldiv, 1) := sorry
theorem dX11_falsely_107 : decode cX11_falsely 107 = .ok (.lstore 6, 2) := sorry
theorem dX11_falsely_109 : decode cX11_falsely 109 = .ok (.lload 8, 2) := sorry
theorem dX11_falsely_111 : decode cX11_falsely 111 = .ok (.ldc2_w 262, 3) := sorry
theorem dX11_falsely_114 : decode cX11_falsely 114 = .ok (.ldiv, 1) := sorry
theorem dX11_falsely_115 : decode cX11_falsely 115 = .ok (.lstore 8, 2) := sorry
theorem dX11_falsely_117 : decode cX11_falsely 117 = .ok (.iinc 10 1, 3) := sorry
theorem dX11_falsely_120 : decode cX11_falsely 120 = .ok (.goto (-48), 3) := sorry
theorem dX11_falsely_123 : decode cX11_falsely 123 = .ok (.iload_n 3, 1) := sorry
theorem dX11_falsely_124 : decode cX11_falsely 124 = .ok (.ifCond .ne 8, 3) := sorry
theorem dX11_falsely_127 : decode cX11_falsely 127 = .ok (.lload 6, 2) := sorry
theorem dX11_falsely_129 : decode cX11_falsely 129 = .ok (.goto 5, 3) := sorry
theorem dX11_falsely_132 : decode cX11_falsely 132 = .ok (.lload 8, 2) := sorry
theorem dX11_falsely_134 : decode cX11_falsely 134 = .ok (.lreturn, 1) := sorry
theorem dX11_like_0 : decode cX11_like 0 = .ok (.aload_n 0, 1) := sorry
theorem dX11_like_1 : decode cX11_like 1 = .ok (.iload_n 1, 1) := sorry
theorem dX11_like_2 : decode cX11_like 2 = .ok (.invokevirtual 106, 3) := sorry
theorem dX11_like_5 : decode cX11_like 5 = .ok (.astore_n 3, 1) := sorry
theorem dX11_like_6 : decode cX11_like 6 = .ok (.aload_n 0, 1) := sorry
theorem dX11_like_7 : decode cX11_like 7 = .ok (.iload_n 2, 1) := sorry
theorem dX11_like_8 : decode cX11_like 8 = .ok (.invokevirtual 106, 3) := sorry
theorem dX11_like_11 : decode cX11_like 11 = .ok (.astore 4, 2) := sorry
theorem dX11_like_13 : decode cX11_like 13 = .ok (.aload_n 3, 1) := sorry
theorem dX11_like_14 : decode cX11_like 14 = .ok (.ifnull 8, 3) := sorry
theorem dX11_like_17 : decode cX11_like 17 = .ok (.aload 4, 2) := sorry
theorem dX11_like_19 : decode cX11_like 19 = .ok (.ifnonnull 7, 3) := sorry
theorem dX11_like_22 : decode cX11_like 22 = .ok (.iconst (-1), 1) := sorry
theorem dX11_like_23 : decode cX11_like 23 = .ok (.goto 9, 3) := sorry
theorem dX11_like_26 : decode cX11_like 26 = .ok (.aload_n 3, 1) := sorry
theorem dX11_like_27 : decode cX11_like 27 = .ok (.aload 4, 2) := sorry
theorem dX11_like_29 : decode cX11_like 29 = .ok (.invokestatic 264, 3) := sorry
theorem dX11_like_32 : decode cX11_like 32 = .ok (.ireturn, 1) := sorry
theorem dX11_nearest_0 : decode cX11_nearest 0 = .ok (.aload_n 0, 1) := sorry
theorem dX11_nearest_1 : decode cX11_nearest 1 = .ok (.iload_n 1, 1) := sorry
theorem dX11_nearest_2 : decode cX11_nearest 2 = .ok (.invokevirtual 106, 3) := sorry
theorem dX11_nearest_5 : decode cX11_nearest 5 = .ok (.astore_n 3, 1) := sorry
theorem dX11_nearest_6 : decode cX11_nearest 6 = .ok (.aload_n 3, 1) := sorry
theorem dX11_nearest_7 : decode cX11_nearest 7 = .ok (.ifnull 13, 3) := sorry
theorem dX11_nearest_10 : decode cX11_nearest 10 = .ok (.iload_n 2, 1) := sorry
theorem dX11_nearest_11 : decode cX11_nearest 11 = .ok (.iconst 0, 1) := sorry
theorem dX11_nearest_12 : decode cX11_nearest 12 = .ok (.bipush 10, 2) := sorry
theorem dX11_nearest_14 : decode cX11_nearest 14 = .ok (.invokestatic 72, 3) := sorry
theorem dX11_nearest_17 : decode cX11_nearest 17 = .ok (.ifCond .ne 5, 3) := sorry
theorem dX11_nearest_20 : decode cX11_nearest 20 = .ok (.iconst (-1), 1) := sorry
theorem dX11_nearest_21 : decode cX11_nearest 21 = .ok (.ireturn, 1) := sorry
theorem dX11_nearest_22 : decode cX11_nearest 22 = .ok (.iconst 0, 1) := sorry
theorem dX11_nearest_23 : decode cX11_nearest 23 = .ok (.istore 4, 2) := sorry
theorem dX11_nearest_25 : decode cX11_nearest 25 = .ok (.iload 4, 2) := sorry
theorem dX11_nearest_27 : decode cX11_nearest 27 = .ok (.aload_n 0, 1) := sorry
theorem dX11_nearest_28 : decode cX11_nearest 28 = .ok (.getfield 92, 3) := sorry
theorem dX11_nearest_31 : decode cX11_nearest 31 = .ok (.if_icmp .ge 34, 3) := sorry
theorem dX11_nearest_34 : decode cX11_nearest 34 = .ok (.iload 4, 2) := sorry
theorem dX11_nearest_36 : decode cX11_nearest 36 = .ok (.iload_n 1, 1) := sorry
theorem dX11_nearest_37 : decode cX11_nearest 37 = .ok (.if_icmp .eq 22, 3) := sorry
theorem dX11_nearest_40 : decode cX11_nearest 40 = .ok (.aload_n 0, 1) := sorry
theorem dX11_nearest_41 : decode cX11_nearest 41 = .ok (.aload_n 3, 1) := sorry
theorem dX11_nearest_42 : decode cX11_nearest 42 = .ok (.aload_n 0, 1) := sorry
theorem dX11_nearest_43 : decode cX11_nearest 43 = .ok (.getfield 13, 3) := sorry
theorem dX11_nearest_46 : decode cX11_nearest 46 = .ok (.iload 4, 2) := sorry
theorem dX11_nearest_48 : decode cX11_nearest 48 = .ok (.aaload, 1) := sorry
theorem dX11_nearest_49 : decode cX11_nearest 49 = .ok (.invokevirtual 268, 3) := sorry
theorem dX11_nearest_52 : decode cX11_nearest 52 = .ok (.iload_n 2, 1) := sorry
theorem dX11_nearest_53 : decode cX11_nearest 53 = .ok (.if_icmp .ne 6, 3) := sorry
theorem dX11_nearest_56 : decode cX11_nearest 56 = .ok (.iload 4, 2) := sorry
theorem dX11_nearest_58 : decode cX11_nearest 58 = .ok (.ireturn, 1) := sorry
theorem dX11_nearest_59 : decode cX11_nearest 59 = .ok (.iinc 4 1, 3) := sorry
theorem dX11_nearest_62 : decode cX11_nearest 62 = .ok (.goto (-37), 3) := sorry
theorem dX11_nearest_65 : decode cX11_nearest 65 = .ok (.bipush (-9), 2) := sorry
theorem dX11_nearest_67 : decode cX11_nearest 67 = .ok (.ireturn, 1) := sorry
theorem dX11_coarse_0 : decode cX11_coarse 0 = .ok (.aload_n 0, 1) := sorry
theorem dX11_coarse_1 : decode cX11_coarse 1 = .ok (.iload_n 1, 1) := sorry
theorem dX11_coarse_2 : decode cX11_coarse 2 = .ok (.invokevirtual 106, 3) := sorry
theorem dX11_coarse_5 : decode cX11_coarse 5 = .ok (.astore_n 3, 1) := sorry
theorem dX11_coarse_6 : decode cX11_coarse 6 = .ok (.aload_n 3, 1) := sorry
theorem dX11_coarse_7 : decode cX11_coarse 7 = .ok (.ifnonnull 5, 3) := sorry
theorem dX11_coarse_10 : decode cX11_coarse 10 = .ok (.iconst (-1), 1) := sorry
theorem dX11_coarse_11 : decode cX11_coarse 11 = .ok (.ireturn, 1) := sorry
theorem dX11_coarse_12 : decode cX11_coarse 12 = .ok (.iload_n 2, 1) := sorry
theorem dX11_coarse_13 : decode cX11_coarse 13 = .ok (.iconst 1, 1) := sorry
theorem dX11_coarse_14 : decode cX11_coarse 14 = .ok (.bipush 24, 2) := sorry
theorem dX11_coarse_16 : decode cX11_coarse 16 = .ok (.invokestatic 72, 3) := sorry
theorem dX11_coarse_19 : decode cX11_coarse 19 = .ok (.ifCond .ne 6, 3) := sorry
theorem dX11_coarse_22 : decode cX11_coarse 22 = .ok (.bipush (-2), 2) := sorry
theorem dX11_coarse_24 : decode cX11_coarse 24 = .ok (.ireturn, 1) := sorry
theorem dX11_coarse_25 : decode cX11_coarse 25 = .ok (.aload_n 3, 1) := sorry
theorem dX11_coarse_26 : decode cX11_coarse 26 = .ok (.getfield 147, 3) := sorry
theorem dX11_coarse_29 : decode cX11_coarse 29 = .ok (.ifnonnull 8, 3) := sorry
theorem dX11_coarse_32 : decode cX11_coarse 32 = .ok (.bipush (-3), 2) := sorry
theorem dX11_coarse_34 : decode cX11_coarse 34 = .ok (.goto 14, 3) := sorry
theorem dX11_coarse_37 : decode cX11_coarse 37 = .ok (.aload_n 3, 1) := sorry
theorem dX11_coarse_38 : decode cX11_coarse 38 = .ok (.getfield 147, 3) := sorry
theorem dX11_coarse_41 : decode cX11_coarse 41 = .ok (.getfield 207, 3) := sorry
theorem dX11_coarse_44 : decode cX11_coarse 44 = .ok (.iload_n 2, 1) := sorry
theorem dX11_coarse_45 : decode cX11_coarse 45 = .ok (.idiv, 1) := sorry
theorem dX11_coarse_46 : decode cX11_coarse 46 = .ok (.iload_n 2, 1) := sorry
theorem dX11_coarse_47 : decode cX11_coarse 47 = .ok (.imul, 1) := sorry
theorem dX11_coarse_48 : decode cX11_coarse 48 = .ok (.ireturn, 1) := sorry
theorem dX11_look_0 : decode cX11_look 0 = .ok (.aload_n 0, 1) := sorry
theorem dX11_look_1 : decode cX11_look 1 = .ok (.iload_n 1, 1) := sorry
theorem dX11_look_2 : decode cX11_look 2 = .ok (.invokevirtual 106, 3) := sorry
theorem dX11_look_5 : decode cX11_look 5 = .ok (.astore 4, 2) := sorry
theorem dX11_look_7 : decode cX11_look 7 = .ok (.aload 4, 2) := sorry
theorem dX11_look_9 : decode cX11_look 9 = .ok (.ifnonnull 5, 3) := sorry
theorem dX11_look_12 : decode cX11_look 12 = .ok (.iconst (-1), 1) := sorry
theorem dX11_look_13 : decode cX11_look 13 = .ok (.ireturn, 1) := sorry
theorem dX11_look_14 : decode cX11_look 14 = .ok (.iload_n 2, 1) := sorry
theorem dX11_look_15 : decode cX11_look 15 = .ok (.iconst 1, 1) := sorry
theorem dX11_look_16 : decode cX11_look 16 = .ok (.bipush 9, 2) := sorry
theorem dX11_look_18 : decode cX11_look 18 = .ok (.invokestatic 72, 3) := sorry
theorem dX11_look_21 : decode cX11_look 21 = .ok (.ifCond .eq 13, 3) := sorry
theorem dX11_look_24 : decode cX11_look 24 = .ok (.iload_n 3, 1) := sorry
theorem dX11_look_25 : decode cX11_look 25 = .ok (.iconst 0, 1) := sorry
theorem dX11_look_26 : decode cX11_look 26 = .ok (.bipush 99, 2) := sorry
theorem dX11_look_28 : decode cX11_look 28 = .ok (.invokestatic 72, 3) := sorry
theorem dX11_look_31 : decode cX11_look 31 = .ok (.ifCond .ne 6, 3) := sorry
theorem dX11_look_34 : decode cX11_look 34 = .ok (.bipush (-2), 2) := sorry
theorem dX11_look_36 : decode cX11_look 36 = .ok (.ireturn, 1) := sorry
theorem dX11_look_37 : decode cX11_look 37 = .ok (.aload_n 0, 1) := sorry
theorem dX11_look_38 : decode cX11_look 38 = .ok (.getfield 271, 3) := sorry
theorem dX11_look_41 : decode cX11_look 41 = .ok (.bipush 9, 2) := sorry
theorem dX11_look_43 : decode cX11_look 43 = .ok (.if_icmp .lt 6, 3) := sorry
theorem dX11_look_46 : decode cX11_look 46 = .ok (.bipush (-4), 2) := sorry
theorem dX11_look_48 : decode cX11_look 48 = .ok (.ireturn, 1) := sorry
theorem dX11_look_49 : decode cX11_look 49 = .ok (.aload_n 0, 1) := sorry
theorem dX11_look_50 : decode cX11_look 50 = .ok (.getfield 25, 3) := sorry
theorem dX11_look_53 : decode cX11_look 53 = .ok (.aload_n 0, 1) := sorry
theorem dX11_look_54 : decode cX11_look 54 = .ok (.getfield 271, 3) := sorry
theorem dX11_look_57 : decode cX11_look 57 = .ok (.new 23, 3) := sorry
theorem dX11_look_60 : decode cX11_look 60 = .ok (.dup, 1) := sorry
theorem dX11_look_61 : decode cX11_look 61 = .ok (.aload 4, 2) := sorry
theorem dX11_look_63 : decode cX11_look 63 = .ok (.iload_n 2, 1) := sorry
theorem dX11_look_64 : decode cX11_look 64 = .ok (.iload_n 3, 1) := sorry
theorem dX11_look_65 : decode cX11_look 65 = .ok (.invokespecial 274, 3) := sorry
theorem dX11_look_68 : decode cX11_look 68 = .ok (.aastore, 1) := sorry
theorem dX11_look_69 : decode cX11_look 69 = .ok (.aload_n 0, 1) := sorry
theorem dX11_look_70 : decode cX11_look 70 = .ok (.dup, 1) := sorry
theorem dX11_look_71 : decode cX11_look 71 = .ok (.getfield 271, 3) := sorry
theorem dX11_look_74 : decode cX11_look 74 = .ok (.dup_x1, 1) := sorry
theorem dX11_look_75 : decode cX11_look 75 = .ok (.iconst 1, 1) := sorry
theorem dX11_look_76 : decode cX11_look 76 = .ok (.iadd, 1) := sorry
theorem dX11_look_77 : decode cX11_look 77 = .ok (.putfield 271, 3) := sorry
theorem dX11_look_80 : decode cX11_look 80 = .ok (.ireturn, 1) := sorry
theorem dX11_best_0 : decode cX11_best 0 = .ok (.iload_n 1, 1) := sorry
theorem dX11_best_1 : decode cX11_best 1 = .ok (.iconst 0, 1) := sorry
theorem dX11_best_2 : decode cX11_best 2 = .ok (.bipush 99, 2) := sorry
theorem dX11_best_4 : decode cX11_best 4 = .ok (.invokestatic 72, 3) := sorry
theorem dX11_best_7 : decode cX11_best 7 = .ok (.ifCond .eq 12, 3) := sorry
theorem dX11_best_10 : decode cX11_best 10 = .ok (.iload_n 2, 1) := sorry
theorem dX11_best_11 : decode cX11_best 11 = .ok (.iconst 0, 1) := sorry
theorem dX11_best_12 : decode cX11_best 12 = .ok (.iconst 2, 1) := sorry
theorem dX11_best_13 : decode cX11_best 13 = .ok (.invokestatic 72, 3) := sorry
theorem dX11_best_16 : decode cX11_best 16 = .ok (.ifCond .ne 6, 3) := sorry
theorem dX11_best_19 : decode cX11_best 19 = .ok (.bipush (-2), 2) := sorry
theorem dX11_best_21 : decode cX11_best 21 = .ok (.ireturn, 1) := sorry
theorem dX11_best_22 : decode cX11_best 22 = .ok (.iconst 0, 1) := sorry
theorem dX11_best_23 : decode cX11_best 23 = .ok (.istore_n 3, 1) := sorry
theorem dX11_best_24 : decode cX11_best 24 = .ok (.iconst 0, 1) := sorry
theorem dX11_best_25 : decode cX11_best 25 = .ok (.istore 4, 2) := sorry
theorem dX11_best_27 : decode cX11_best 27 = .ok (.iconst 0, 1) := sorry
theorem dX11_best_28 : decode cX11_best 28 = .ok (.istore 5, 2) := sorry
theorem dX11_best_30 : decode cX11_best 30 = .ok (.iconst 1, 1) := sorry
theorem dX11_best_31 : decode cX11_best 31 = .ok (.istore 6, 2) := sorry
theorem dX11_best_33 : decode cX11_best 33 = .ok (.iload 6, 2) := sorry
theorem dX11_best_35 : decode cX11_best 35 = .ok (.iconst 1, 1) := sorry
theorem dX11_best_36 : decode cX11_best 36 = .ok (.aload_n 0, 1) := sorry
theorem dX11_best_37 : decode cX11_best 37 = .ok (.getfield 271, 3) := sorry
theorem dX11_best_40 : decode cX11_best 40 = .ok (.ishl, 1) := sorry
theorem dX11_best_41 : decode cX11_best 41 = .ok (.if_icmp .ge 75, 3) := sorry
theorem dX11_best_44 : decode cX11_best 44 = .ok (.aload_n 0, 1) := sorry
theorem dX11_best_45 : decode cX11_best 45 = .ok (.iload 6, 2) := sorry
theorem dX11_best_47 : decode cX11_best 47 = .ok (.invokevirtual 277, 3) := sorry
theorem dX11_best_50 : decode cX11_best 50 = .ok (.istore 7, 2) := sorry
theorem dX11_best_52 : decode cX11_best 52 = .ok (.aload_n 0, 1) := sorry
theorem dX11_best_53 : decode cX11_best 53 = .ok (.iload 6, 2) := sorry
theorem dX11_best_55 : decode cX11_best 55 = .ok (.invokevirtual 280, 3) := sorry
theorem dX11_best_58 : decode cX11_best 58 = .ok (.istore 8, 2) := sorry
theorem dX11_best_60 : decode cX11_best 60 = .ok (.iload 8, 2) := sorry
theorem dX11_best_62 : decode cX11_best 62 = .ok (.iload 4, 2) := sorry
theorem dX11_best_64 : decode cX11_best 64 = .ok (.if_icmp .gt 17, 3) := sorry
theorem dX11_best_67 : decode cX11_best 67 = .ok (.iload 8, 2) := sorry
theorem dX11_best_69 : decode cX11_best 69 = .ok (.iload 4, 2) := sorry
theorem dX11_best_71 : decode cX11_best 71 = .ok (.if_icmp .ne 14, 3) := sorry
theorem dX11_best_74 : decode cX11_best 74 = .ok (.iload 7, 2) := sorry
theorem dX11_best_76 : decode cX11_best 76 = .ok (.iload 5, 2) := sorry
theorem dX11_best_78 : decode cX11_best 78 = .ok (.if_icmp .ge 7, 3) := sorry
theorem dX11_best_81 : decode cX11_best 81 = .ok (.iconst 1, 1) := sorry
theorem dX11_best_82 : decode cX11_best 82 = .ok (.goto 4, 3) := sorry
theorem dX11_best_85 : decode cX11_best 85 = .ok (.iconst 0, 1) := sorry
theorem dX11_best_86 : decode cX11_best 86 = .ok (.istore 9, 2) := sorry
theorem dX11_best_88 : decode cX11_best 88 = .ok (.iload 7, 2) := sorry
theorem dX11_best_90 : decode cX11_best 90 = .ok (.iload_n 1, 1) := sorry
theorem dX11_best_91 : decode cX11_best 91 = .ok (.if_icmp .gt 19, 3) := sorry
theorem dX11_best_94 : decode cX11_best 94 = .ok (.iload 9, 2) := sorry
theorem dX11_best_96 : decode cX11_best 96 = .ok (.ifCond .eq 14, 3) := sorry
theorem dX11_best_99 : decode cX11_best 99 = .ok (.iload 6, 2) := sorry
theorem dX11_best_101 : decode cX11_best 101 = .ok (.istore_n 3, 1) := sorry
theorem dX11_best_102 : decode cX11_best 102 = .ok (.iload 8, 2) := sorry
theorem dX11_best_104 : decode cX11_best 104 = .ok (.istore 4, 2) := sorry
theorem dX11_best_106 : decode cX11_best 106 = .ok (.iload 7, 2) := sorry
theorem dX11_best_108 : decode cX11_best 108 = .ok (.istore 5, 2) := sorry
theorem dX11_best_110 : decode cX11_best 110 = .ok (.iinc 6 1, 3) := sorry
theorem dX11_best_113 : decode cX11_best 113 = .ok (.goto (-80), 3) := sorry
theorem dX11_best_116 : decode cX11_best 116 = .ok (.iload_n 2, 1) := sorry
theorem dX11_best_117 : decode cX11_best 117 = .ok (.ifCond .ne 7, 3) := sorry
theorem dX11_best_120 : decode cX11_best 120 = .ok (.iload_n 3, 1) := sorry
theorem dX11_best_121 : decode cX11_best 121 = .ok (.goto 15, 3) := sorry
theorem dX11_best_124 : decode cX11_best 124 = .ok (.iload_n 2, 1) := sorry
theorem dX11_best_125 : decode cX11_best 125 = .ok (.iconst 1, 1) := sorry
theorem dX11_best_126 : decode cX11_best 126 = .ok (.if_icmp .ne 8, 3) := sorry
theorem dX11_best_129 : decode cX11_best 129 = .ok (.iload 4, 2) := sorry
theorem dX11_best_131 : decode cX11_best 131 = .ok (.goto 5, 3) := sorry
theorem dX11_best_134 : decode cX11_best 134 = .ok (.iload 5, 2) := sorry
theorem dX11_best_136 : decode cX11_best 136 = .ok (.ireturn, 1) := sorry
theorem dX11_doubtful_0 : decode cX11_doubtful 0 = .ok (.iconst 0, 1) := sorry
theorem dX11_doubtful_1 : decode cX11_doubtful 1 = .ok (.istore_n 1, 1) := sorry
theorem dX11_doubtful_2 : decode cX11_doubtful 2 = .ok (.iconst 0, 1) := sorry
theorem dX11_doubtful_3 : decode cX11_doubtful 3 = .ok (.istore_n 2, 1) := sorry
theorem dX11_doubtful_4 : decode cX11_doubtful 4 = .ok (.iload_n 2, 1) := sorry
theorem dX11_doubtful_5 : decode cX11_doubtful 5 = .ok (.aload_n 0, 1) := sorry
theorem dX11_doubtful_6 : decode cX11_doubtful 6 = .ok (.getfield 271, 3) := sorry
theorem dX11_doubtful_9 : decode cX11_doubtful 9 = .ok (.if_icmp .ge 33, 3) := sorry
theorem dX11_doubtful_12 : decode cX11_doubtful 12 = .ok (.aload_n 0, 1) := sorry
theorem dX11_doubtful_13 : decode cX11_doubtful 13 = .ok (.aload_n 0, 1) := sorry
theorem dX11_doubtful_14 : decode cX11_doubtful 14 = .ok (.getfield 25, 3) := sorry
theorem dX11_doubtful_17 : decode cX11_doubtful 17 = .ok (.iload_n 2, 1) := sorry
theorem dX11_doubtful_18 : decode cX11_doubtful 18 = .ok (.aaload, 1) := sorry
theorem dX11_doubtful_19 : decode cX11_doubtful 19 = .ok (.getfield 283, 3) := sorry
theorem dX11_doubtful_22 : decode cX11_doubtful 22 = .ok (.invokevirtual 226, 3) := sorry
theorem dX11_doubtful_25 : decode cX11_doubtful 25 = .ok (.bipush (-9), 2) := sorry
theorem dX11_doubtful_27 : decode cX11_doubtful 27 = .ok (.if_icmp .eq 9, 3) := sorry
theorem dX11_doubtful_30 : decode cX11_doubtful 30 = .ok (.iload_n 1, 1) := sorry
theorem dX11_doubtful_31 : decode cX11_doubtful 31 = .ok (.iconst 1, 1) := sorry
theorem dX11_doubtful_32 : decode cX11_doubtful 32 = .ok (.iload_n 2, 1) := sorry
theorem dX11_doubtful_33 : decode cX11_doubtful 33 = .ok (.ishl, 1) := sorry
theorem dX11_doubtful_34 : decode cX11_doubtful 34 = .ok (.ior, 1) := sorry
theorem dX11_doubtful_35 : decode cX11_doubtful 35 = .ok (.istore_n 1, 1) := sorry
theorem dX11_doubtful_36 : decode cX11_doubtful 36 = .ok (.iinc 2 1, 3) := sorry
theorem dX11_doubtful_39 : decode cX11_doubtful 39 = .ok (.goto (-35), 3) := sorry
theorem dX11_doubtful_42 : decode cX11_doubtful 42 = .ok (.iload_n 1, 1) := sorry
theorem dX11_doubtful_43 : decode cX11_doubtful 43 = .ok (.ireturn, 1) := sorry
theorem dX11_sheet_0 : decode cX11_sheet 0 = .ok (.aload_n 0, 1) := sorry
theorem dX11_sheet_1 : decode cX11_sheet 1 = .ok (.iconst 0, 1) := sorry
theorem dX11_sheet_2 : decode cX11_sheet 2 = .ok (.putfield 64, 3) := sorry
theorem dX11_sheet_5 : decode cX11_sheet 5 = .ok (.aload_n 0, 1) := sorry
theorem dX11_sheet_6 : decode cX11_sheet 6 = .ok (.iload_n 1, 1) := sorry
theorem dX11_sheet_7 : decode cX11_sheet 7 = .ok (.invokevirtual 68, 3) := sorry
theorem dX11_sheet_10 : decode cX11_sheet 10 = .ok (.astore 4, 2) := sorry
theorem dX11_sheet_12 : decode cX11_sheet 12 = .ok (.aload 4, 2) := sorry
theorem dX11_sheet_14 : decode cX11_sheet 14 = .ok (.ifnonnull 5, 3) := sorry
theorem dX11_sheet_17 : decode cX11_sheet 17 = .ok (.iconst (-1), 1) := sorry
theorem dX11_sheet_18 : decode cX11_sheet 18 = .ok (.ireturn, 1) := sorry
theorem dX11_sheet_19 : decode cX11_sheet 19 = .ok (.iload_n 2, 1) := sorry
theorem dX11_sheet_20 : decode cX11_sheet 20 = .ok (.invokestatic 76, 3) := sorry
theorem dX11_sheet_23 : decode cX11_sheet 23 = .ok (.ifCond .eq 9, 3) := sorry
theorem dX11_sheet_26 : decode cX11_sheet 26 = .ok (.iload_n 3, 1) := sorry
theorem dX11_sheet_27 : decode cX11_sheet 27 = .ok (.bipush 60, 2) := sorry
theorem dX11_sheet_29 : decode cX11_sheet 29 = .ok (.if_icmp .le 6, 3) := sorry
theorem dX11_sheet_32 : decode cX11_sheet 32 = .ok (.bipush (-2), 2) := sorry
theorem dX11_sheet_34 : decode cX11_sheet 34 = .ok (.ireturn, 1) := sorry
theorem dX11_sheet_35 : decode cX11_sheet 35 = .ok (.iload_n 3, 1) := sorry
theorem dX11_sheet_36 : decode cX11_sheet 36 = .ok (.ifCond .ge 9, 3) := sorry
theorem dX11_sheet_39 : decode cX11_sheet 39 = .ok (.aload_n 0, 1) := sorry
theorem dX11_sheet_40 : decode cX11_sheet 40 = .ok (.iconst 4, 1) := sorry
theorem dX11_sheet_41 : decode cX11_sheet 41 = .ok (.invokevirtual 84, 3) := sorry
theorem dX11_sheet_44 : decode cX11_sheet 44 = .ok (.ireturn, 1) := sorry
theorem dX11_sheet_45 : decode cX11_sheet 45 = .ok (.aload 4, 2) := sorry
theorem dX11_sheet_47 : decode cX11_sheet 47 = .ok (.iload_n 2, 1) := sorry
theorem dX11_sheet_48 : decode cX11_sheet 48 = .ok (.iload_n 3, 1) := sorry
theorem dX11_sheet_49 : decode cX11_sheet 49 = .ok (.invokevirtual 286, 3) := sorry
theorem dX11_sheet_52 : decode cX11_sheet 52 = .ok (.iconst 1, 1) := sorry
theorem dX11_sheet_53 : decode cX11_sheet 53 = .ok (.ireturn, 1) := sorry
theorem dX11_lose_0 : decode cX11_lose 0 = .ok (.aload_n 0, 1) := sorry
theorem dX11_lose_1 : decode cX11_lose 1 = .ok (.iload_n 1, 1) := sorry
theorem dX11_lose_2 : decode cX11_lose 2 = .ok (.invokevirtual 68, 3) := sorry
theorem dX11_lose_5 : decode cX11_lose 5 = .ok (.astore_n 2, 1) := sorry
theorem dX11_lose_6 : decode cX11_lose 6 = .ok (.aload_n 2, 1) := sorry
theorem dX11_lose_7 : decode cX11_lose 7 = .ok (.ifnonnull 5, 3) := sorry
theorem dX11_lose_10 : decode cX11_lose 10 = .ok (.iconst (-1), 1) := sorry
theorem dX11_lose_11 : decode cX11_lose 11 = .ok (.ireturn, 1) := sorry
theorem dX11_lose_12 : decode cX11_lose 12 = .ok (.aload_n 2, 1) := sorry
theorem dX11_lose_13 : decode cX11_lose 13 = .ok (.getfield 289, 3) := sorry
theorem dX11_lose_16 : decode cX11_lose 16 = .ok (.ifCond .ne 5, 3) := sorry
theorem dX11_lose_19 : decode cX11_lose 19 = .ok (.iconst 0, 1) := sorry
theorem dX11_lose_20 : decode cX11_lose 20 = .ok (.ireturn, 1) := sorry
theorem dX11_lose_21 : decode cX11_lose 21 = .ok (.aload_n 2, 1) := sorry
theorem dX11_lose_22 : decode cX11_lose 22 = .ok (.iconst 0, 1) := sorry
theorem dX11_lose_23 : decode cX11_lose 23 = .ok (.putfield 289, 3) := sorry
theorem dX11_lose_26 : decode cX11_lose 26 = .ok (.iconst 1, 1) := sorry
theorem dX11_lose_27 : decode cX11_lose 27 = .ok (.ireturn, 1) := sorry
theorem dX11_put_0 : decode cX11_put 0 = .ok (.aload_n 0, 1) := sorry
theorem dX11_put_1 : decode cX11_put 1 = .ok (.iconst 0, 1) := sorry
theorem dX11_put_2 : decode cX11_put 2 = .ok (.putfield 64, 3) := sorry
theorem dX11_put_5 : decode cX11_put 5 = .ok (.aload_n 0, 1) := sorry
theorem dX11_put_6 : decode cX11_put 6 = .ok (.iload_n 1, 1) := sorry
theorem dX11_put_7 : decode cX11_put 7 = .ok (.invokevirtual 68, 3) := sorry
theorem dX11_put_10 : decode cX11_put 10 = .ok (.astore 4, 2) := sorry
theorem dX11_put_12 : decode cX11_put 12 = .ok (.aload 4, 2) := sorry
theorem dX11_put_14 : decode cX11_put 14 = .ok (.ifnonnull 5, 3) := sorry
theorem dX11_put_17 : decode cX11_put 17 = .ok (.iconst (-1), 1) := sorry
theorem dX11_put_18 : decode cX11_put 18 = .ok (.ireturn, 1) := sorry
theorem dX11_put_19 : decode cX11_put 19 = .ok (.aload 4, 2) := sorry
theorem dX11_put_21 : decode cX11_put 21 = .ok (.aload 4, 2) := sorry
theorem dX11_put_23 : decode cX11_put 23 = .ok (.getfield 293, 3) := sorry
theorem dX11_put_26 : decode cX11_put 26 = .ok (.iload_n 2, 1) := sorry
theorem dX11_put_27 : decode cX11_put 27 = .ok (.iconst 1, 1) := sorry
theorem dX11_put_28 : decode cX11_put 28 = .ok (.invokevirtual 80, 3) := sorry
theorem dX11_put_31 : decode cX11_put 31 = .ok (.istore 5, 2) := sorry
theorem dX11_put_33 : decode cX11_put 33 = .ok (.iload 5, 2) := sorry
theorem dX11_put_35 : decode cX11_put 35 = .ok (.ifCond .eq 10, 3) := sorry
theorem dX11_put_38 : decode cX11_put 38 = .ok (.aload_n 0, 1) := sorry
theorem dX11_put_39 : decode cX11_put 39 = .ok (.iload 5, 2) := sorry
theorem dX11_put_41 : decode cX11_put 41 = .ok (.invokevirtual 84, 3) := sorry
theorem dX11_put_44 : decode cX11_put 44 = .ok (.ireturn, 1) := sorry
theorem dX11_put_45 : decode cX11_put 45 = .ok (.aload 4, 2) := sorry
theorem dX11_put_47 : decode cX11_put 47 = .ok (.iload_n 2, 1) := sorry
theorem dX11_put_48 : decode cX11_put 48 = .ok (.iload_n 3, 1) := sorry
theorem dX11_put_49 : decode cX11_put 49 = .ok (.invokevirtual 296, 3) := sorry
theorem dX11_put_52 : decode cX11_put 52 = .ok (.iconst 1, 1) := sorry
theorem dX11_put_53 : decode cX11_put 53 = .ok (.ireturn, 1) := sorry
theorem dX11_cell_0 : decode cX11_cell 0 = .ok (.aload_n 0, 1) := sorry
theorem dX11_cell_1 : decode cX11_cell 1 = .ok (.iconst 0, 1) := sorry
theorem dX11_cell_2 : decode cX11_cell 2 = .ok (.putfield 64, 3) := sorry
theorem dX11_cell_5 : decode cX11_cell 5 = .ok (.aload_n 0, 1) := sorry
theorem dX11_cell_6 : decode cX11_cell 6 = .ok (.iload_n 1, 1) := sorry
theorem dX11_cell_7 : decode cX11_cell 7 = .ok (.invokevirtual 68, 3) := sorry
theorem dX11_cell_10 : decode cX11_cell 10 = .ok (.astore 4, 2) := sorry
theorem dX11_cell_12 : decode cX11_cell 12 = .ok (.aload 4, 2) := sorry
theorem dX11_cell_14 : decode cX11_cell 14 = .ok (.ifnull 10, 3) := sorry
theorem dX11_cell_17 : decode cX11_cell 17 = .ok (.iload_n 3, 1) := sorry
theorem dX11_cell_18 : decode cX11_cell 18 = .ok (.invokestatic 76, 3) := sorry
theorem dX11_cell_21 : decode cX11_cell 21 = .ok (.ifCond .ne 7, 3) := sorry
theorem dX11_cell_24 : decode cX11_cell 24 = .ok (.ldc2_w 251, 3) := sorry
theorem dX11_cell_27 : decode cX11_cell 27 = .ok (.lreturn, 1) := sorry
theorem dX11_cell_28 : decode cX11_cell 28 = .ok (.aload 4, 2) := sorry
theorem dX11_cell_30 : decode cX11_cell 30 = .ok (.iload_n 3, 1) := sorry
theorem dX11_cell_31 : decode cX11_cell 31 = .ok (.iload_n 2, 1) := sorry
theorem dX11_cell_32 : decode cX11_cell 32 = .ok (.iconst 1, 1) := sorry
theorem dX11_cell_33 : decode cX11_cell 33 = .ok (.invokevirtual 80, 3) := sorry
theorem dX11_cell_36 : decode cX11_cell 36 = .ok (.istore 5, 2) := sorry
theorem dX11_cell_38 : decode cX11_cell 38 = .ok (.iload 5, 2) := sorry
theorem dX11_cell_40 : decode cX11_cell 40 = .ok (.ifCond .eq 13, 3) := sorry
theorem dX11_cell_43 : decode cX11_cell 43 = .ok (.aload_n 0, 1) := sorry
theorem dX11_cell_44 : decode cX11_cell 44 = .ok (.iload 5, 2) := sorry
theorem dX11_cell_46 : decode cX11_cell 46 = .ok (.putfield 64, 3) := sorry
theorem dX11_cell_49 : decode cX11_cell 49 = .ok (.ldc2_w 251, 3) := sorry
theorem dX11_cell_52 : decode cX11_cell 52 = .ok (.lreturn, 1) := sorry
theorem dX11_cell_53 : decode cX11_cell 53 = .ok (.aload 4, 2) := sorry
theorem dX11_cell_55 : decode cX11_cell 55 = .ok (.iload_n 2, 1) := sorry
theorem dX11_cell_56 : decode cX11_cell 56 = .ok (.invokevirtual 236, 3) := sorry
theorem dX11_cell_59 : decode cX11_cell 59 = .ok (.i2l, 1) := sorry
theorem dX11_cell_60 : decode cX11_cell 60 = .ok (.lreturn, 1) := sorry
theorem dX11_copy_0 : decode cX11_copy 0 = .ok (.aload_n 0, 1) := sorry
theorem dX11_copy_1 : decode cX11_copy 1 = .ok (.iconst 0, 1) := sorry
theorem dX11_copy_2 : decode cX11_copy 2 = .ok (.putfield 64, 3) := sorry
theorem dX11_copy_5 : decode cX11_copy 5 = .ok (.aload_n 0, 1) := sorry
theorem dX11_copy_6 : decode cX11_copy 6 = .ok (.iload_n 1, 1) := sorry
theorem dX11_copy_7 : decode cX11_copy 7 = .ok (.invokevirtual 68, 3) := sorry
theorem dX11_copy_10 : decode cX11_copy 10 = .ok (.astore 6, 2) := sorry
theorem dX11_copy_12 : decode cX11_copy 12 = .ok (.aload_n 0, 1) := sorry
theorem dX11_copy_13 : decode cX11_copy 13 = .ok (.iload_n 3, 1) := sorry
theorem dX11_copy_14 : decode cX11_copy 14 = .ok (.invokevirtual 68, 3) := sorry
theorem dX11_copy_17 : decode cX11_copy 17 = .ok (.astore 7, 2) := sorry
theorem dX11_copy_19 : decode cX11_copy 19 = .ok (.aload 6, 2) := sorry
theorem dX11_copy_21 : decode cX11_copy 21 = .ok (.ifnull 8, 3) := sorry
theorem dX11_copy_24 : decode cX11_copy 24 = .ok (.aload 7, 2) := sorry
theorem dX11_copy_26 : decode cX11_copy 26 = .ok (.ifnonnull 5, 3) := sorry
theorem dX11_copy_29 : decode cX11_copy 29 = .ok (.iconst (-1), 1) := sorry
theorem dX11_copy_30 : decode cX11_copy 30 = .ok (.ireturn, 1) := sorry
theorem dX11_copy_31 : decode cX11_copy 31 = .ok (.aload 6, 2) := sorry
theorem dX11_copy_33 : decode cX11_copy 33 = .ok (.getfield 289, 3) := sorry
theorem dX11_copy_36 : decode cX11_copy 36 = .ok (.ifCond .eq 11, 3) := sorry
theorem dX11_copy_39 : decode cX11_copy 39 = .ok (.aload 7, 2) := sorry
theorem dX11_copy_41 : decode cX11_copy 41 = .ok (.getfield 289, 3) := sorry
theorem dX11_copy_44 : decode cX11_copy 44 = .ok (.ifCond .ne 9, 3) := sorry
theorem dX11_copy_47 : decode cX11_copy 47 = .ok (.aload_n 0, 1) := sorry
theorem dX11_copy_48 : decode cX11_copy 48 = .ok (.iconst 1, 1) := sorry
theorem dX11_copy_49 : decode cX11_copy 49 = .ok (.invokevirtual 84, 3) := sorry
theorem dX11_copy_52 : decode cX11_copy 52 = .ok (.ireturn, 1) := sorry
theorem dX11_copy_53 : decode cX11_copy 53 = .ok (.aload 6, 2) := sorry
theorem dX11_copy_55 : decode cX11_copy 55 = .ok (.getfield 293, 3) := sorry
theorem dX11_copy_58 : decode cX11_copy 58 = .ok (.aload 7, 2) := sorry
theorem dX11_copy_60 : decode cX11_copy 60 = .ok (.getfield 293, 3) := sorry
theorem dX11_copy_63 : decode cX11_copy 63 = .ok (.if_icmp .eq 9, 3) := sorry
theorem dX11_copy_66 : decode cX11_copy 66 = .ok (.aload_n 0, 1) := sorry
theorem dX11_copy_67 : decode cX11_copy 67 = .ok (.iconst 2, 1) := sorry
theorem dX11_copy_68 : decode cX11_copy 68 = .ok (.invokevirtual 84, 3) := sorry
theorem dX11_copy_71 : decode cX11_copy 71 = .ok (.ireturn, 1) := sorry
theorem dX11_copy_72 : decode cX11_copy 72 = .ok (.iload 5, 2) := sorry
theorem dX11_copy_74 : decode cX11_copy 74 = .ok (.ifCond .lt 26, 3) := sorry
theorem dX11_copy_77 : decode cX11_copy 77 = .ok (.aload 6, 2) := sorry
theorem dX11_copy_79 : decode cX11_copy 79 = .ok (.iload_n 2, 1) := sorry
theorem dX11_copy_80 : decode cX11_copy 80 = .ok (.iload 5, 2) := sorry
theorem dX11_copy_82 : decode cX11_copy 82 = .ok (.invokevirtual 299, 3) := sorry
theorem dX11_copy_85 : decode cX11_copy 85 = .ok (.ifCond .ne 15, 3) := sorry
theorem dX11_copy_88 : decode cX11_copy 88 = .ok (.aload 7, 2) := sorry
theorem dX11_copy_90 : decode cX11_copy 90 = .ok (.iload 4, 2) := sorry
theorem dX11_copy_92 : decode cX11_copy 92 = .ok (.iload 5, 2) := sorry
theorem dX11_copy_94 : decode cX11_copy 94 = .ok (.invokevirtual 299, 3) := sorry
theorem dX11_copy_97 : decode cX11_copy 97 = .ok (.ifCond .eq 9, 3) := sorry
theorem dX11_copy_100 : decode cX11_copy 100 = .ok (.aload_n 0, 1) := sorry
theorem dX11_copy_101 : decode cX11_copy 101 = .ok (.iconst 3, 1) := sorry
theorem dX11_copy_102 : decode cX11_copy 102 = .ok (.invokevirtual 84, 3) := sorry
theorem dX11_copy_105 : decode cX11_copy 105 = .ok (.ireturn, 1) := sorry
theorem dX11_copy_106 : decode cX11_copy 106 = .ok (.aload 6, 2) := sorry
theorem dX11_copy_108 : decode cX11_copy 108 = .ok (.getfield 302, 3) := sorry
theorem dX11_copy_111 : decode cX11_copy 111 = .ok (.iload_n 2, 1) := sorry
theorem dX11_copy_112 : decode cX11_copy 112 = .ok (.aload 7, 2) := sorry
theorem dX11_copy_114 : decode cX11_copy 114 = .ok (.getfield 302, 3) := sorry
theorem dX11_copy_117 : decode cX11_copy 117 = .ok (.iload 4, 2) := sorry
theorem dX11_copy_119 : decode cX11_copy 119 = .ok (.iload 5, 2) := sorry
theorem dX11_copy_121 : decode cX11_copy 121 = .ok (.invokestatic 305, 3) := sorry
theorem dX11_copy_124 : decode cX11_copy 124 = .ok (.iload 5, 2) := sorry
theorem dX11_copy_126 : decode cX11_copy 126 = .ok (.ireturn, 1) := sorry
theorem dX11_tell_0 : decode cX11_tell 0 = .ok (.aload_n 0, 1) := sorry
theorem dX11_tell_1 : decode cX11_tell 1 = .ok (.iload_n 1, 1) := sorry
theorem dX11_tell_2 : decode cX11_tell 2 = .ok (.invokevirtual 106, 3) := sorry
theorem dX11_tell_5 : decode cX11_tell 5 = .ok (.astore_n 2, 1) := sorry
theorem dX11_tell_6 : decode cX11_tell 6 = .ok (.aload_n 2, 1) := sorry
theorem dX11_tell_7 : decode cX11_tell 7 = .ok (.ifnonnull 5, 3) := sorry
theorem dX11_tell_10 : decode cX11_tell 10 = .ok (.iconst (-1), 1) := sorry
theorem dX11_tell_11 : decode cX11_tell 11 = .ok (.ireturn, 1) := sorry
theorem dX11_tell_12 : decode cX11_tell 12 = .ok (.aload_n 2, 1) := sorry
theorem dX11_tell_13 : decode cX11_tell 13 = .ok (.getfield 147, 3) := sorry
theorem dX11_tell_16 : decode cX11_tell 16 = .ok (.ifnonnull 8, 3) := sorry
theorem dX11_tell_19 : decode cX11_tell 19 = .ok (.bipush (-3), 2) := sorry
theorem dX11_tell_21 : decode cX11_tell 21 = .ok (.goto 14, 3) := sorry
theorem dX11_tell_24 : decode cX11_tell 24 = .ok (.aload_n 2, 1) := sorry
theorem dX11_tell_25 : decode cX11_tell 25 = .ok (.getfield 147, 3) := sorry
theorem dX11_tell_28 : decode cX11_tell 28 = .ok (.aload_n 0, 1) := sorry
theorem dX11_tell_29 : decode cX11_tell 29 = .ok (.getfield 59, 3) := sorry
theorem dX11_tell_32 : decode cX11_tell 32 = .ok (.invokevirtual 311, 3) := sorry
theorem dX11_tell_35 : decode cX11_tell 35 = .ok (.ireturn, 1) := sorry
theorem dX11_show_0 : decode cX11_show 0 = .ok (.aload_n 0, 1) := sorry
theorem dX11_show_1 : decode cX11_show 1 = .ok (.iload_n 1, 1) := sorry
theorem dX11_show_2 : decode cX11_show 2 = .ok (.invokevirtual 106, 3) := sorry
theorem dX11_show_5 : decode cX11_show 5 = .ok (.astore_n 2, 1) := sorry
theorem dX11_show_6 : decode cX11_show 6 = .ok (.aload_n 2, 1) := sorry
theorem dX11_show_7 : decode cX11_show 7 = .ok (.ifnonnull 5, 3) := sorry
theorem dX11_show_10 : decode cX11_show 10 = .ok (.iconst (-1), 1) := sorry
theorem dX11_show_11 : decode cX11_show 11 = .ok (.ireturn, 1) := sorry
theorem dX11_show_12 : decode cX11_show 12 = .ok (.aload_n 2, 1) := sorry
theorem dX11_show_13 : decode cX11_show 13 = .ok (.getfield 147, 3) := sorry
theorem dX11_show_16 : decode cX11_show 16 = .ok (.ifnonnull 8, 3) := sorry
theorem dX11_show_19 : decode cX11_show 19 = .ok (.bipush (-3), 2) := sorry
theorem dX11_show_21 : decode cX11_show 21 = .ok (.goto 14, 3) := sorry
theorem dX11_show_24 : decode cX11_show 24 = .ok (.aload_n 2, 1) := sorry
theorem dX11_show_25 : decode cX11_show 25 = .ok (.getfield 147, 3) := sorry
theorem dX11_show_28 : decode cX11_show 28 = .ok (.aload_n 0, 1) := sorry
theorem dX11_show_29 : decode cX11_show 29 = .ok (.getfield 59, 3) := sorry
theorem dX11_show_32 : decode cX11_show 32 = .ok (.invokevirtual 315, 3) := sorry
theorem dX11_show_35 : decode cX11_show 35 = .ok (.ireturn, 1) := sorry
theorem dX11_as_0 : decode cX11_as 0 = .ok (.aload_n 0, 1) := sorry
theorem dX11_as_1 : decode cX11_as 1 = .ok (.iconst 0, 1) := sorry
theorem dX11_as_2 : decode cX11_as 2 = .ok (.putfield 64, 3) := sorry
theorem dX11_as_5 : decode cX11_as 5 = .ok (.aload_n 0, 1) := sorry
theorem dX11_as_6 : decode cX11_as 6 = .ok (.iload_n 1, 1) := sorry
theorem dX11_as_7 : decode cX11_as 7 = .ok (.invokevirtual 106, 3) := sorry
theorem dX11_as_10 : decode cX11_as 10 = .ok (.astore_n 3, 1) := sorry
theorem dX11_as_11 : decode cX11_as 11 = .ok (.aload_n 3, 1) := sorry
theorem dX11_as_12 : decode cX11_as 12 = .ok (.ifnonnull 5, 3) := sorry
theorem dX11_as_15 : decode cX11_as 15 = .ok (.iconst (-1), 1) := sorry
theorem dX11_as_16 : decode cX11_as 16 = .ok (.ireturn, 1) := sorry
theorem dX11_as_17 : decode cX11_as 17 = .ok (.iload_n 2, 1) := sorry
theorem dX11_as_18 : decode cX11_as 18 = .ok (.iconst 0, 1) := sorry
theorem dX11_as_19 : decode cX11_as 19 = .ok (.iconst 2, 1) := sorry
theorem dX11_as_20 : decode cX11_as 20 = .ok (.invokestatic 72, 3) := sorry
theorem dX11_as_23 : decode cX11_as 23 = .ok (.ifCond .ne 6, 3) := sorry
theorem dX11_as_26 : decode cX11_as 26 = .ok (.bipush (-2), 2) := sorry
theorem dX11_as_28 : decode cX11_as 28 = .ok (.ireturn, 1) := sorry
theorem dX11_as_29 : decode cX11_as 29 = .ok (.aload_n 3, 1) := sorry
theorem dX11_as_30 : decode cX11_as 30 = .ok (.getfield 147, 3) := sorry
theorem dX11_as_33 : decode cX11_as 33 = .ok (.ifnonnull 6, 3) := sorry
theorem dX11_as_36 : decode cX11_as 36 = .ok (.bipush (-3), 2) := sorry
theorem dX11_as_38 : decode cX11_as 38 = .ok (.ireturn, 1) := sorry
theorem dX11_as_39 : decode cX11_as 39 = .ok (.aload_n 3, 1) := sorry
theorem dX11_as_40 : decode cX11_as 40 = .ok (.getfield 147, 3) := sorry
theorem dX11_as_43 : decode cX11_as 43 = .ok (.invokevirtual 199, 3) := sorry
theorem dX11_as_46 : decode cX11_as 46 = .ok (.iload_n 2, 1) := sorry
theorem dX11_as_47 : decode cX11_as 47 = .ok (.if_icmp .ge 11, 3) := sorry
theorem dX11_as_50 : decode cX11_as 50 = .ok (.aload_n 0, 1) := sorry
theorem dX11_as_51 : decode cX11_as 51 = .ok (.iconst 2, 1) := sorry
theorem dX11_as_52 : decode cX11_as 52 = .ok (.invokevirtual 84, 3) := sorry
theorem dX11_as_55 : decode cX11_as 55 = .ok (.goto 4, 3) := sorry
theorem dX11_as_58 : decode cX11_as 58 = .ok (.iconst 1, 1) := sorry
theorem dX11_as_59 : decode cX11_as 59 = .ok (.ireturn, 1) := sorry
theorem dX11_trace_0 : decode cX11_trace 0 = .ok (.aload_n 0, 1) := sorry
theorem dX11_trace_1 : decode cX11_trace 1 = .ok (.getfield 59, 3) := sorry
theorem dX11_trace_4 : decode cX11_trace 4 = .ok (.getfield 318, 3) := sorry
theorem dX11_trace_7 : decode cX11_trace 7 = .ok (.ireturn, 1) := sorry
theorem dX11_fault_0 : decode cX11_fault 0 = .ok (.aload_n 0, 1) := sorry
theorem dX11_fault_1 : decode cX11_fault 1 = .ok (.getfield 64, 3) := sorry
theorem dX11_fault_4 : decode cX11_fault 4 = .ok (.ireturn, 1) := sorry
theorem dX11_many_0 : decode cX11_many 0 = .ok (.iload_n 1, 1) := sorry
theorem dX11_many_1 : decode cX11_many 1 = .ok (.tableswitch 51 0 3 #[31, 36, 41, 46], 31) := sorry
theorem dX11_many_32 : decode cX11_many 32 = .ok (.aload_n 0, 1) := sorry
theorem dX11_many_33 : decode cX11_many 33 = .ok (.getfield 92, 3) := sorry
theorem dX11_many_36 : decode cX11_many 36 = .ok (.ireturn, 1) := sorry
theorem dX11_many_37 : decode cX11_many 37 = .ok (.aload_n 0, 1) := sorry
theorem dX11_many_38 : decode cX11_many 38 = .ok (.getfield 131, 3) := sorry
theorem dX11_many_41 : decode cX11_many 41 = .ok (.ireturn, 1) := sorry
theorem dX11_many_42 : decode cX11_many 42 = .ok (.aload_n 0, 1) := sorry
theorem dX11_many_43 : decode cX11_many 43 = .ok (.invokevirtual 321, 3) := sorry
theorem dX11_many_46 : decode cX11_many 46 = .ok (.ireturn, 1) := sorry
theorem dX11_many_47 : decode cX11_many 47 = .ok (.aload_n 0, 1) := sorry
theorem dX11_many_48 : decode cX11_many 48 = .ok (.getfield 271, 3) := sorry
theorem dX11_many_51 : decode cX11_many 51 = .ok (.ireturn, 1) := sorry
theorem dX11_many_52 : decode cX11_many 52 = .ok (.bipush (-2), 2) := sorry
theorem dX11_many_54 : decode cX11_many 54 = .ok (.ireturn, 1) := sorry
theorem dX11_isIn_0 : decode cX11_isIn 0 = .ok (.iload_n 0, 1) := sorry
theorem dX11_isIn_1 : decode cX11_isIn 1 = .ok (.iload_n 1, 1) := sorry
theorem dX11_isIn_2 : decode cX11_isIn 2 = .ok (.if_icmp .lt 12, 3) := sorry
theorem dX11_isIn_5 : decode cX11_isIn 5 = .ok (.iload_n 0, 1) := sorry
theorem dX11_isIn_6 : decode cX11_isIn 6 = .ok (.iload_n 2, 1) := sorry
theorem dX11_isIn_7 : decode cX11_isIn 7 = .ok (.if_icmp .gt 7, 3) := sorry
theorem dX11_isIn_10 : decode cX11_isIn 10 = .ok (.iconst 1, 1) := sorry
theorem dX11_isIn_11 : decode cX11_isIn 11 = .ok (.goto 4, 3) := sorry
theorem dX11_isIn_14 : decode cX11_isIn 14 = .ok (.iconst 0, 1) := sorry
theorem dX11_isIn_15 : decode cX11_isIn 15 = .ok (.ireturn, 1) := sorry
theorem dX11_isLane_0 : decode cX11_isLane 0 = .ok (.iload_n 0, 1) := sorry
theorem dX11_isLane_1 : decode cX11_isLane 1 = .ok (.iconst 0, 1) := sorry
theorem dX11_isLane_2 : decode cX11_isLane 2 = .ok (.iconst 2, 1) := sorry
theorem dX11_isLane_3 : decode cX11_isLane 3 = .ok (.invokestatic 72, 3) := sorry
theorem dX11_isLane_6 : decode cX11_isLane 6 = .ok (.ireturn, 1) := sorry
theorem dX11_isHour_0 : decode cX11_isHour 0 = .ok (.iload_n 0, 1) := sorry
theorem dX11_isHour_1 : decode cX11_isHour 1 = .ok (.iconst 0, 1) := sorry
theorem dX11_isHour_2 : decode cX11_isHour 2 = .ok (.sipush 999, 3) := sorry
theorem dX11_isHour_5 : decode cX11_isHour 5 = .ok (.invokestatic 72, 3) := sorry
theorem dX11_isHour_8 : decode cX11_isHour 8 = .ok (.ireturn, 1) := sorry
theorem dX11_isPlace_0 : decode cX11_isPlace 0 = .ok (.iload_n 0, 1) := sorry
theorem dX11_isPlace_1 : decode cX11_isPlace 1 = .ok (.iconst 0, 1) := sorry
theorem dX11_isPlace_2 : decode cX11_isPlace 2 = .ok (.bipush 15, 2) := sorry
theorem dX11_isPlace_4 : decode cX11_isPlace 4 = .ok (.invokestatic 72, 3) := sorry
theorem dX11_isPlace_7 : decode cX11_isPlace 7 = .ok (.ireturn, 1) := sorry
theorem dX11_isMark_0 : decode cX11_isMark 0 = .ok (.iload_n 0, 1) := sorry
theorem dX11_isMark_1 : decode cX11_isMark 1 = .ok (.iconst 0, 1) := sorry
theorem dX11_isMark_2 : decode cX11_isMark 2 = .ok (.sipush 255, 3) := sorry
theorem dX11_isMark_5 : decode cX11_isMark 5 = .ok (.invokestatic 72, 3) := sorry
theorem dX11_isMark_8 : decode cX11_isMark 8 = .ok (.ireturn, 1) := sorry
theorem dX11_pictureAt_0 : decode cX11_pictureAt 0 = .ok (.iload_n 1, 1) := sorry
theorem dX11_pictureAt_1 : decode cX11_pictureAt 1 = .ok (.iconst 0, 1) := sorry
theorem dX11_pictureAt_2 : decode cX11_pictureAt 2 = .ok (.aload_n 0, 1) := sorry
theorem dX11_pictureAt_3 : decode cX11_pictureAt 3 = .ok (.getfield 92, 3) := sorry
theorem dX11_pictureAt_6 : decode cX11_pictureAt 6 = .ok (.iconst 1, 1) := sorry
theorem dX11_pictureAt_7 : decode cX11_pictureAt 7 = .ok (.isub, 1) := sorry
theorem dX11_pictureAt_8 : decode cX11_pictureAt 8 = .ok (.invokestatic 72, 3) := sorry
theorem dX11_pictureAt_11 : decode cX11_pictureAt 11 = .ok (.ifCond .eq 12, 3) := sorry
theorem dX11_pictureAt_14 : decode cX11_pictureAt 14 = .ok (.aload_n 0, 1) := sorry
theorem dX11_pictureAt_15 : decode cX11_pictureAt 15 = .ok (.getfield 13, 3) := sorry
theorem dX11_pictureAt_18 : decode cX11_pictureAt 18 = .ok (.iload_n 1, 1) := sorry
theorem dX11_pictureAt_19 : decode cX11_pictureAt 19 = .ok (.aaload, 1) := sorry
theorem dX11_pictureAt_20 : decode cX11_pictureAt 20 = .ok (.goto 4, 3) := sorry
theorem dX11_pictureAt_23 : decode cX11_pictureAt 23 = .ok (.aconst_null, 1) := sorry
theorem dX11_pictureAt_24 : decode cX11_pictureAt 24 = .ok (.areturn, 1) := sorry
theorem dX11_lensAt_0 : decode cX11_lensAt 0 = .ok (.iload_n 1, 1) := sorry
theorem dX11_lensAt_1 : decode cX11_lensAt 1 = .ok (.iconst 0, 1) := sorry
theorem dX11_lensAt_2 : decode cX11_lensAt 2 = .ok (.aload_n 0, 1) := sorry
theorem dX11_lensAt_3 : decode cX11_lensAt 3 = .ok (.getfield 131, 3) := sorry
theorem dX11_lensAt_6 : decode cX11_lensAt 6 = .ok (.iconst 1, 1) := sorry
theorem dX11_lensAt_7 : decode cX11_lensAt 7 = .ok (.isub, 1) := sorry
theorem dX11_lensAt_8 : decode cX11_lensAt 8 = .ok (.invokestatic 72, 3) := sorry
theorem dX11_lensAt_11 : decode cX11_lensAt 11 = .ok (.ifCond .eq 12, 3) := sorry
theorem dX11_lensAt_14 : decode cX11_lensAt 14 = .ok (.aload_n 0, 1) := sorry
theorem dX11_lensAt_15 : decode cX11_lensAt 15 = .ok (.getfield 19, 3) := sorry
theorem dX11_lensAt_18 : decode cX11_lensAt 18 = .ok (.iload_n 1, 1) := sorry
theorem dX11_lensAt_19 : decode cX11_lensAt 19 = .ok (.aaload, 1) := sorry
theorem dX11_lensAt_20 : decode cX11_lensAt 20 = .ok (.goto 4, 3) := sorry
theorem dX11_lensAt_23 : decode cX11_lensAt 23 = .ok (.aconst_null, 1) := sorry
theorem dX11_lensAt_24 : decode cX11_lensAt 24 = .ok (.areturn, 1) := sorry
theorem dX11_sheetAt_0 : decode cX11_sheetAt 0 = .ok (.iload_n 1, 1) := sorry
theorem dX11_sheetAt_1 : decode cX11_sheetAt 1 = .ok (.iconst 0, 1) := sorry
theorem dX11_sheetAt_2 : decode cX11_sheetAt 2 = .ok (.iconst 3, 1) := sorry
theorem dX11_sheetAt_3 : decode cX11_sheetAt 3 = .ok (.invokestatic 72, 3) := sorry
theorem dX11_sheetAt_6 : decode cX11_sheetAt 6 = .ok (.ifCond .eq 12, 3) := sorry
theorem dX11_sheetAt_9 : decode cX11_sheetAt 9 = .ok (.aload_n 0, 1) := sorry
theorem dX11_sheetAt_10 : decode cX11_sheetAt 10 = .ok (.getfield 31, 3) := sorry
theorem dX11_sheetAt_13 : decode cX11_sheetAt 13 = .ok (.iload_n 1, 1) := sorry
theorem dX11_sheetAt_14 : decode cX11_sheetAt 14 = .ok (.aaload, 1) := sorry
theorem dX11_sheetAt_15 : decode cX11_sheetAt 15 = .ok (.goto 4, 3) := sorry
theorem dX11_sheetAt_18 : decode cX11_sheetAt 18 = .ok (.aconst_null, 1) := sorry
theorem dX11_sheetAt_19 : decode cX11_sheetAt 19 = .ok (.areturn, 1) := sorry
theorem dX11_failed_0 : decode cX11_failed 0 = .ok (.aload_n 0, 1) := sorry
theorem dX11_failed_1 : decode cX11_failed 1 = .ok (.iload_n 1, 1) := sorry
theorem dX11_failed_2 : decode cX11_failed 2 = .ok (.putfield 64, 3) := sorry
theorem dX11_failed_5 : decode cX11_failed 5 = .ok (.bipush (-10), 2) := sorry
theorem dX11_failed_7 : decode cX11_failed 7 = .ok (.iload_n 1, 1) := sorry
theorem dX11_failed_8 : decode cX11_failed 8 = .ok (.isub, 1) := sorry
theorem dX11_failed_9 : decode cX11_failed 9 = .ok (.ireturn, 1) := sorry
theorem dX11_addPicture_0 : decode cX11_addPicture 0 = .ok (.new 11, 3) := sorry
theorem dX11_addPicture_3 : decode cX11_addPicture 3 = .ok (.dup, 1) := sorry
theorem dX11_addPicture_4 : decode cX11_addPicture 4 = .ok (.aload_n 0, 1) := sorry
theorem dX11_addPicture_5 : decode cX11_addPicture 5 = .ok (.getfield 92, 3) := sorry
theorem dX11_addPicture_8 : decode cX11_addPicture 8 = .ok (.invokespecial 324, 3) := sorry
theorem dX11_addPicture_11 : decode cX11_addPicture 11 = .ok (.astore_n 1, 1) := sorry
theorem dX11_addPicture_12 : decode cX11_addPicture 12 = .ok (.aload_n 0, 1) := sorry
theorem dX11_addPicture_13 : decode cX11_addPicture 13 = .ok (.getfield 13, 3) := sorry
theorem dX11_addPicture_16 : decode cX11_addPicture 16 = .ok (.aload_n 0, 1) := sorry
theorem dX11_addPicture_17 : decode cX11_addPicture 17 = .ok (.getfield 92, 3) := sorry
theorem dX11_addPicture_20 : decode cX11_addPicture 20 = .ok (.aload_n 1, 1) := sorry
theorem dX11_addPicture_21 : decode cX11_addPicture 21 = .ok (.aastore, 1) := sorry
theorem dX11_addPicture_22 : decode cX11_addPicture 22 = .ok (.aload_n 0, 1) := sorry
theorem dX11_addPicture_23 : decode cX11_addPicture 23 = .ok (.dup, 1) := sorry
theorem dX11_addPicture_24 : decode cX11_addPicture 24 = .ok (.getfield 92, 3) := sorry
theorem dX11_addPicture_27 : decode cX11_addPicture 27 = .ok (.iconst 1, 1) := sorry
theorem dX11_addPicture_28 : decode cX11_addPicture 28 = .ok (.iadd, 1) := sorry
theorem dX11_addPicture_29 : decode cX11_addPicture 29 = .ok (.putfield 92, 3) := sorry
theorem dX11_addPicture_32 : decode cX11_addPicture 32 = .ok (.aload_n 1, 1) := sorry
theorem dX11_addPicture_33 : decode cX11_addPicture 33 = .ok (.areturn, 1) := sorry
theorem dX11_readActs_0 : decode cX11_readActs 0 = .ok (.aload_n 1, 1) := sorry
theorem dX11_readActs_1 : decode cX11_readActs 1 = .ok (.iload_n 2, 1) := sorry
theorem dX11_readActs_2 : decode cX11_readActs 2 = .ok (.iload_n 3, 1) := sorry
theorem dX11_readActs_3 : decode cX11_readActs 3 = .ok (.iload 4, 2) := sorry
theorem dX11_readActs_5 : decode cX11_readActs 5 = .ok (.invokevirtual 80, 3) := sorry
theorem dX11_readActs_8 : decode cX11_readActs 8 = .ok (.istore 5, 2) := sorry
theorem dX11_readActs_10 : decode cX11_readActs 10 = .ok (.iload 5, 2) := sorry
theorem dX11_readActs_12 : decode cX11_readActs 12 = .ok (.ifCond .eq 10, 3) := sorry
theorem dX11_readActs_15 : decode cX11_readActs 15 = .ok (.aload_n 0, 1) := sorry
theorem dX11_readActs_16 : decode cX11_readActs 16 = .ok (.iload 5, 2) := sorry
theorem dX11_readActs_18 : decode cX11_readActs 18 = .ok (.invokevirtual 84, 3) := sorry
theorem dX11_readActs_21 : decode cX11_readActs 21 = .ok (.ireturn, 1) := sorry
theorem dX11_readActs_22 : decode cX11_readActs 22 = .ok (.aload_n 0, 1) := sorry
theorem dX11_readActs_23 : decode cX11_readActs 23 = .ok (.getfield 45, 3) := sorry
theorem dX11_readActs_26 : decode cX11_readActs 26 = .ok (.aload_n 1, 1) := sorry
theorem dX11_readActs_27 : decode cX11_readActs 27 = .ok (.iload_n 3, 1) := sorry
theorem dX11_readActs_28 : decode cX11_readActs 28 = .ok (.iload 4, 2) := sorry
theorem dX11_readActs_30 : decode cX11_readActs 30 = .ok (.invokevirtual 327, 3) := sorry
theorem dX11_readActs_33 : decode cX11_readActs 33 = .ok (.istore 6, 2) := sorry
theorem dX11_readActs_35 : decode cX11_readActs 35 = .ok (.iload 6, 2) := sorry
theorem dX11_readActs_37 : decode cX11_readActs 37 = .ok (.iconst (-1), 1) := sorry
theorem dX11_readActs_38 : decode cX11_readActs 38 = .ok (.if_icmp .ne 7, 3) := sorry
theorem dX11_readActs_41 : decode cX11_readActs 41 = .ok (.iconst 0, 1) := sorry
theorem dX11_readActs_42 : decode cX11_readActs 42 = .ok (.goto 8, 3) := sorry
theorem dX11_readActs_45 : decode cX11_readActs 45 = .ok (.bipush (-100), 2) := sorry
theorem dX11_readActs_47 : decode cX11_readActs 47 = .ok (.iload 6, 2) := sorry
theorem dX11_readActs_49 : decode cX11_readActs 49 = .ok (.isub, 1) := sorry
theorem dX11_readActs_50 : decode cX11_readActs 50 = .ok (.ireturn, 1) := sorry
theorem dX11_sealOf_0 : decode cX11_sealOf 0 = .ok (.aload_n 0, 1) := sorry
theorem dX11_sealOf_1 : decode cX11_sealOf 1 = .ok (.getfield 38, 3) := sorry
theorem dX11_sealOf_4 : decode cX11_sealOf 4 = .ok (.aload_n 1, 1) := sorry
theorem dX11_sealOf_5 : decode cX11_sealOf 5 = .ok (.invokevirtual 120, 3) := sorry
theorem dX11_sealOf_8 : decode cX11_sealOf 8 = .ok (.aload_n 2, 1) := sorry
theorem dX11_sealOf_9 : decode cX11_sealOf 9 = .ok (.getfield 331, 3) := sorry
theorem dX11_sealOf_12 : decode cX11_sealOf 12 = .ok (.imul, 1) := sorry
theorem dX11_sealOf_13 : decode cX11_sealOf 13 = .ok (.bipush 13, 2) := sorry
theorem dX11_sealOf_15 : decode cX11_sealOf 15 = .ok (.iload_n 3, 1) := sorry
theorem dX11_sealOf_16 : decode cX11_sealOf 16 = .ok (.imul, 1) := sorry
theorem dX11_sealOf_17 : decode cX11_sealOf 17 = .ok (.iadd, 1) := sorry
theorem dX11_sealOf_18 : decode cX11_sealOf 18 = .ok (.iconst 5, 1) := sorry
theorem dX11_sealOf_19 : decode cX11_sealOf 19 = .ok (.aload_n 1, 1) := sorry
theorem dX11_sealOf_20 : decode cX11_sealOf 20 = .ok (.getfield 110, 3) := sorry
theorem dX11_sealOf_23 : decode cX11_sealOf 23 = .ok (.imul, 1) := sorry
theorem dX11_sealOf_24 : decode cX11_sealOf 24 = .ok (.iadd, 1) := sorry
theorem dX11_sealOf_25 : decode cX11_sealOf 25 = .ok (.aload_n 1, 1) := sorry
theorem dX11_sealOf_26 : decode cX11_sealOf 26 = .ok (.getfield 113, 3) := sorry
theorem dX11_sealOf_29 : decode cX11_sealOf 29 = .ok (.iadd, 1) := sorry
theorem dX11_sealOf_30 : decode cX11_sealOf 30 = .ok (.sipush 9973, 3) := sorry
theorem dX11_sealOf_33 : decode cX11_sealOf 33 = .ok (.irem, 1) := sorry
theorem dX11_sealOf_34 : decode cX11_sealOf 34 = .ok (.ireturn, 1) := sorry
theorem dX11_voiceOf_0 : decode cX11_voiceOf 0 = .ok (.aload_n 2, 1) := sorry
theorem dX11_voiceOf_1 : decode cX11_voiceOf 1 = .ok (.getfield 202, 3) := sorry
theorem dX11_voiceOf_4 : decode cX11_voiceOf 4 = .ok (.getfield 141, 3) := sorry
theorem dX11_voiceOf_7 : decode cX11_voiceOf 7 = .ok (.aload_n 2, 1) := sorry
theorem dX11_voiceOf_8 : decode cX11_voiceOf 8 = .ok (.getfield 207, 3) := sorry
theorem dX11_voiceOf_11 : decode cX11_voiceOf 11 = .ok (.if_icmp .gt 5, 3) := sorry
theorem dX11_voiceOf_14 : decode cX11_voiceOf 14 = .ok (.iconst 3, 1) := sorry
theorem dX11_voiceOf_15 : decode cX11_voiceOf 15 = .ok (.ireturn, 1) := sorry
theorem dX11_voiceOf_16 : decode cX11_voiceOf 16 = .ok (.aload_n 0, 1) := sorry
theorem dX11_voiceOf_17 : decode cX11_voiceOf 17 = .ok (.aload_n 1, 1) := sorry
theorem dX11_voiceOf_18 : decode cX11_voiceOf 18 = .ok (.aload_n 2, 1) := sorry
theorem dX11_voiceOf_19 : decode cX11_voiceOf 19 = .ok (.getfield 202, 3) := sorry
theorem dX11_voiceOf_22 : decode cX11_voiceOf 22 = .ok (.aload_n 2, 1) := sorry
theorem dX11_voiceOf_23 : decode cX11_voiceOf 23 = .ok (.getfield 207, 3) := sorry
theorem dX11_voiceOf_26 : decode cX11_voiceOf 26 = .ok (.invokevirtual 153, 3) := sorry
theorem dX11_voiceOf_29 : decode cX11_voiceOf 29 = .ok (.aload_n 2, 1) := sorry
theorem dX11_voiceOf_30 : decode cX11_voiceOf 30 = .ok (.getfield 160, 3) := sorry
theorem dX11_voiceOf_33 : decode cX11_voiceOf 33 = .ok (.if_icmp .eq 5, 3) := sorry
theorem dX11_voiceOf_36 : decode cX11_voiceOf 36 = .ok (.iconst 2, 1) := sorry
theorem dX11_voiceOf_37 : decode cX11_voiceOf 37 = .ok (.ireturn, 1) := sorry
theorem dX11_voiceOf_38 : decode cX11_voiceOf 38 = .ok (.aload_n 2, 1) := sorry
theorem dX11_voiceOf_39 : decode cX11_voiceOf 39 = .ok (.invokevirtual 199, 3) := sorry
theorem dX11_voiceOf_42 : decode cX11_voiceOf 42 = .ok (.iconst 1, 1) := sorry
theorem dX11_voiceOf_43 : decode cX11_voiceOf 43 = .ok (.if_icmp .ne 16, 3) := sorry
theorem dX11_voiceOf_46 : decode cX11_voiceOf 46 = .ok (.aload_n 0, 1) := sorry
theorem dX11_voiceOf_47 : decode cX11_voiceOf 47 = .ok (.aload_n 1, 1) := sorry
theorem dX11_voiceOf_48 : decode cX11_voiceOf 48 = .ok (.aload_n 2, 1) := sorry
theorem dX11_voiceOf_49 : decode cX11_voiceOf 49 = .ok (.invokevirtual 219, 3) := sorry
theorem dX11_voiceOf_52 : decode cX11_voiceOf 52 = .ok (.bipush (-9), 2) := sorry
theorem dX11_voiceOf_54 : decode cX11_voiceOf 54 = .ok (.if_icmp .eq 5, 3) := sorry
theorem dX11_voiceOf_57 : decode cX11_voiceOf 57 = .ok (.iconst 4, 1) := sorry
theorem dX11_voiceOf_58 : decode cX11_voiceOf 58 = .ok (.ireturn, 1) := sorry
theorem dX11_voiceOf_59 : decode cX11_voiceOf 59 = .ok (.aload_n 2, 1) := sorry
theorem dX11_voiceOf_60 : decode cX11_voiceOf 60 = .ok (.invokevirtual 199, 3) := sorry
theorem dX11_voiceOf_63 : decode cX11_voiceOf 63 = .ok (.iconst 2, 1) := sorry
theorem dX11_voiceOf_64 : decode cX11_voiceOf 64 = .ok (.if_icmp .ne 7, 3) := sorry
theorem dX11_voiceOf_67 : decode cX11_voiceOf 67 = .ok (.iconst 1, 1) := sorry
theorem dX11_voiceOf_68 : decode cX11_voiceOf 68 = .ok (.goto 4, 3) := sorry
theorem dX11_voiceOf_71 : decode cX11_voiceOf 71 = .ok (.iconst 0, 1) := sorry
theorem dX11_voiceOf_72 : decode cX11_voiceOf 72 = .ok (.ireturn, 1) := sorry
theorem dX11_firstFarPlace_0 : decode cX11_firstFarPlace 0 = .ok (.aload_n 2, 1) := sorry
theorem dX11_firstFarPlace_1 : decode cX11_firstFarPlace 1 = .ok (.invokevirtual 210, 3) := sorry
theorem dX11_firstFarPlace_4 : decode cX11_firstFarPlace 4 = .ok (.astore_n 3, 1) := sorry
theorem dX11_firstFarPlace_5 : decode cX11_firstFarPlace 5 = .ok (.aload_n 3, 1) := sorry
theorem dX11_firstFarPlace_6 : decode cX11_firstFarPlace 6 = .ok (.ifnull 23, 3) := sorry
theorem dX11_firstFarPlace_9 : decode cX11_firstFarPlace 9 = .ok (.aload_n 0, 1) := sorry
theorem dX11_firstFarPlace_10 : decode cX11_firstFarPlace 10 = .ok (.getfield 52, 3) := sorry
theorem dX11_firstFarPlace_13 : decode cX11_firstFarPlace 13 = .ok (.aload_n 3, 1) := sorry
theorem dX11_firstFarPlace_14 : decode cX11_firstFarPlace 14 = .ok (.aload_n 2, 1) := sorry
theorem dX11_firstFarPlace_15 : decode cX11_firstFarPlace 15 = .ok (.invokevirtual 213, 3) := sorry
theorem dX11_firstFarPlace_18 : decode cX11_firstFarPlace 18 = .ok (.aload_n 2, 1) := sorry
theorem dX11_firstFarPlace_19 : decode cX11_firstFarPlace 19 = .ok (.invokevirtual 213, 3) := sorry
theorem dX11_firstFarPlace_22 : decode cX11_firstFarPlace 22 = .ok (.arraylength, 1) := sorry
theorem dX11_firstFarPlace_23 : decode cX11_firstFarPlace 23 = .ok (.invokevirtual 187, 3) := sorry
theorem dX11_firstFarPlace_26 : decode cX11_firstFarPlace 26 = .ok (.ifCond .ne 6, 3) := sorry
theorem dX11_firstFarPlace_29 : decode cX11_firstFarPlace 29 = .ok (.bipush (-20), 2) := sorry
theorem dX11_firstFarPlace_31 : decode cX11_firstFarPlace 31 = .ok (.ireturn, 1) := sorry
theorem dX11_firstFarPlace_32 : decode cX11_firstFarPlace 32 = .ok (.aload_n 0, 1) := sorry
theorem dX11_firstFarPlace_33 : decode cX11_firstFarPlace 33 = .ok (.getfield 52, 3) := sorry
theorem dX11_firstFarPlace_36 : decode cX11_firstFarPlace 36 = .ok (.getfield 191, 3) := sorry
theorem dX11_firstFarPlace_39 : decode cX11_firstFarPlace 39 = .ok (.astore 4, 2) := sorry
theorem dX11_firstFarPlace_41 : decode cX11_firstFarPlace 41 = .ok (.aload 4, 2) := sorry
theorem dX11_firstFarPlace_43 : decode cX11_firstFarPlace 43 = .ok (.getfield 110, 3) := sorry
theorem dX11_firstFarPlace_46 : decode cX11_firstFarPlace 46 = .ok (.aload_n 1, 1) := sorry
theorem dX11_firstFarPlace_47 : decode cX11_firstFarPlace 47 = .ok (.getfield 110, 3) := sorry
theorem dX11_firstFarPlace_50 : decode cX11_firstFarPlace 50 = .ok (.if_icmp .ne 15, 3) := sorry
theorem dX11_firstFarPlace_53 : decode cX11_firstFarPlace 53 = .ok (.aload 4, 2) := sorry
theorem dX11_firstFarPlace_55 : decode cX11_firstFarPlace 55 = .ok (.getfield 113, 3) := sorry
theorem dX11_firstFarPlace_58 : decode cX11_firstFarPlace 58 = .ok (.aload_n 1, 1) := sorry
theorem dX11_firstFarPlace_59 : decode cX11_firstFarPlace 59 = .ok (.getfield 113, 3) := sorry
theorem dX11_firstFarPlace_62 : decode cX11_firstFarPlace 62 = .ok (.if_icmp .eq 6, 3) := sorry
theorem dX11_firstFarPlace_65 : decode cX11_firstFarPlace 65 = .ok (.bipush (-21), 2) := sorry
theorem dX11_firstFarPlace_67 : decode cX11_firstFarPlace 67 = .ok (.ireturn, 1) := sorry
theorem dX11_firstFarPlace_68 : decode cX11_firstFarPlace 68 = .ok (.iconst 0, 1) := sorry
theorem dX11_firstFarPlace_69 : decode cX11_firstFarPlace 69 = .ok (.istore 5, 2) := sorry
theorem dX11_firstFarPlace_71 : decode cX11_firstFarPlace 71 = .ok (.iload 5, 2) := sorry
theorem dX11_firstFarPlace_73 : decode cX11_firstFarPlace 73 = .ok (.bipush 16, 2) := sorry
theorem dX11_firstFarPlace_75 : decode cX11_firstFarPlace 75 = .ok (.if_icmp .ge 38, 3) := sorry
theorem dX11_firstFarPlace_78 : decode cX11_firstFarPlace 78 = .ok (.aload 4, 2) := sorry
theorem dX11_firstFarPlace_80 : decode cX11_firstFarPlace 80 = .ok (.getfield 127, 3) := sorry
theorem dX11_firstFarPlace_83 : decode cX11_firstFarPlace 83 = .ok (.iload 5, 2) := sorry
theorem dX11_firstFarPlace_85 : decode cX11_firstFarPlace 85 = .ok (.iaload, 1) := sorry
theorem dX11_firstFarPlace_86 : decode cX11_firstFarPlace 86 = .ok (.aload_n 1, 1) := sorry
theorem dX11_firstFarPlace_87 : decode cX11_firstFarPlace 87 = .ok (.getfield 127, 3) := sorry
theorem dX11_firstFarPlace_90 : decode cX11_firstFarPlace 90 = .ok (.iload 5, 2) := sorry
theorem dX11_firstFarPlace_92 : decode cX11_firstFarPlace 92 = .ok (.iaload, 1) := sorry
theorem dX11_firstFarPlace_93 : decode cX11_firstFarPlace 93 = .ok (.isub, 1) := sorry
theorem dX11_firstFarPlace_94 : decode cX11_firstFarPlace 94 = .ok (.invokestatic 334, 3) := sorry
theorem dX11_firstFarPlace_97 : decode cX11_firstFarPlace 97 = .ok (.aload_n 0, 1) := sorry
theorem dX11_firstFarPlace_98 : decode cX11_firstFarPlace 98 = .ok (.getfield 222, 3) := sorry
theorem dX11_firstFarPlace_101 : decode cX11_firstFarPlace 101 = .ok (.if_icmp .le 6, 3) := sorry
theorem dX11_firstFarPlace_104 : decode cX11_firstFarPlace 104 = .ok (.iload 5, 2) := sorry
theorem dX11_firstFarPlace_106 : decode cX11_firstFarPlace 106 = .ok (.ireturn, 1) := sorry
theorem dX11_firstFarPlace_107 : decode cX11_firstFarPlace 107 = .ok (.iinc 5 1, 3) := sorry
theorem dX11_firstFarPlace_110 : decode cX11_firstFarPlace 110 = .ok (.goto (-39), 3) := sorry
theorem dX11_firstFarPlace_113 : decode cX11_firstFarPlace 113 = .ok (.bipush (-9), 2) := sorry
theorem dX11_firstFarPlace_115 : decode cX11_firstFarPlace 115 = .ok (.ireturn, 1) := sorry
theorem dX11_firstDoubt_0 : decode cX11_firstDoubt 0 = .ok (.aload_n 1, 1) := sorry
theorem dX11_firstDoubt_1 : decode cX11_firstDoubt 1 = .ok (.astore_n 2, 1) := sorry
theorem dX11_firstDoubt_2 : decode cX11_firstDoubt 2 = .ok (.aload_n 2, 1) := sorry
theorem dX11_firstDoubt_3 : decode cX11_firstDoubt 3 = .ok (.ifnull 36, 3) := sorry
theorem dX11_firstDoubt_6 : decode cX11_firstDoubt 6 = .ok (.aload_n 2, 1) := sorry
theorem dX11_firstDoubt_7 : decode cX11_firstDoubt 7 = .ok (.getfield 147, 3) := sorry
theorem dX11_firstDoubt_10 : decode cX11_firstDoubt 10 = .ok (.ifnull 16, 3) := sorry
theorem dX11_firstDoubt_13 : decode cX11_firstDoubt 13 = .ok (.aload_n 0, 1) := sorry
theorem dX11_firstDoubt_14 : decode cX11_firstDoubt 14 = .ok (.aload_n 2, 1) := sorry
theorem dX11_firstDoubt_15 : decode cX11_firstDoubt 15 = .ok (.aload_n 2, 1) := sorry
theorem dX11_firstDoubt_16 : decode cX11_firstDoubt 16 = .ok (.getfield 147, 3) := sorry
theorem dX11_firstDoubt_19 : decode cX11_firstDoubt 19 = .ok (.invokevirtual 215, 3) := sorry
theorem dX11_firstDoubt_22 : decode cX11_firstDoubt 22 = .ok (.iconst 2, 1) := sorry
theorem dX11_firstDoubt_23 : decode cX11_firstDoubt 23 = .ok (.if_icmp .lt 8, 3) := sorry
theorem dX11_firstDoubt_26 : decode cX11_firstDoubt 26 = .ok (.aload_n 2, 1) := sorry
theorem dX11_firstDoubt_27 : decode cX11_firstDoubt 27 = .ok (.getfield 103, 3) := sorry
theorem dX11_firstDoubt_30 : decode cX11_firstDoubt 30 = .ok (.ireturn, 1) := sorry
theorem dX11_firstDoubt_31 : decode cX11_firstDoubt 31 = .ok (.aload_n 2, 1) := sorry
theorem dX11_firstDoubt_32 : decode cX11_firstDoubt 32 = .ok (.invokevirtual 225, 3) := sorry
theorem dX11_firstDoubt_35 : decode cX11_firstDoubt 35 = .ok (.astore_n 2, 1) := sorry
theorem dX11_firstDoubt_36 : decode cX11_firstDoubt 36 = .ok (.goto (-34), 3) := sorry
theorem dX11_firstDoubt_39 : decode cX11_firstDoubt 39 = .ok (.bipush (-9), 2) := sorry
theorem dX11_firstDoubt_41 : decode cX11_firstDoubt 41 = .ok (.ireturn, 1) := sorry
theorem dX11_waysOfAtLeast_0 : decode cX11_waysOfAtLeast 0 = .ok (.lconst 0, 1) := sorry
theorem dX11_waysOfAtLeast_1 : decode cX11_waysOfAtLeast 1 = .ok (.lstore_n 2, 1) := sorry
theorem dX11_waysOfAtLeast_2 : decode cX11_waysOfAtLeast 2 = .ok (.lconst 1, 1) := sorry
theorem dX11_waysOfAtLeast_3 : decode cX11_waysOfAtLeast 3 = .ok (.lstore 4, 2) := sorry
theorem dX11_waysOfAtLeast_5 : decode cX11_waysOfAtLeast 5 = .ok (.iconst 0, 1) := sorry
theorem dX11_waysOfAtLeast_6 : decode cX11_waysOfAtLeast 6 = .ok (.istore 6, 2) := sorry
theorem dX11_waysOfAtLeast_8 : decode cX11_waysOfAtLeast 8 = .ok (.iload 6, 2) := sorry
theorem dX11_waysOfAtLeast_10 : decode cX11_waysOfAtLeast 10 = .ok (.iload_n 1, 1) := sorry
theorem dX11_waysOfAtLeast_11 : decode cX11_waysOfAtLeast 11 = .ok (.if_icmp .gt 36, 3) := sorry
theorem dX11_waysOfAtLeast_14 : decode cX11_waysOfAtLeast 14 = .ok (.iload 6, 2) := sorry
theorem dX11_waysOfAtLeast_16 : decode cX11_waysOfAtLeast 16 = .ok (.iload_n 0, 1) := sorry
theorem dX11_waysOfAtLeast_17 : decode cX11_waysOfAtLeast 17 = .ok (.if_icmp .lt 8, 3) := sorry
theorem dX11_waysOfAtLeast_20 : decode cX11_waysOfAtLeast 20 = .ok (.lload_n 2, 1) := sorry
theorem dX11_waysOfAtLeast_21 : decode cX11_waysOfAtLeast 21 = .ok (.lload 4, 2) := sorry
theorem dX11_waysOfAtLeast_23 : decode cX11_waysOfAtLeast 23 = .ok (.ladd, 1) := sorry
theorem dX11_waysOfAtLeast_24 : decode cX11_waysOfAtLeast 24 = .ok (.lstore_n 2, 1) := sorry
theorem dX11_waysOfAtLeast_25 : decode cX11_waysOfAtLeast 25 = .ok (.lload 4, 2) := sorry
theorem dX11_waysOfAtLeast_27 : decode cX11_waysOfAtLeast 27 = .ok (.iload_n 1, 1) := sorry
theorem dX11_waysOfAtLeast_28 : decode cX11_waysOfAtLeast 28 = .ok (.iload 6, 2) := sorry
theorem dX11_waysOfAtLeast_30 : decode cX11_waysOfAtLeast 30 = .ok (.isub, 1) := sorry
theorem dX11_waysOfAtLeast_31 : decode cX11_waysOfAtLeast 31 = .ok (.i2l, 1) := sorry
theorem dX11_waysOfAtLeast_32 : decode cX11_waysOfAtLeast 32 = .ok (.lmul, 1) := sorry
theorem dX11_waysOfAtLeast_33 : decode cX11_waysOfAtLeast 33 = .ok (.iload 6, 2) := sorry
theorem dX11_waysOfAtLeast_35 : decode cX11_waysOfAtLeast 35 = .ok (.iconst 1, 1) := sorry
theorem dX11_waysOfAtLeast_36 : decode cX11_waysOfAtLeast 36 = .ok (.iadd, 1) := sorry
theorem dX11_waysOfAtLeast_37 : decode cX11_waysOfAtLeast 37 = .ok (.i2l, 1) := sorry
theorem dX11_waysOfAtLeast_38 : decode cX11_waysOfAtLeast 38 = .ok (.ldiv, 1) := sorry
theorem dX11_waysOfAtLeast_39 : decode cX11_waysOfAtLeast 39 = .ok (.lstore 4, 2) := sorry
theorem dX11_waysOfAtLeast_41 : decode cX11_waysOfAtLeast 41 = .ok (.iinc 6 1, 3) := sorry
theorem dX11_waysOfAtLeast_44 : decode cX11_waysOfAtLeast 44 = .ok (.goto (-36), 3) := sorry
theorem dX11_waysOfAtLeast_47 : decode cX11_waysOfAtLeast 47 = .ok (.lload_n 2, 1) := sorry
theorem dX11_waysOfAtLeast_48 : decode cX11_waysOfAtLeast 48 = .ok (.lreturn, 1) := sorry
theorem dX11_likeness_0 : decode cX11_likeness 0 = .ok (.aload_n 0, 1) := sorry
theorem dX11_likeness_1 : decode cX11_likeness 1 = .ok (.invokevirtual 337, 3) := sorry
theorem dX11_likeness_4 : decode cX11_likeness 4 = .ok (.aload_n 1, 1) := sorry
theorem dX11_likeness_5 : decode cX11_likeness 5 = .ok (.invokevirtual 337, 3) := sorry
theorem dX11_likeness_8 : decode cX11_likeness 8 = .ok (.isub, 1) := sorry
theorem dX11_likeness_9 : decode cX11_likeness 9 = .ok (.invokestatic 334, 3) := sorry
theorem dX11_likeness_12 : decode cX11_likeness 12 = .ok (.aload_n 0, 1) := sorry
theorem dX11_likeness_13 : decode cX11_likeness 13 = .ok (.invokevirtual 340, 3) := sorry
theorem dX11_likeness_16 : decode cX11_likeness 16 = .ok (.aload_n 1, 1) := sorry
theorem dX11_likeness_17 : decode cX11_likeness 17 = .ok (.invokevirtual 340, 3) := sorry
theorem dX11_likeness_20 : decode cX11_likeness 20 = .ok (.isub, 1) := sorry
theorem dX11_likeness_21 : decode cX11_likeness 21 = .ok (.invokestatic 334, 3) := sorry
theorem dX11_likeness_24 : decode cX11_likeness 24 = .ok (.iadd, 1) := sorry
theorem dX11_likeness_25 : decode cX11_likeness 25 = .ok (.aload_n 0, 1) := sorry
theorem dX11_likeness_26 : decode cX11_likeness 26 = .ok (.invokevirtual 343, 3) := sorry
theorem dX11_likeness_29 : decode cX11_likeness 29 = .ok (.aload_n 1, 1) := sorry
theorem dX11_likeness_30 : decode cX11_likeness 30 = .ok (.invokevirtual 343, 3) := sorry
theorem dX11_likeness_33 : decode cX11_likeness 33 = .ok (.isub, 1) := sorry
theorem dX11_likeness_34 : decode cX11_likeness 34 = .ok (.invokestatic 334, 3) := sorry
theorem dX11_likeness_37 : decode cX11_likeness 37 = .ok (.iadd, 1) := sorry
theorem dX11_likeness_38 : decode cX11_likeness 38 = .ok (.ireturn, 1) := sorry
theorem dX11_countNearer_0 : decode cX11_countNearer 0 = .ok (.aload_n 1, 1) := sorry
theorem dX11_countNearer_1 : decode cX11_countNearer 1 = .ok (.aload_n 2, 1) := sorry
theorem dX11_countNearer_2 : decode cX11_countNearer 2 = .ok (.invokestatic 264, 3) := sorry
theorem dX11_countNearer_5 : decode cX11_countNearer 5 = .ok (.istore_n 3, 1) := sorry
theorem dX11_countNearer_6 : decode cX11_countNearer 6 = .ok (.iconst 0, 1) := sorry
theorem dX11_countNearer_7 : decode cX11_countNearer 7 = .ok (.istore 4, 2) := sorry
theorem dX11_countNearer_9 : decode cX11_countNearer 9 = .ok (.iconst 0, 1) := sorry
theorem dX11_countNearer_10 : decode cX11_countNearer 10 = .ok (.istore 5, 2) := sorry
theorem dX11_countNearer_12 : decode cX11_countNearer 12 = .ok (.iload 5, 2) := sorry
theorem dX11_countNearer_14 : decode cX11_countNearer 14 = .ok (.aload_n 0, 1) := sorry
theorem dX11_countNearer_15 : decode cX11_countNearer 15 = .ok (.getfield 92, 3) := sorry
theorem dX11_countNearer_18 : decode cX11_countNearer 18 = .ok (.if_icmp .ge 67, 3) := sorry
theorem dX11_countNearer_21 : decode cX11_countNearer 21 = .ok (.iload 5, 2) := sorry
theorem dX11_countNearer_23 : decode cX11_countNearer 23 = .ok (.aload_n 1, 1) := sorry
theorem dX11_countNearer_24 : decode cX11_countNearer 24 = .ok (.getfield 103, 3) := sorry
theorem dX11_countNearer_27 : decode cX11_countNearer 27 = .ok (.if_icmp .eq 52, 3) := sorry
theorem dX11_countNearer_30 : decode cX11_countNearer 30 = .ok (.iload 5, 2) := sorry
theorem dX11_countNearer_32 : decode cX11_countNearer 32 = .ok (.aload_n 2, 1) := sorry
theorem dX11_countNearer_33 : decode cX11_countNearer 33 = .ok (.getfield 103, 3) := sorry
theorem dX11_countNearer_36 : decode cX11_countNearer 36 = .ok (.if_icmp .ne 6, 3) := sorry
theorem dX11_countNearer_39 : decode cX11_countNearer 39 = .ok (.goto 40, 3) := sorry
theorem dX11_countNearer_42 : decode cX11_countNearer 42 = .ok (.aload_n 1, 1) := sorry
theorem dX11_countNearer_43 : decode cX11_countNearer 43 = .ok (.aload_n 0, 1) := sorry
theorem dX11_countNearer_44 : decode cX11_countNearer 44 = .ok (.getfield 13, 3) := sorry
theorem dX11_countNearer_47 : decode cX11_countNearer 47 = .ok (.iload 5, 2) := sorry
theorem dX11_countNearer_49 : decode cX11_countNearer 49 = .ok (.aaload, 1) := sorry
theorem dX11_countNearer_50 : decode cX11_countNearer 50 = .ok (.invokestatic 264, 3) := sorry
theorem dX11_countNearer_53 : decode cX11_countNearer 53 = .ok (.istore 6, 2) := sorry
theorem dX11_countNearer_55 : decode cX11_countNearer 55 = .ok (.iload 6, 2) := sorry
theorem dX11_countNearer_57 : decode cX11_countNearer 57 = .ok (.iload_n 3, 1) := sorry
theorem dX11_countNearer_58 : decode cX11_countNearer 58 = .ok (.if_icmp .lt 18, 3) := sorry
theorem dX11_countNearer_61 : decode cX11_countNearer 61 = .ok (.iload 6, 2) := sorry
theorem dX11_countNearer_63 : decode cX11_countNearer 63 = .ok (.iload_n 3, 1) := sorry
theorem dX11_countNearer_64 : decode cX11_countNearer 64 = .ok (.if_icmp .ne 15, 3) := sorry
theorem dX11_countNearer_67 : decode cX11_countNearer 67 = .ok (.iload 5, 2) := sorry
theorem dX11_countNearer_69 : decode cX11_countNearer 69 = .ok (.aload_n 2, 1) := sorry
theorem dX11_countNearer_70 : decode cX11_countNearer 70 = .ok (.getfield 103, 3) := sorry
theorem dX11_countNearer_73 : decode cX11_countNearer 73 = .ok (.if_icmp .ge 6, 3) := sorry
theorem dX11_countNearer_76 : decode cX11_countNearer 76 = .ok (.iinc 4 1, 3) := sorry
theorem dX11_countNearer_79 : decode cX11_countNearer 79 = .ok (.iinc 5 1, 3) := sorry
theorem dX11_countNearer_82 : decode cX11_countNearer 82 = .ok (.goto (-70), 3) := sorry
theorem dX11_countNearer_85 : decode cX11_countNearer 85 = .ok (.iload 4, 2) := sorry
theorem dX11_countNearer_87 : decode cX11_countNearer 87 = .ok (.ireturn, 1) := sorry
theorem dX11_hoursOf_0 : decode cX11_hoursOf 0 = .ok (.iconst 0, 1) := sorry
theorem dX11_hoursOf_1 : decode cX11_hoursOf 1 = .ok (.istore_n 2, 1) := sorry
theorem dX11_hoursOf_2 : decode cX11_hoursOf 2 = .ok (.iconst 0, 1) := sorry
theorem dX11_hoursOf_3 : decode cX11_hoursOf 3 = .ok (.istore_n 3, 1) := sorry
theorem dX11_hoursOf_4 : decode cX11_hoursOf 4 = .ok (.iload_n 3, 1) := sorry
theorem dX11_hoursOf_5 : decode cX11_hoursOf 5 = .ok (.aload_n 0, 1) := sorry
theorem dX11_hoursOf_6 : decode cX11_hoursOf 6 = .ok (.getfield 271, 3) := sorry
theorem dX11_hoursOf_9 : decode cX11_hoursOf 9 = .ok (.if_icmp .ge 27, 3) := sorry
theorem dX11_hoursOf_12 : decode cX11_hoursOf 12 = .ok (.iload_n 2, 1) := sorry
theorem dX11_hoursOf_13 : decode cX11_hoursOf 13 = .ok (.iload_n 1, 1) := sorry
theorem dX11_hoursOf_14 : decode cX11_hoursOf 14 = .ok (.iload_n 3, 1) := sorry
theorem dX11_hoursOf_15 : decode cX11_hoursOf 15 = .ok (.ishr, 1) := sorry
theorem dX11_hoursOf_16 : decode cX11_hoursOf 16 = .ok (.iconst 1, 1) := sorry
theorem dX11_hoursOf_17 : decode cX11_hoursOf 17 = .ok (.iand, 1) := sorry
theorem dX11_hoursOf_18 : decode cX11_hoursOf 18 = .ok (.aload_n 0, 1) := sorry
theorem dX11_hoursOf_19 : decode cX11_hoursOf 19 = .ok (.getfield 25, 3) := sorry
theorem dX11_hoursOf_22 : decode cX11_hoursOf 22 = .ok (.iload_n 3, 1) := sorry
theorem dX11_hoursOf_23 : decode cX11_hoursOf 23 = .ok (.aaload, 1) := sorry
theorem dX11_hoursOf_24 : decode cX11_hoursOf 24 = .ok (.getfield 346, 3) := sorry
theorem dX11_hoursOf_27 : decode cX11_hoursOf 27 = .ok (.imul, 1) := sorry
theorem dX11_hoursOf_28 : decode cX11_hoursOf 28 = .ok (.iadd, 1) := sorry
theorem dX11_hoursOf_29 : decode cX11_hoursOf 29 = .ok (.istore_n 2, 1) := sorry
theorem dX11_hoursOf_30 : decode cX11_hoursOf 30 = .ok (.iinc 3 1, 3) := sorry
theorem dX11_hoursOf_33 : decode cX11_hoursOf 33 = .ok (.goto (-29), 3) := sorry
theorem dX11_hoursOf_36 : decode cX11_hoursOf 36 = .ok (.iload_n 2, 1) := sorry
theorem dX11_hoursOf_37 : decode cX11_hoursOf 37 = .ok (.ireturn, 1) := sorry
theorem dX11_worthOf_0 : decode cX11_worthOf 0 = .ok (.iconst 0, 1) := sorry
theorem dX11_worthOf_1 : decode cX11_worthOf 1 = .ok (.istore_n 2, 1) := sorry
theorem dX11_worthOf_2 : decode cX11_worthOf 2 = .ok (.iconst 0, 1) := sorry
theorem dX11_worthOf_3 : decode cX11_worthOf 3 = .ok (.istore_n 3, 1) := sorry
theorem dX11_worthOf_4 : decode cX11_worthOf 4 = .ok (.iload_n 3, 1) := sorry
theorem dX11_worthOf_5 : decode cX11_worthOf 5 = .ok (.aload_n 0, 1) := sorry
theorem dX11_worthOf_6 : decode cX11_worthOf 6 = .ok (.getfield 271, 3) := sorry
theorem dX11_worthOf_9 : decode cX11_worthOf 9 = .ok (.if_icmp .ge 27, 3) := sorry
theorem dX11_worthOf_12 : decode cX11_worthOf 12 = .ok (.iload_n 2, 1) := sorry
theorem dX11_worthOf_13 : decode cX11_worthOf 13 = .ok (.iload_n 1, 1) := sorry
theorem dX11_worthOf_14 : decode cX11_worthOf 14 = .ok (.iload_n 3, 1) := sorry
theorem dX11_worthOf_15 : decode cX11_worthOf 15 = .ok (.ishr, 1) := sorry
theorem dX11_worthOf_16 : decode cX11_worthOf 16 = .ok (.iconst 1, 1) := sorry
theorem dX11_worthOf_17 : decode cX11_worthOf 17 = .ok (.iand, 1) := sorry
theorem dX11_worthOf_18 : decode cX11_worthOf 18 = .ok (.aload_n 0, 1) := sorry
theorem dX11_worthOf_19 : decode cX11_worthOf 19 = .ok (.getfield 25, 3) := sorry
theorem dX11_worthOf_22 : decode cX11_worthOf 22 = .ok (.iload_n 3, 1) := sorry
theorem dX11_worthOf_23 : decode cX11_worthOf 23 = .ok (.aaload, 1) := sorry
theorem dX11_worthOf_24 : decode cX11_worthOf 24 = .ok (.getfield 349, 3) := sorry
theorem dX11_worthOf_27 : decode cX11_worthOf 27 = .ok (.imul, 1) := sorry
theorem dX11_worthOf_28 : decode cX11_worthOf 28 = .ok (.iadd, 1) := sorry
theorem dX11_worthOf_29 : decode cX11_worthOf 29 = .ok (.istore_n 2, 1) := sorry
theorem dX11_worthOf_30 : decode cX11_worthOf 30 = .ok (.iinc 3 1, 3) := sorry
theorem dX11_worthOf_33 : decode cX11_worthOf 33 = .ok (.goto (-29), 3) := sorry
theorem dX11_worthOf_36 : decode cX11_worthOf 36 = .ok (.iload_n 2, 1) := sorry
theorem dX11_worthOf_37 : decode cX11_worthOf 37 = .ok (.ireturn, 1) := sorry
theorem dX11_countPapers_0 : decode cX11_countPapers 0 = .ok (.iconst 0, 1) := sorry
theorem dX11_countPapers_1 : decode cX11_countPapers 1 = .ok (.istore_n 1, 1) := sorry
theorem dX11_countPapers_2 : decode cX11_countPapers 2 = .ok (.iconst 0, 1) := sorry
theorem dX11_countPapers_3 : decode cX11_countPapers 3 = .ok (.istore_n 2, 1) := sorry
theorem dX11_countPapers_4 : decode cX11_countPapers 4 = .ok (.iload_n 2, 1) := sorry
theorem dX11_countPapers_5 : decode cX11_countPapers 5 = .ok (.aload_n 0, 1) := sorry
theorem dX11_countPapers_6 : decode cX11_countPapers 6 = .ok (.getfield 92, 3) := sorry
theorem dX11_countPapers_9 : decode cX11_countPapers 9 = .ok (.if_icmp .ge 24, 3) := sorry
theorem dX11_countPapers_12 : decode cX11_countPapers 12 = .ok (.aload_n 0, 1) := sorry
theorem dX11_countPapers_13 : decode cX11_countPapers 13 = .ok (.getfield 13, 3) := sorry
theorem dX11_countPapers_16 : decode cX11_countPapers 16 = .ok (.iload_n 2, 1) := sorry
theorem dX11_countPapers_17 : decode cX11_countPapers 17 = .ok (.aaload, 1) := sorry
theorem dX11_countPapers_18 : decode cX11_countPapers 18 = .ok (.getfield 147, 3) := sorry
theorem dX11_countPapers_21 : decode cX11_countPapers 21 = .ok (.ifnull 6, 3) := sorry
theorem dX11_countPapers_24 : decode cX11_countPapers 24 = .ok (.iinc 1 1, 3) := sorry
theorem dX11_countPapers_27 : decode cX11_countPapers 27 = .ok (.iinc 2 1, 3) := sorry
theorem dX11_countPapers_30 : decode cX11_countPapers 30 = .ok (.goto (-26), 3) := sorry
theorem dX11_countPapers_33 : decode cX11_countPapers 33 = .ok (.iload_n 1, 1) := sorry
theorem dX11_countPapers_34 : decode cX11_countPapers 34 = .ok (.ireturn, 1) := sorry
end
section
theorem dX12_init_0 : decode cX12_init 0 = .ok (.aload_n 0, 1) := sorry
theorem dX12_init_1 : decode cX12_init 1 = .ok (.invokespecial 1, 3) := sorry
theorem dX12_init_4 : decode cX12_init 4 = .ok (.aload_n 0, 1) := sorry
theorem dX12_init_5 : decode cX12_init 5 = .ok (.bipush 12, 2) := sorry
theorem dX12_init_7 : decode cX12_init 7 = .ok (.newarray .int, 2) := sorry
theorem dX12_init_9 : decode cX12_init 9 = .ok (.putfield 7, 3) := sorry
theorem dX12_init_12 : decode cX12_init 12 = .ok (.aload_n 0, 1) := sorry
theorem dX12_init_13 : decode cX12_init 13 = .ok (.bipush 12, 2) := sorry
theorem dX12_init_15 : decode cX12_init 15 = .ok (.newarray .int, 2) := sorry
theorem dX12_init_17 : decode cX12_init 17 = .ok (.putfield 13, 3) := sorry
theorem dX12_init_20 : decode cX12_init 20 = .ok (.aload_n 0, 1) := sorry
theorem dX12_init_21 : decode cX12_init 21 = .ok (.sipush 192, 3) := sorry
theorem dX12_init_24 : decode cX12_init 24 = .ok (.newarray .int, 2) := sorry
theorem dX12_init_26 : decode cX12_init 26 = .ok (.putfield 16, 3) := sorry
theorem dX12_init_29 : decode cX12_init 29 = .ok (.aload_n 0, 1) := sorry
theorem dX12_init_30 : decode cX12_init 30 = .ok (.bipush 32, 2) := sorry
theorem dX12_init_32 : decode cX12_init 32 = .ok (.newarray .int, 2) := sorry
theorem dX12_init_34 : decode cX12_init 34 = .ok (.putfield 19, 3) := sorry
theorem dX12_init_37 : decode cX12_init 37 = .ok (.aload_n 0, 1) := sorry
theorem dX12_init_38 : decode cX12_init 38 = .ok (.bipush 25, 2) := sorry
theorem dX12_init_40 : decode cX12_init 40 = .ok (.newarray .int, 2) := sorry
theorem dX12_init_42 : decode cX12_init 42 = .ok (.putfield 22, 3) := sorry
theorem dX12_init_45 : decode cX12_init 45 = .ok (.aload_n 0, 1) := sorry
theorem dX12_init_46 : decode cX12_init 46 = .ok (.bipush 16, 2) := sorry
theorem dX12_init_48 : decode cX12_init 48 = .ok (.newarray .int, 2) := sorry
theorem dX12_init_50 : decode cX12_init 50 = .ok (.putfield 25, 3) := sorry
theorem dX12_init_53 : decode cX12_init 53 = .ok (.aload_n 0, 1) := sorry
theorem dX12_init_54 : decode cX12_init 54 = .ok (.bipush 16, 2) := sorry
theorem dX12_init_56 : decode cX12_init 56 = .ok (.newarray .int, 2) := sorry
theorem dX12_init_58 : decode cX12_init 58 = .ok (.putfield 28, 3) := sorry
theorem dX12_init_61 : decode cX12_init 61 = .ok (.aload_n 0, 1) := sorry
theorem dX12_init_62 : decode cX12_init 62 = .ok (.bipush 6, 2) := sorry
theorem dX12_init_64 : decode cX12_init 64 = .ok (.newarray .int, 2) := sorry
theorem dX12_init_66 : decode cX12_init 66 = .ok (.putfield 31, 3) := sorry
theorem dX12_init_69 : decode cX12_init 69 = .ok (.aload_n 0, 1) := sorry
theorem dX12_init_70 : decode cX12_init 70 = .ok (.bipush 6, 2) := sorry
theorem dX12_init_72 : decode cX12_init 72 = .ok (.newarray .int, 2) := sorry
theorem dX12_init_74 : decode cX12_init 74 = .ok (.putfield 34, 3) := sorry
theorem dX12_init_77 : decode cX12_init 77 = .ok (.aload_n 0, 1) := sorry
theorem dX12_init_78 : decode cX12_init 78 = .ok (.bipush 12, 2) := sorry
theorem dX12_init_80 : decode cX12_init 80 = .ok (.newarray .int, 2) := sorry
theorem dX12_init_82 : decode cX12_init 82 = .ok (.putfield 37, 3) := sorry
theorem dX12_init_85 : decode cX12_init 85 = .ok (.aload_n 0, 1) := sorry
theorem dX12_init_86 : decode cX12_init 86 = .ok (.bipush 12, 2) := sorry
theorem dX12_init_88 : decode cX12_init 88 = .ok (.newarray .int, 2) := sorry
theorem dX12_init_90 : decode cX12_init 90 = .ok (.putfield 40, 3) := sorry
theorem dX12_init_93 : decode cX12_init 93 = .ok (.aload_n 0, 1) := sorry
theorem dX12_init_94 : decode cX12_init 94 = .ok (.bipush 12, 2) := sorry
theorem dX12_init_96 : decode cX12_init 96 = .ok (.newarray .int, 2) := sorry
theorem dX12_init_98 : decode cX12_init 98 = .ok (.putfield 43, 3) := sorry
theorem dX12_init_101 : decode cX12_init 101 = .ok (.aload_n 0, 1) := sorry
theorem dX12_init_102 : decode cX12_init 102 = .ok (.bipush 12, 2) := sorry
theorem dX12_init_104 : decode cX12_init 104 = .ok (.newarray .int, 2) := sorry
theorem dX12_init_106 : decode cX12_init 106 = .ok (.putfield 46, 3) := sorry
theorem dX12_init_109 : decode cX12_init 109 = .ok (.aload_n 0, 1) := sorry
theorem dX12_init_110 : decode cX12_init 110 = .ok (.bipush 12, 2) := sorry
theorem dX12_init_112 : decode cX12_init 112 = .ok (.newarray .int, 2) := sorry
theorem dX12_init_114 : decode cX12_init 114 = .ok (.putfield 49, 3) := sorry
theorem dX12_init_117 : decode cX12_init 117 = .ok (.aload_n 0, 1) := sorry
theorem dX12_init_118 : decode cX12_init 118 = .ok (.bipush 12, 2) := sorry
theorem dX12_init_120 : decode cX12_init 120 = .ok (.newarray .int, 2) := sorry
theorem dX12_init_122 : decode cX12_init 122 = .ok (.putfield 52, 3) := sorry
theorem dX12_init_125 : decode cX12_init 125 = .ok (.aload_n 0, 1) := sorry
theorem dX12_init_126 : decode cX12_init 126 = .ok (.sipush 300, 3) := sorry
theorem dX12_init_129 : decode cX12_init 129 = .ok (.newarray .int, 2) := sorry
theorem dX12_init_131 : decode cX12_init 131 = .ok (.putfield 55, 3) := sorry
theorem dX12_init_134 : decode cX12_init 134 = .ok (.aload_n 0, 1) := sorry
theorem dX12_init_135 : decode cX12_init 135 = .ok (.bipush 9, 2) := sorry
theorem dX12_init_137 : decode cX12_init 137 = .ok (.newarray .int, 2) := sorry
theorem dX12_init_139 : decode cX12_init 139 = .ok (.putfield 58, 3) := sorry
theorem dX12_init_142 : decode cX12_init 142 = .ok (.aload_n 0, 1) := sorry
theorem dX12_init_143 : decode cX12_init 143 = .ok (.bipush 9, 2) := sorry
theorem dX12_init_145 : decode cX12_init 145 = .ok (.newarray .int, 2) := sorry
theorem dX12_init_147 : decode cX12_init 147 = .ok (.putfield 61, 3) := sorry
theorem dX12_init_150 : decode cX12_init 150 = .ok (.aload_n 0, 1) := sorry
theorem dX12_init_151 : decode cX12_init 151 = .ok (.bipush 9, 2) := sorry
theorem dX12_init_153 : decode cX12_init 153 = .ok (.newarray .int, 2) := sorry
theorem dX12_init_155 : decode cX12_init 155 = .ok (.putfield 64, 3) := sorry
theorem dX12_init_158 : decode cX12_init 158 = .ok (.aload_n 0, 1) := sorry
theorem dX12_init_159 : decode cX12_init 159 = .ok (.iconst 4, 1) := sorry
theorem dX12_init_160 : decode cX12_init 160 = .ok (.newarray .int, 2) := sorry
theorem dX12_init_162 : decode cX12_init 162 = .ok (.putfield 67, 3) := sorry
theorem dX12_init_165 : decode cX12_init 165 = .ok (.aload_n 0, 1) := sorry
theorem dX12_init_166 : decode cX12_init 166 = .ok (.iconst 4, 1) := sorry
theorem dX12_init_167 : decode cX12_init 167 = .ok (.newarray .int, 2) := sorry
theorem dX12_init_169 : decode cX12_init 169 = .ok (.putfield 70, 3) := sorry
theorem dX12_init_172 : decode cX12_init 172 = .ok (.aload_n 0, 1) := sorry
theorem dX12_init_173 : decode cX12_init 173 = .ok (.sipush 240, 3) := sorry
theorem dX12_init_176 : decode cX12_init 176 = .ok (.newarray .int, 2) := sorry
theorem dX12_init_178 : decode cX12_init 178 = .ok (.putfield 73, 3) := sorry
theorem dX12_init_181 : decode cX12_init 181 = .ok (.aload_n 0, 1) := sorry
theorem dX12_init_182 : decode cX12_init 182 = .ok (.bipush 60, 2) := sorry
theorem dX12_init_184 : decode cX12_init 184 = .ok (.newarray .int, 2) := sorry
theorem dX12_init_186 : decode cX12_init 186 = .ok (.putfield 76, 3) := sorry
theorem dX12_init_189 : decode cX12_init 189 = .ok (.iconst 0, 1) := sorry
theorem dX12_init_190 : decode cX12_init 190 = .ok (.istore_n 1, 1) := sorry
theorem dX12_init_191 : decode cX12_init 191 = .ok (.iload_n 1, 1) := sorry
theorem dX12_init_192 : decode cX12_init 192 = .ok (.bipush 12, 2) := sorry
theorem dX12_init_194 : decode cX12_init 194 = .ok (.if_icmp .ge 17, 3) := sorry
theorem dX12_init_197 : decode cX12_init 197 = .ok (.aload_n 0, 1) := sorry
theorem dX12_init_198 : decode cX12_init 198 = .ok (.getfield 37, 3) := sorry
theorem dX12_init_201 : decode cX12_init 201 = .ok (.iload_n 1, 1) := sorry
theorem dX12_init_202 : decode cX12_init 202 = .ok (.bipush (-9), 2) := sorry
theorem dX12_init_204 : decode cX12_init 204 = .ok (.iastore, 1) := sorry
theorem dX12_init_205 : decode cX12_init 205 = .ok (.iinc 1 1, 3) := sorry
theorem dX12_init_208 : decode cX12_init 208 = .ok (.goto (-17), 3) := sorry
theorem dX12_init_211 : decode cX12_init 211 = .ok (.iconst 0, 1) := sorry
theorem dX12_init_212 : decode cX12_init 212 = .ok (.istore_n 1, 1) := sorry
theorem dX12_init_213 : decode cX12_init 213 = .ok (.iload_n 1, 1) := sorry
theorem dX12_init_214 : decode cX12_init 214 = .ok (.iconst 4, 1) := sorry
theorem dX12_init_215 : decode cX12_init 215 = .ok (.if_icmp .ge 16, 3) := sorry
theorem dX12_init_218 : decode cX12_init 218 = .ok (.aload_n 0, 1) := sorry
theorem dX12_init_219 : decode cX12_init 219 = .ok (.getfield 67, 3) := sorry
theorem dX12_init_222 : decode cX12_init 222 = .ok (.iload_n 1, 1) := sorry
theorem dX12_init_223 : decode cX12_init 223 = .ok (.iconst (-1), 1) := sorry
theorem dX12_init_224 : decode cX12_init 224 = .ok (.iastore, 1) := sorry
theorem dX12_init_225 : decode cX12_init 225 = .ok (.iinc 1 1, 3) := sorry
theorem dX12_init_228 : decode cX12_init 228 = .ok (.goto (-15), 3) := sorry
theorem dX12_init_231 : decode cX12_init 231 = .ok (.return_, 1) := sorry
theorem dX12_in_0 : decode cX12_in 0 = .ok (.lload_n 0, 1) := sorry
theorem dX12_in_1 : decode cX12_in 1 = .ok (.lload_n 2, 1) := sorry
theorem dX12_in_2 : decode cX12_in 2 = .ok (.lcmp, 1) := sorry
theorem dX12_in_3 : decode cX12_in 3 = .ok (.ifCond .lt 14, 3) := sorry
theorem dX12_in_6 : decode cX12_in 6 = .ok (.lload_n 0, 1) := sorry
theorem dX12_in_7 : decode cX12_in 7 = .ok (.lload 4, 2) := sorry
theorem dX12_in_9 : decode cX12_in 9 = .ok (.lcmp, 1) := sorry
theorem dX12_in_10 : decode cX12_in 10 = .ok (.ifCond .gt 7, 3) := sorry
theorem dX12_in_13 : decode cX12_in 13 = .ok (.iconst 1, 1) := sorry
theorem dX12_in_14 : decode cX12_in 14 = .ok (.goto 4, 3) := sorry
theorem dX12_in_17 : decode cX12_in 17 = .ok (.iconst 0, 1) := sorry
theorem dX12_in_18 : decode cX12_in 18 = .ok (.ireturn, 1) := sorry
theorem dX12_lost_0 : decode cX12_lost 0 = .ok (.ldc2_w 79, 3) := sorry
theorem dX12_lost_3 : decode cX12_lost 3 = .ok (.lreturn, 1) := sorry
theorem dX12_hasBit_0 : decode cX12_hasBit 0 = .ok (.iload_n 0, 1) := sorry
theorem dX12_hasBit_1 : decode cX12_hasBit 1 = .ok (.iload_n 1, 1) := sorry
theorem dX12_hasBit_2 : decode cX12_hasBit 2 = .ok (.ishr, 1) := sorry
theorem dX12_hasBit_3 : decode cX12_hasBit 3 = .ok (.iconst 1, 1) := sorry
theorem dX12_hasBit_4 : decode cX12_hasBit 4 = .ok (.iand, 1) := sorry
theorem dX12_hasBit_5 : decode cX12_hasBit 5 = .ok (.iconst 1, 1) := sorry
theorem dX12_hasBit_6 : decode cX12_hasBit 6 = .ok (.if_icmp .ne 7, 3) := sorry
theorem dX12_hasBit_9 : decode cX12_hasBit 9 = .ok (.iconst 1, 1) := sorry
theorem dX12_hasBit_10 : decode cX12_hasBit 10 = .ok (.goto 4, 3) := sorry
theorem dX12_hasBit_13 : decode cX12_hasBit 13 = .ok (.iconst 0, 1) := sorry
theorem dX12_hasBit_14 : decode cX12_hasBit 14 = .ok (.ireturn, 1) := sorry
theorem dX12_sizeOf_0 : decode cX12_sizeOf 0 = .ok (.iload_n 0, 1) := sorry
theorem dX12_sizeOf_1 : decode cX12_sizeOf 1 = .ok (.ifCond .ge 8, 3) := sorry
theorem dX12_sizeOf_4 : decode cX12_sizeOf 4 = .ok (.iload_n 0, 1) := sorry
theorem dX12_sizeOf_5 : decode cX12_sizeOf 5 = .ok (.ineg, 1) := sorry
theorem dX12_sizeOf_6 : decode cX12_sizeOf 6 = .ok (.goto 4, 3) := sorry
theorem dX12_sizeOf_9 : decode cX12_sizeOf 9 = .ok (.iload_n 0, 1) := sorry
theorem dX12_sizeOf_10 : decode cX12_sizeOf 10 = .ok (.ireturn, 1) := sorry
theorem dX12_lesser_0 : decode cX12_lesser 0 = .ok (.iload_n 0, 1) := sorry
theorem dX12_lesser_1 : decode cX12_lesser 1 = .ok (.iload_n 1, 1) := sorry
theorem dX12_lesser_2 : decode cX12_lesser 2 = .ok (.if_icmp .ge 7, 3) := sorry
theorem dX12_lesser_5 : decode cX12_lesser 5 = .ok (.iload_n 0, 1) := sorry
theorem dX12_lesser_6 : decode cX12_lesser 6 = .ok (.goto 4, 3) := sorry
theorem dX12_lesser_9 : decode cX12_lesser 9 = .ok (.iload_n 1, 1) := sorry
theorem dX12_lesser_10 : decode cX12_lesser 10 = .ok (.ireturn, 1) := sorry
theorem dX12_greater_0 : decode cX12_greater 0 = .ok (.iload_n 0, 1) := sorry
theorem dX12_greater_1 : decode cX12_greater 1 = .ok (.iload_n 1, 1) := sorry
theorem dX12_greater_2 : decode cX12_greater 2 = .ok (.if_icmp .le 7, 3) := sorry
theorem dX12_greater_5 : decode cX12_greater 5 = .ok (.iload_n 0, 1) := sorry
theorem dX12_greater_6 : decode cX12_greater 6 = .ok (.goto 4, 3) := sorry
theorem dX12_greater_9 : decode cX12_greater 9 = .ok (.iload_n 1, 1) := sorry
theorem dX12_greater_10 : decode cX12_greater 10 = .ok (.ireturn, 1) := sorry
theorem dX12_share_0 : decode cX12_share 0 = .ok (.lload_n 0, 1) := sorry
theorem dX12_share_1 : decode cX12_share 1 = .ok (.lstore 5, 2) := sorry
theorem dX12_share_3 : decode cX12_share 3 = .ok (.lload_n 2, 1) := sorry
theorem dX12_share_4 : decode cX12_share 4 = .ok (.lstore 7, 2) := sorry
theorem dX12_share_6 : decode cX12_share 6 = .ok (.lload 7, 2) := sorry
theorem dX12_share_8 : decode cX12_share 8 = .ok (.lconst 0, 1) := sorry
theorem dX12_share_9 : decode cX12_share 9 = .ok (.lcmp, 1) := sorry
theorem dX12_share_10 : decode cX12_share 10 = .ok (.ifCond .eq 21, 3) := sorry
theorem dX12_share_13 : decode cX12_share 13 = .ok (.lload 5, 2) := sorry
theorem dX12_share_15 : decode cX12_share 15 = .ok (.lload 7, 2) := sorry
theorem dX12_share_17 : decode cX12_share 17 = .ok (.lrem, 1) := sorry
theorem dX12_share_18 : decode cX12_share 18 = .ok (.lstore 9, 2) := sorry
theorem dX12_share_20 : decode cX12_share 20 = .ok (.lload 7, 2) := sorry
theorem dX12_share_22 : decode cX12_share 22 = .ok (.lstore 5, 2) := sorry
theorem dX12_share_24 : decode cX12_share 24 = .ok (.lload 9, 2) := sorry
theorem dX12_share_26 : decode cX12_share 26 = .ok (.lstore 7, 2) := sorry
theorem dX12_share_28 : decode cX12_share 28 = .ok (.goto (-22), 3) := sorry
theorem dX12_share_31 : decode cX12_share 31 = .ok (.iload 4, 2) := sorry
theorem dX12_share_33 : decode cX12_share 33 = .ok (.ifCond .ne 7, 3) := sorry
theorem dX12_share_36 : decode cX12_share 36 = .ok (.lload_n 0, 1) := sorry
theorem dX12_share_37 : decode cX12_share 37 = .ok (.goto 4, 3) := sorry
theorem dX12_share_40 : decode cX12_share 40 = .ok (.lload_n 2, 1) := sorry
theorem dX12_share_41 : decode cX12_share 41 = .ok (.lload 5, 2) := sorry
theorem dX12_share_43 : decode cX12_share 43 = .ok (.ldiv, 1) := sorry
theorem dX12_share_44 : decode cX12_share 44 = .ok (.lreturn, 1) := sorry
theorem dX12_refused_0 : decode cX12_refused 0 = .ok (.aload_n 0, 1) := sorry
theorem dX12_refused_1 : decode cX12_refused 1 = .ok (.iconst 0, 1) := sorry
theorem dX12_refused_2 : decode cX12_refused 2 = .ok (.putfield 81, 3) := sorry
theorem dX12_refused_5 : decode cX12_refused 5 = .ok (.iload_n 1, 1) := sorry
theorem dX12_refused_6 : decode cX12_refused 6 = .ok (.ireturn, 1) := sorry
theorem dX12_failed_0 : decode cX12_failed 0 = .ok (.aload_n 0, 1) := sorry
theorem dX12_failed_1 : decode cX12_failed 1 = .ok (.iload_n 1, 1) := sorry
theorem dX12_failed_2 : decode cX12_failed 2 = .ok (.putfield 81, 3) := sorry
theorem dX12_failed_5 : decode cX12_failed 5 = .ok (.bipush (-10), 2) := sorry
theorem dX12_failed_7 : decode cX12_failed 7 = .ok (.iload_n 1, 1) := sorry
theorem dX12_failed_8 : decode cX12_failed 8 = .ok (.isub, 1) := sorry
theorem dX12_failed_9 : decode cX12_failed 9 = .ok (.ireturn, 1) := sorry
theorem dX12_failedLong_0 : decode cX12_failedLong 0 = .ok (.aload_n 0, 1) := sorry
theorem dX12_failedLong_1 : decode cX12_failedLong 1 = .ok (.iload_n 1, 1) := sorry
theorem dX12_failedLong_2 : decode cX12_failedLong 2 = .ok (.putfield 81, 3) := sorry
theorem dX12_failedLong_5 : decode cX12_failedLong 5 = .ok (.invokestatic 85, 3) := sorry
theorem dX12_failedLong_8 : decode cX12_failedLong 8 = .ok (.lreturn, 1) := sorry
theorem dX12_barred_0 : decode cX12_barred 0 = .ok (.aload_n 0, 1) := sorry
theorem dX12_barred_1 : decode cX12_barred 1 = .ok (.getfield 67, 3) := sorry
theorem dX12_barred_4 : decode cX12_barred 4 = .ok (.iload_n 1, 1) := sorry
theorem dX12_barred_5 : decode cX12_barred 5 = .ok (.iaload, 1) := sorry
theorem dX12_barred_6 : decode cX12_barred 6 = .ok (.ifCond .lt 19, 3) := sorry
theorem dX12_barred_9 : decode cX12_barred 9 = .ok (.aload_n 0, 1) := sorry
theorem dX12_barred_10 : decode cX12_barred 10 = .ok (.getfield 70, 3) := sorry
theorem dX12_barred_13 : decode cX12_barred 13 = .ok (.iload_n 1, 1) := sorry
theorem dX12_barred_14 : decode cX12_barred 14 = .ok (.iaload, 1) := sorry
theorem dX12_barred_15 : decode cX12_barred 15 = .ok (.iload_n 2, 1) := sorry
theorem dX12_barred_16 : decode cX12_barred 16 = .ok (.if_icmp .eq 9, 3) := sorry
theorem dX12_barred_19 : decode cX12_barred 19 = .ok (.aload_n 0, 1) := sorry
theorem dX12_barred_20 : decode cX12_barred 20 = .ok (.iconst 2, 1) := sorry
theorem dX12_barred_21 : decode cX12_barred 21 = .ok (.invokevirtual 89, 3) := sorry
theorem dX12_barred_24 : decode cX12_barred 24 = .ok (.ireturn, 1) := sorry
theorem dX12_barred_25 : decode cX12_barred 25 = .ok (.aload_n 0, 1) := sorry
theorem dX12_barred_26 : decode cX12_barred 26 = .ok (.getfield 67, 3) := sorry
theorem dX12_barred_29 : decode cX12_barred 29 = .ok (.iload_n 1, 1) := sorry
theorem dX12_barred_30 : decode cX12_barred 30 = .ok (.iaload, 1) := sorry
theorem dX12_barred_31 : decode cX12_barred 31 = .ok (.ifCond .ge 9, 3) := sorry
theorem dX12_barred_34 : decode cX12_barred 34 = .ok (.aload_n 0, 1) := sorry
theorem dX12_barred_35 : decode cX12_barred 35 = .ok (.iconst 1, 1) := sorry
theorem dX12_barred_36 : decode cX12_barred 36 = .ok (.invokevirtual 89, 3) := sorry
theorem dX12_barred_39 : decode cX12_barred 39 = .ok (.ireturn, 1) := sorry
theorem dX12_barred_40 : decode cX12_barred 40 = .ok (.lload 4, 2) := sorry
theorem dX12_barred_42 : decode cX12_barred 42 = .ok (.lconst 0, 1) := sorry
theorem dX12_barred_43 : decode cX12_barred 43 = .ok (.lcmp, 1) := sorry
theorem dX12_barred_44 : decode cX12_barred 44 = .ok (.ifCond .ge 9, 3) := sorry
theorem dX12_barred_47 : decode cX12_barred 47 = .ok (.aload_n 0, 1) := sorry
theorem dX12_barred_48 : decode cX12_barred 48 = .ok (.iconst 4, 1) := sorry
theorem dX12_barred_49 : decode cX12_barred 49 = .ok (.invokevirtual 89, 3) := sorry
theorem dX12_barred_52 : decode cX12_barred 52 = .ok (.ireturn, 1) := sorry
theorem dX12_barred_53 : decode cX12_barred 53 = .ok (.iload_n 3, 1) := sorry
theorem dX12_barred_54 : decode cX12_barred 54 = .ok (.lload 4, 2) := sorry
theorem dX12_barred_56 : decode cX12_barred 56 = .ok (.aload_n 0, 1) := sorry
theorem dX12_barred_57 : decode cX12_barred 57 = .ok (.getfield 67, 3) := sorry
theorem dX12_barred_60 : decode cX12_barred 60 = .ok (.iload_n 1, 1) := sorry
theorem dX12_barred_61 : decode cX12_barred 61 = .ok (.iaload, 1) := sorry
theorem dX12_barred_62 : decode cX12_barred 62 = .ok (.invokestatic 93, 3) := sorry
theorem dX12_barred_65 : decode cX12_barred 65 = .ok (.ifCond .eq 11, 3) := sorry
theorem dX12_barred_68 : decode cX12_barred 68 = .ok (.aload_n 0, 1) := sorry
theorem dX12_barred_69 : decode cX12_barred 69 = .ok (.iconst 3, 1) := sorry
theorem dX12_barred_70 : decode cX12_barred 70 = .ok (.invokevirtual 89, 3) := sorry
theorem dX12_barred_73 : decode cX12_barred 73 = .ok (.goto 4, 3) := sorry
theorem dX12_barred_76 : decode cX12_barred 76 = .ok (.iconst 0, 1) := sorry
theorem dX12_barred_77 : decode cX12_barred 77 = .ok (.ireturn, 1) := sorry
theorem dX12_isLane_0 : decode cX12_isLane 0 = .ok (.iload_n 0, 1) := sorry
theorem dX12_isLane_1 : decode cX12_isLane 1 = .ok (.i2l, 1) := sorry
theorem dX12_isLane_2 : decode cX12_isLane 2 = .ok (.lconst 0, 1) := sorry
theorem dX12_isLane_3 : decode cX12_isLane 3 = .ok (.ldc2_w 97, 3) := sorry
theorem dX12_isLane_6 : decode cX12_isLane 6 = .ok (.invokestatic 99, 3) := sorry
theorem dX12_isLane_9 : decode cX12_isLane 9 = .ok (.ireturn, 1) := sorry
theorem dX12_isHour_0 : decode cX12_isHour 0 = .ok (.iload_n 0, 1) := sorry
theorem dX12_isHour_1 : decode cX12_isHour 1 = .ok (.i2l, 1) := sorry
theorem dX12_isHour_2 : decode cX12_isHour 2 = .ok (.lconst 0, 1) := sorry
theorem dX12_isHour_3 : decode cX12_isHour 3 = .ok (.ldc2_w 103, 3) := sorry
theorem dX12_isHour_6 : decode cX12_isHour 6 = .ok (.invokestatic 99, 3) := sorry
theorem dX12_isHour_9 : decode cX12_isHour 9 = .ok (.ireturn, 1) := sorry
theorem dX12_noPicture_0 : decode cX12_noPicture 0 = .ok (.iload_n 1, 1) := sorry
theorem dX12_noPicture_1 : decode cX12_noPicture 1 = .ok (.i2l, 1) := sorry
theorem dX12_noPicture_2 : decode cX12_noPicture 2 = .ok (.lconst 0, 1) := sorry
theorem dX12_noPicture_3 : decode cX12_noPicture 3 = .ok (.aload_n 0, 1) := sorry
theorem dX12_noPicture_4 : decode cX12_noPicture 4 = .ok (.getfield 105, 3) := sorry
theorem dX12_noPicture_7 : decode cX12_noPicture 7 = .ok (.i2l, 1) := sorry
theorem dX12_noPicture_8 : decode cX12_noPicture 8 = .ok (.lconst 1, 1) := sorry
theorem dX12_noPicture_9 : decode cX12_noPicture 9 = .ok (.lsub, 1) := sorry
theorem dX12_noPicture_10 : decode cX12_noPicture 10 = .ok (.invokestatic 99, 3) := sorry
theorem dX12_noPicture_13 : decode cX12_noPicture 13 = .ok (.ifCond .ne 7, 3) := sorry
theorem dX12_noPicture_16 : decode cX12_noPicture 16 = .ok (.iconst 1, 1) := sorry
theorem dX12_noPicture_17 : decode cX12_noPicture 17 = .ok (.goto 4, 3) := sorry
theorem dX12_noPicture_20 : decode cX12_noPicture 20 = .ok (.iconst 0, 1) := sorry
theorem dX12_noPicture_21 : decode cX12_noPicture 21 = .ok (.ireturn, 1) := sorry
theorem dX12_isThere_0 : decode cX12_isThere 0 = .ok (.iload_n 2, 1) := sorry
theorem dX12_isThere_1 : decode cX12_isThere 1 = .ok (.i2l, 1) := sorry
theorem dX12_isThere_2 : decode cX12_isThere 2 = .ok (.lconst 0, 1) := sorry
theorem dX12_isThere_3 : decode cX12_isThere 3 = .ok (.ldc2_w 108, 3) := sorry
theorem dX12_isThere_6 : decode cX12_isThere 6 = .ok (.invokestatic 99, 3) := sorry
theorem dX12_isThere_9 : decode cX12_isThere 9 = .ok (.ifCond .eq 31, 3) := sorry
theorem dX12_isThere_12 : decode cX12_isThere 12 = .ok (.iload_n 2, 1) := sorry
theorem dX12_isThere_13 : decode cX12_isThere 13 = .ok (.iconst 4, 1) := sorry
theorem dX12_isThere_14 : decode cX12_isThere 14 = .ok (.irem, 1) := sorry
theorem dX12_isThere_15 : decode cX12_isThere 15 = .ok (.aload_n 0, 1) := sorry
theorem dX12_isThere_16 : decode cX12_isThere 16 = .ok (.getfield 7, 3) := sorry
theorem dX12_isThere_19 : decode cX12_isThere 19 = .ok (.iload_n 1, 1) := sorry
theorem dX12_isThere_20 : decode cX12_isThere 20 = .ok (.iaload, 1) := sorry
theorem dX12_isThere_21 : decode cX12_isThere 21 = .ok (.if_icmp .ge 19, 3) := sorry
theorem dX12_isThere_24 : decode cX12_isThere 24 = .ok (.iload_n 2, 1) := sorry
theorem dX12_isThere_25 : decode cX12_isThere 25 = .ok (.iconst 4, 1) := sorry
theorem dX12_isThere_26 : decode cX12_isThere 26 = .ok (.idiv, 1) := sorry
theorem dX12_isThere_27 : decode cX12_isThere 27 = .ok (.aload_n 0, 1) := sorry
theorem dX12_isThere_28 : decode cX12_isThere 28 = .ok (.getfield 13, 3) := sorry
theorem dX12_isThere_31 : decode cX12_isThere 31 = .ok (.iload_n 1, 1) := sorry
theorem dX12_isThere_32 : decode cX12_isThere 32 = .ok (.iaload, 1) := sorry
theorem dX12_isThere_33 : decode cX12_isThere 33 = .ok (.if_icmp .ge 7, 3) := sorry
theorem dX12_isThere_36 : decode cX12_isThere 36 = .ok (.iconst 1, 1) := sorry
theorem dX12_isThere_37 : decode cX12_isThere 37 = .ok (.goto 4, 3) := sorry
theorem dX12_isThere_40 : decode cX12_isThere 40 = .ok (.iconst 0, 1) := sorry
theorem dX12_isThere_41 : decode cX12_isThere 41 = .ok (.ireturn, 1) := sorry
theorem dX12_picture_0 : decode cX12_picture 0 = .ok (.iload_n 3, 1) := sorry
theorem dX12_picture_1 : decode cX12_picture 1 = .ok (.invokestatic 110, 3) := sorry
theorem dX12_picture_4 : decode cX12_picture 4 = .ok (.ifCond .eq 9, 3) := sorry
theorem dX12_picture_7 : decode cX12_picture 7 = .ok (.aload_n 0, 1) := sorry
theorem dX12_picture_8 : decode cX12_picture 8 = .ok (.iconst (-1), 1) := sorry
theorem dX12_picture_9 : decode cX12_picture 9 = .ok (.invokevirtual 114, 3) := sorry
theorem dX12_picture_12 : decode cX12_picture 12 = .ok (.ireturn, 1) := sorry
theorem dX12_picture_13 : decode cX12_picture 13 = .ok (.iload_n 1, 1) := sorry
theorem dX12_picture_14 : decode cX12_picture 14 = .ok (.i2l, 1) := sorry
theorem dX12_picture_15 : decode cX12_picture 15 = .ok (.lconst 1, 1) := sorry
theorem dX12_picture_16 : decode cX12_picture 16 = .ok (.ldc2_w 117, 3) := sorry
theorem dX12_picture_19 : decode cX12_picture 19 = .ok (.invokestatic 99, 3) := sorry
theorem dX12_picture_22 : decode cX12_picture 22 = .ok (.ifCond .eq 23, 3) := sorry
theorem dX12_picture_25 : decode cX12_picture 25 = .ok (.iload_n 2, 1) := sorry
theorem dX12_picture_26 : decode cX12_picture 26 = .ok (.i2l, 1) := sorry
theorem dX12_picture_27 : decode cX12_picture 27 = .ok (.lconst 1, 1) := sorry
theorem dX12_picture_28 : decode cX12_picture 28 = .ok (.ldc2_w 117, 3) := sorry
theorem dX12_picture_31 : decode cX12_picture 31 = .ok (.invokestatic 99, 3) := sorry
theorem dX12_picture_34 : decode cX12_picture 34 = .ok (.ifCond .eq 11, 3) := sorry
theorem dX12_picture_37 : decode cX12_picture 37 = .ok (.iload 4, 2) := sorry
theorem dX12_picture_39 : decode cX12_picture 39 = .ok (.invokestatic 119, 3) := sorry
theorem dX12_picture_42 : decode cX12_picture 42 = .ok (.ifCond .ne 10, 3) := sorry
theorem dX12_picture_45 : decode cX12_picture 45 = .ok (.aload_n 0, 1) := sorry
theorem dX12_picture_46 : decode cX12_picture 46 = .ok (.bipush (-2), 2) := sorry
theorem dX12_picture_48 : decode cX12_picture 48 = .ok (.invokevirtual 114, 3) := sorry
theorem dX12_picture_51 : decode cX12_picture 51 = .ok (.ireturn, 1) := sorry
theorem dX12_picture_52 : decode cX12_picture 52 = .ok (.aload_n 0, 1) := sorry
theorem dX12_picture_53 : decode cX12_picture 53 = .ok (.iload_n 3, 1) := sorry
theorem dX12_picture_54 : decode cX12_picture 54 = .ok (.iload 4, 2) := sorry
theorem dX12_picture_56 : decode cX12_picture 56 = .ok (.iload 5, 2) := sorry
theorem dX12_picture_58 : decode cX12_picture 58 = .ok (.iload_n 1, 1) := sorry
theorem dX12_picture_59 : decode cX12_picture 59 = .ok (.iload_n 2, 1) := sorry
theorem dX12_picture_60 : decode cX12_picture 60 = .ok (.imul, 1) := sorry
theorem dX12_picture_61 : decode cX12_picture 61 = .ok (.i2l, 1) := sorry
theorem dX12_picture_62 : decode cX12_picture 62 = .ok (.invokevirtual 122, 3) := sorry
theorem dX12_picture_65 : decode cX12_picture 65 = .ok (.istore 6, 2) := sorry
theorem dX12_picture_67 : decode cX12_picture 67 = .ok (.iload 6, 2) := sorry
theorem dX12_picture_69 : decode cX12_picture 69 = .ok (.ifCond .ge 6, 3) := sorry
theorem dX12_picture_72 : decode cX12_picture 72 = .ok (.iload 6, 2) := sorry
theorem dX12_picture_74 : decode cX12_picture 74 = .ok (.ireturn, 1) := sorry
theorem dX12_picture_75 : decode cX12_picture 75 = .ok (.bipush 60, 2) := sorry
theorem dX12_picture_77 : decode cX12_picture 77 = .ok (.iload_n 3, 1) := sorry
theorem dX12_picture_78 : decode cX12_picture 78 = .ok (.imul, 1) := sorry
theorem dX12_picture_79 : decode cX12_picture 79 = .ok (.iload 5, 2) := sorry
theorem dX12_picture_81 : decode cX12_picture 81 = .ok (.iadd, 1) := sorry
theorem dX12_picture_82 : decode cX12_picture 82 = .ok (.istore 7, 2) := sorry
theorem dX12_picture_84 : decode cX12_picture 84 = .ok (.iconst 0, 1) := sorry
theorem dX12_picture_85 : decode cX12_picture 85 = .ok (.istore 8, 2) := sorry
theorem dX12_picture_87 : decode cX12_picture 87 = .ok (.iload 8, 2) := sorry
theorem dX12_picture_89 : decode cX12_picture 89 = .ok (.iload_n 1, 1) := sorry
theorem dX12_picture_90 : decode cX12_picture 90 = .ok (.iload_n 2, 1) := sorry
theorem dX12_picture_91 : decode cX12_picture 91 = .ok (.imul, 1) := sorry
theorem dX12_picture_92 : decode cX12_picture 92 = .ok (.if_icmp .ge 37, 3) := sorry
theorem dX12_picture_95 : decode cX12_picture 95 = .ok (.aload_n 0, 1) := sorry
theorem dX12_picture_96 : decode cX12_picture 96 = .ok (.getfield 73, 3) := sorry
theorem dX12_picture_99 : decode cX12_picture 99 = .ok (.iload 7, 2) := sorry
theorem dX12_picture_101 : decode cX12_picture 101 = .ok (.iload 8, 2) := sorry
theorem dX12_picture_103 : decode cX12_picture 103 = .ok (.iadd, 1) := sorry
theorem dX12_picture_104 : decode cX12_picture 104 = .ok (.iaload, 1) := sorry
theorem dX12_picture_105 : decode cX12_picture 105 = .ok (.i2l, 1) := sorry
theorem dX12_picture_106 : decode cX12_picture 106 = .ok (.lconst 0, 1) := sorry
theorem dX12_picture_107 : decode cX12_picture 107 = .ok (.ldc2_w 126, 3) := sorry
theorem dX12_picture_110 : decode cX12_picture 110 = .ok (.invokestatic 99, 3) := sorry
theorem dX12_picture_113 : decode cX12_picture 113 = .ok (.ifCond .ne 10, 3) := sorry
theorem dX12_picture_116 : decode cX12_picture 116 = .ok (.aload_n 0, 1) := sorry
theorem dX12_picture_117 : decode cX12_picture 117 = .ok (.bipush (-2), 2) := sorry
theorem dX12_picture_119 : decode cX12_picture 119 = .ok (.invokevirtual 114, 3) := sorry
theorem dX12_picture_122 : decode cX12_picture 122 = .ok (.ireturn, 1) := sorry
theorem dX12_picture_123 : decode cX12_picture 123 = .ok (.iinc 8 1, 3) := sorry
theorem dX12_picture_126 : decode cX12_picture 126 = .ok (.goto (-39), 3) := sorry
theorem dX12_picture_129 : decode cX12_picture 129 = .ok (.aload_n 0, 1) := sorry
theorem dX12_picture_130 : decode cX12_picture 130 = .ok (.getfield 105, 3) := sorry
theorem dX12_picture_133 : decode cX12_picture 133 = .ok (.bipush 12, 2) := sorry
theorem dX12_picture_135 : decode cX12_picture 135 = .ok (.if_icmp .ne 10, 3) := sorry
theorem dX12_picture_138 : decode cX12_picture 138 = .ok (.aload_n 0, 1) := sorry
theorem dX12_picture_139 : decode cX12_picture 139 = .ok (.bipush (-4), 2) := sorry
theorem dX12_picture_141 : decode cX12_picture 141 = .ok (.invokevirtual 114, 3) := sorry
theorem dX12_picture_144 : decode cX12_picture 144 = .ok (.ireturn, 1) := sorry
theorem dX12_picture_145 : decode cX12_picture 145 = .ok (.aload_n 0, 1) := sorry
theorem dX12_picture_146 : decode cX12_picture 146 = .ok (.getfield 7, 3) := sorry
theorem dX12_picture_149 : decode cX12_picture 149 = .ok (.aload_n 0, 1) := sorry
theorem dX12_picture_150 : decode cX12_picture 150 = .ok (.getfield 105, 3) := sorry
theorem dX12_picture_153 : decode cX12_picture 153 = .ok (.iload_n 1, 1) := sorry
theorem dX12_picture_154 : decode cX12_picture 154 = .ok (.iastore, 1) := sorry
theorem dX12_picture_155 : decode cX12_picture 155 = .ok (.aload_n 0, 1) := sorry
theorem dX12_picture_156 : decode cX12_picture 156 = .ok (.getfield 13, 3) := sorry
theorem dX12_picture_159 : decode cX12_picture 159 = .ok (.aload_n 0, 1) := sorry
theorem dX12_picture_160 : decode cX12_picture 160 = .ok (.getfield 105, 3) := sorry
theorem dX12_picture_163 : decode cX12_picture 163 = .ok (.iload_n 2, 1) := sorry
theorem dX12_picture_164 : decode cX12_picture 164 = .ok (.iastore, 1) := sorry
theorem dX12_picture_165 : decode cX12_picture 165 = .ok (.iconst 0, 1) := sorry
theorem dX12_picture_166 : decode cX12_picture 166 = .ok (.istore 8, 2) := sorry
theorem dX12_picture_168 : decode cX12_picture 168 = .ok (.iload 8, 2) := sorry
theorem dX12_picture_170 : decode cX12_picture 170 = .ok (.iload_n 1, 1) := sorry
theorem dX12_picture_171 : decode cX12_picture 171 = .ok (.iload_n 2, 1) := sorry
theorem dX12_picture_172 : decode cX12_picture 172 = .ok (.imul, 1) := sorry
theorem dX12_picture_173 : decode cX12_picture 173 = .ok (.if_icmp .ge 43, 3) := sorry
theorem dX12_picture_176 : decode cX12_picture 176 = .ok (.aload_n 0, 1) := sorry
theorem dX12_picture_177 : decode cX12_picture 177 = .ok (.getfield 16, 3) := sorry
theorem dX12_picture_180 : decode cX12_picture 180 = .ok (.bipush 16, 2) := sorry
theorem dX12_picture_182 : decode cX12_picture 182 = .ok (.aload_n 0, 1) := sorry
theorem dX12_picture_183 : decode cX12_picture 183 = .ok (.getfield 105, 3) := sorry
theorem dX12_picture_186 : decode cX12_picture 186 = .ok (.imul, 1) := sorry
theorem dX12_picture_187 : decode cX12_picture 187 = .ok (.iload 8, 2) := sorry
theorem dX12_picture_189 : decode cX12_picture 189 = .ok (.iload_n 1, 1) := sorry
theorem dX12_picture_190 : decode cX12_picture 190 = .ok (.irem, 1) := sorry
theorem dX12_picture_191 : decode cX12_picture 191 = .ok (.iadd, 1) := sorry
theorem dX12_picture_192 : decode cX12_picture 192 = .ok (.iconst 4, 1) := sorry
theorem dX12_picture_193 : decode cX12_picture 193 = .ok (.iload 8, 2) := sorry
theorem dX12_picture_195 : decode cX12_picture 195 = .ok (.iload_n 1, 1) := sorry
theorem dX12_picture_196 : decode cX12_picture 196 = .ok (.idiv, 1) := sorry
theorem dX12_picture_197 : decode cX12_picture 197 = .ok (.imul, 1) := sorry
theorem dX12_picture_198 : decode cX12_picture 198 = .ok (.iadd, 1) := sorry
theorem dX12_picture_199 : decode cX12_picture 199 = .ok (.aload_n 0, 1) := sorry
theorem dX12_picture_200 : decode cX12_picture 200 = .ok (.getfield 73, 3) := sorry
theorem dX12_picture_203 : decode cX12_picture 203 = .ok (.iload 7, 2) := sorry
theorem dX12_picture_205 : decode cX12_picture 205 = .ok (.iload 8, 2) := sorry
theorem dX12_picture_207 : decode cX12_picture 207 = .ok (.iadd, 1) := sorry
theorem dX12_picture_208 : decode cX12_picture 208 = .ok (.iaload, 1) := sorry
theorem dX12_picture_209 : decode cX12_picture 209 = .ok (.iastore, 1) := sorry
theorem dX12_picture_210 : decode cX12_picture 210 = .ok (.iinc 8 1, 3) := sorry
theorem dX12_picture_213 : decode cX12_picture 213 = .ok (.goto (-45), 3) := sorry
theorem dX12_picture_216 : decode cX12_picture 216 = .ok (.aload_n 0, 1) := sorry
theorem dX12_picture_217 : decode cX12_picture 217 = .ok (.dup, 1) := sorry
theorem dX12_picture_218 : decode cX12_picture 218 = .ok (.getfield 105, 3) := sorry
theorem dX12_picture_221 : decode cX12_picture 221 = .ok (.iconst 1, 1) := sorry
theorem dX12_picture_222 : decode cX12_picture 222 = .ok (.iadd, 1) := sorry
theorem dX12_picture_223 : decode cX12_picture 223 = .ok (.putfield 105, 3) := sorry
theorem dX12_picture_226 : decode cX12_picture 226 = .ok (.aload_n 0, 1) := sorry
theorem dX12_picture_227 : decode cX12_picture 227 = .ok (.aload_n 0, 1) := sorry
theorem dX12_picture_228 : decode cX12_picture 228 = .ok (.getfield 105, 3) := sorry
theorem dX12_picture_231 : decode cX12_picture 231 = .ok (.iconst 1, 1) := sorry
theorem dX12_picture_232 : decode cX12_picture 232 = .ok (.isub, 1) := sorry
theorem dX12_picture_233 : decode cX12_picture 233 = .ok (.invokevirtual 114, 3) := sorry
theorem dX12_picture_236 : decode cX12_picture 236 = .ok (.ireturn, 1) := sorry
theorem dX12_manySquares_0 : decode cX12_manySquares 0 = .ok (.aload_n 0, 1) := sorry
theorem dX12_manySquares_1 : decode cX12_manySquares 1 = .ok (.getfield 7, 3) := sorry
theorem dX12_manySquares_4 : decode cX12_manySquares 4 = .ok (.iload_n 1, 1) := sorry
theorem dX12_manySquares_5 : decode cX12_manySquares 5 = .ok (.iaload, 1) := sorry
theorem dX12_manySquares_6 : decode cX12_manySquares 6 = .ok (.aload_n 0, 1) := sorry
theorem dX12_manySquares_7 : decode cX12_manySquares 7 = .ok (.getfield 13, 3) := sorry
theorem dX12_manySquares_10 : decode cX12_manySquares 10 = .ok (.iload_n 1, 1) := sorry
theorem dX12_manySquares_11 : decode cX12_manySquares 11 = .ok (.iaload, 1) := sorry
theorem dX12_manySquares_12 : decode cX12_manySquares 12 = .ok (.imul, 1) := sorry
theorem dX12_manySquares_13 : decode cX12_manySquares 13 = .ok (.ireturn, 1) := sorry
theorem dX12_placeOf_0 : decode cX12_placeOf 0 = .ok (.iload_n 2, 1) := sorry
theorem dX12_placeOf_1 : decode cX12_placeOf 1 = .ok (.aload_n 0, 1) := sorry
theorem dX12_placeOf_2 : decode cX12_placeOf 2 = .ok (.getfield 7, 3) := sorry
theorem dX12_placeOf_5 : decode cX12_placeOf 5 = .ok (.iload_n 1, 1) := sorry
theorem dX12_placeOf_6 : decode cX12_placeOf 6 = .ok (.iaload, 1) := sorry
theorem dX12_placeOf_7 : decode cX12_placeOf 7 = .ok (.irem, 1) := sorry
theorem dX12_placeOf_8 : decode cX12_placeOf 8 = .ok (.iconst 4, 1) := sorry
theorem dX12_placeOf_9 : decode cX12_placeOf 9 = .ok (.iload_n 2, 1) := sorry
theorem dX12_placeOf_10 : decode cX12_placeOf 10 = .ok (.aload_n 0, 1) := sorry
theorem dX12_placeOf_11 : decode cX12_placeOf 11 = .ok (.getfield 7, 3) := sorry
theorem dX12_placeOf_14 : decode cX12_placeOf 14 = .ok (.iload_n 1, 1) := sorry
theorem dX12_placeOf_15 : decode cX12_placeOf 15 = .ok (.iaload, 1) := sorry
theorem dX12_placeOf_16 : decode cX12_placeOf 16 = .ok (.idiv, 1) := sorry
theorem dX12_placeOf_17 : decode cX12_placeOf 17 = .ok (.imul, 1) := sorry
theorem dX12_placeOf_18 : decode cX12_placeOf 18 = .ok (.iadd, 1) := sorry
theorem dX12_placeOf_19 : decode cX12_placeOf 19 = .ok (.ireturn, 1) := sorry
theorem dX12_sumOf_0 : decode cX12_sumOf 0 = .ok (.iconst 0, 1) := sorry
theorem dX12_sumOf_1 : decode cX12_sumOf 1 = .ok (.istore_n 2, 1) := sorry
theorem dX12_sumOf_2 : decode cX12_sumOf 2 = .ok (.iconst 0, 1) := sorry
theorem dX12_sumOf_3 : decode cX12_sumOf 3 = .ok (.istore_n 3, 1) := sorry
theorem dX12_sumOf_4 : decode cX12_sumOf 4 = .ok (.iload_n 3, 1) := sorry
theorem dX12_sumOf_5 : decode cX12_sumOf 5 = .ok (.aload_n 0, 1) := sorry
theorem dX12_sumOf_6 : decode cX12_sumOf 6 = .ok (.iload_n 1, 1) := sorry
theorem dX12_sumOf_7 : decode cX12_sumOf 7 = .ok (.invokevirtual 128, 3) := sorry
theorem dX12_sumOf_10 : decode cX12_sumOf 10 = .ok (.if_icmp .ge 28, 3) := sorry
theorem dX12_sumOf_13 : decode cX12_sumOf 13 = .ok (.iload_n 2, 1) := sorry
theorem dX12_sumOf_14 : decode cX12_sumOf 14 = .ok (.aload_n 0, 1) := sorry
theorem dX12_sumOf_15 : decode cX12_sumOf 15 = .ok (.getfield 16, 3) := sorry
theorem dX12_sumOf_18 : decode cX12_sumOf 18 = .ok (.bipush 16, 2) := sorry
theorem dX12_sumOf_20 : decode cX12_sumOf 20 = .ok (.iload_n 1, 1) := sorry
theorem dX12_sumOf_21 : decode cX12_sumOf 21 = .ok (.imul, 1) := sorry
theorem dX12_sumOf_22 : decode cX12_sumOf 22 = .ok (.aload_n 0, 1) := sorry
theorem dX12_sumOf_23 : decode cX12_sumOf 23 = .ok (.iload_n 1, 1) := sorry
theorem dX12_sumOf_24 : decode cX12_sumOf 24 = .ok (.iload_n 3, 1) := sorry
theorem dX12_sumOf_25 : decode cX12_sumOf 25 = .ok (.invokevirtual 131, 3) := sorry
theorem dX12_sumOf_28 : decode cX12_sumOf 28 = .ok (.iadd, 1) := sorry
theorem dX12_sumOf_29 : decode cX12_sumOf 29 = .ok (.iaload, 1) := sorry
theorem dX12_sumOf_30 : decode cX12_sumOf 30 = .ok (.iadd, 1) := sorry
theorem dX12_sumOf_31 : decode cX12_sumOf 31 = .ok (.istore_n 2, 1) := sorry
theorem dX12_sumOf_32 : decode cX12_sumOf 32 = .ok (.iinc 3 1, 3) := sorry
theorem dX12_sumOf_35 : decode cX12_sumOf 35 = .ok (.goto (-31), 3) := sorry
theorem dX12_sumOf_38 : decode cX12_sumOf 38 = .ok (.iload_n 2, 1) := sorry
theorem dX12_sumOf_39 : decode cX12_sumOf 39 = .ok (.ireturn, 1) := sorry
theorem dX12_layTree_0 : decode cX12_layTree 0 = .ok (.iconst 0, 1) := sorry
theorem dX12_layTree_1 : decode cX12_layTree 1 = .ok (.istore_n 2, 1) := sorry
theorem dX12_layTree_2 : decode cX12_layTree 2 = .ok (.iload_n 2, 1) := sorry
theorem dX12_layTree_3 : decode cX12_layTree 3 = .ok (.bipush 16, 2) := sorry
theorem dX12_layTree_5 : decode cX12_layTree 5 = .ok (.if_icmp .ge 44, 3) := sorry
theorem dX12_layTree_8 : decode cX12_layTree 8 = .ok (.aload_n 0, 1) := sorry
theorem dX12_layTree_9 : decode cX12_layTree 9 = .ok (.getfield 19, 3) := sorry
theorem dX12_layTree_12 : decode cX12_layTree 12 = .ok (.bipush 16, 2) := sorry
theorem dX12_layTree_14 : decode cX12_layTree 14 = .ok (.iload_n 2, 1) := sorry
theorem dX12_layTree_15 : decode cX12_layTree 15 = .ok (.iadd, 1) := sorry
theorem dX12_layTree_16 : decode cX12_layTree 16 = .ok (.aload_n 0, 1) := sorry
theorem dX12_layTree_17 : decode cX12_layTree 17 = .ok (.iload_n 1, 1) := sorry
theorem dX12_layTree_18 : decode cX12_layTree 18 = .ok (.iload_n 2, 1) := sorry
theorem dX12_layTree_19 : decode cX12_layTree 19 = .ok (.invokevirtual 135, 3) := sorry
theorem dX12_layTree_22 : decode cX12_layTree 22 = .ok (.ifCond .eq 19, 3) := sorry
theorem dX12_layTree_25 : decode cX12_layTree 25 = .ok (.aload_n 0, 1) := sorry
theorem dX12_layTree_26 : decode cX12_layTree 26 = .ok (.getfield 16, 3) := sorry
theorem dX12_layTree_29 : decode cX12_layTree 29 = .ok (.bipush 16, 2) := sorry
theorem dX12_layTree_31 : decode cX12_layTree 31 = .ok (.iload_n 1, 1) := sorry
theorem dX12_layTree_32 : decode cX12_layTree 32 = .ok (.imul, 1) := sorry
theorem dX12_layTree_33 : decode cX12_layTree 33 = .ok (.iload_n 2, 1) := sorry
theorem dX12_layTree_34 : decode cX12_layTree 34 = .ok (.iadd, 1) := sorry
theorem dX12_layTree_35 : decode cX12_layTree 35 = .ok (.iaload, 1) := sorry
theorem dX12_layTree_36 : decode cX12_layTree 36 = .ok (.iconst 1, 1) := sorry
theorem dX12_layTree_37 : decode cX12_layTree 37 = .ok (.iadd, 1) := sorry
theorem dX12_layTree_38 : decode cX12_layTree 38 = .ok (.goto 4, 3) := sorry
theorem dX12_layTree_41 : decode cX12_layTree 41 = .ok (.iconst 0, 1) := sorry
theorem dX12_layTree_42 : decode cX12_layTree 42 = .ok (.iastore, 1) := sorry
theorem dX12_layTree_43 : decode cX12_layTree 43 = .ok (.iinc 2 1, 3) := sorry
theorem dX12_layTree_46 : decode cX12_layTree 46 = .ok (.goto (-44), 3) := sorry
theorem dX12_layTree_49 : decode cX12_layTree 49 = .ok (.bipush 15, 2) := sorry
theorem dX12_layTree_51 : decode cX12_layTree 51 = .ok (.istore_n 2, 1) := sorry
theorem dX12_layTree_52 : decode cX12_layTree 52 = .ok (.iload_n 2, 1) := sorry
theorem dX12_layTree_53 : decode cX12_layTree 53 = .ok (.ifCond .le 36, 3) := sorry
theorem dX12_layTree_56 : decode cX12_layTree 56 = .ok (.aload_n 0, 1) := sorry
theorem dX12_layTree_57 : decode cX12_layTree 57 = .ok (.getfield 19, 3) := sorry
theorem dX12_layTree_60 : decode cX12_layTree 60 = .ok (.iload_n 2, 1) := sorry
theorem dX12_layTree_61 : decode cX12_layTree 61 = .ok (.aload_n 0, 1) := sorry
theorem dX12_layTree_62 : decode cX12_layTree 62 = .ok (.getfield 19, 3) := sorry
theorem dX12_layTree_65 : decode cX12_layTree 65 = .ok (.iconst 2, 1) := sorry
theorem dX12_layTree_66 : decode cX12_layTree 66 = .ok (.iload_n 2, 1) := sorry
theorem dX12_layTree_67 : decode cX12_layTree 67 = .ok (.imul, 1) := sorry
theorem dX12_layTree_68 : decode cX12_layTree 68 = .ok (.iaload, 1) := sorry
theorem dX12_layTree_69 : decode cX12_layTree 69 = .ok (.aload_n 0, 1) := sorry
theorem dX12_layTree_70 : decode cX12_layTree 70 = .ok (.getfield 19, 3) := sorry
theorem dX12_layTree_73 : decode cX12_layTree 73 = .ok (.iconst 2, 1) := sorry
theorem dX12_layTree_74 : decode cX12_layTree 74 = .ok (.iload_n 2, 1) := sorry
theorem dX12_layTree_75 : decode cX12_layTree 75 = .ok (.imul, 1) := sorry
theorem dX12_layTree_76 : decode cX12_layTree 76 = .ok (.iconst 1, 1) := sorry
theorem dX12_layTree_77 : decode cX12_layTree 77 = .ok (.iadd, 1) := sorry
theorem dX12_layTree_78 : decode cX12_layTree 78 = .ok (.iaload, 1) := sorry
theorem dX12_layTree_79 : decode cX12_layTree 79 = .ok (.invokestatic 139, 3) := sorry
theorem dX12_layTree_82 : decode cX12_layTree 82 = .ok (.iastore, 1) := sorry
theorem dX12_layTree_83 : decode cX12_layTree 83 = .ok (.iinc 2 (-1), 3) := sorry
theorem dX12_layTree_86 : decode cX12_layTree 86 = .ok (.goto (-34), 3) := sorry
theorem dX12_layTree_89 : decode cX12_layTree 89 = .ok (.return_, 1) := sorry
theorem dX12_above_0 : decode cX12_above 0 = .ok (.bipush 31, 2) := sorry
theorem dX12_above_2 : decode cX12_above 2 = .ok (.iload_n 0, 1) := sorry
theorem dX12_above_3 : decode cX12_above 3 = .ok (.imul, 1) := sorry
theorem dX12_above_4 : decode cX12_above 4 = .ok (.bipush 17, 2) := sorry
theorem dX12_above_6 : decode cX12_above 6 = .ok (.iload_n 1, 1) := sorry
theorem dX12_above_7 : decode cX12_above 7 = .ok (.imul, 1) := sorry
theorem dX12_above_8 : decode cX12_above 8 = .ok (.iadd, 1) := sorry
theorem dX12_above_9 : decode cX12_above 9 = .ok (.iconst 5, 1) := sorry
theorem dX12_above_10 : decode cX12_above 10 = .ok (.iadd, 1) := sorry
theorem dX12_above_11 : decode cX12_above 11 = .ok (.sipush 9973, 3) := sorry
theorem dX12_above_14 : decode cX12_above 14 = .ok (.irem, 1) := sorry
theorem dX12_above_15 : decode cX12_above 15 = .ok (.ireturn, 1) := sorry
theorem dX12_rootOf_0 : decode cX12_rootOf 0 = .ok (.aload_n 0, 1) := sorry
theorem dX12_rootOf_1 : decode cX12_rootOf 1 = .ok (.iload_n 1, 1) := sorry
theorem dX12_rootOf_2 : decode cX12_rootOf 2 = .ok (.invokevirtual 142, 3) := sorry
theorem dX12_rootOf_5 : decode cX12_rootOf 5 = .ok (.aload_n 0, 1) := sorry
theorem dX12_rootOf_6 : decode cX12_rootOf 6 = .ok (.getfield 19, 3) := sorry
theorem dX12_rootOf_9 : decode cX12_rootOf 9 = .ok (.iconst 1, 1) := sorry
theorem dX12_rootOf_10 : decode cX12_rootOf 10 = .ok (.iaload, 1) := sorry
theorem dX12_rootOf_11 : decode cX12_rootOf 11 = .ok (.ireturn, 1) := sorry
theorem dX12_ofPicture_0 : decode cX12_ofPicture 0 = .ok (.aload_n 0, 1) := sorry
theorem dX12_ofPicture_1 : decode cX12_ofPicture 1 = .ok (.iload_n 1, 1) := sorry
theorem dX12_ofPicture_2 : decode cX12_ofPicture 2 = .ok (.invokevirtual 146, 3) := sorry
theorem dX12_ofPicture_5 : decode cX12_ofPicture 5 = .ok (.ifCond .eq 5, 3) := sorry
theorem dX12_ofPicture_8 : decode cX12_ofPicture 8 = .ok (.iconst (-1), 1) := sorry
theorem dX12_ofPicture_9 : decode cX12_ofPicture 9 = .ok (.ireturn, 1) := sorry
theorem dX12_ofPicture_10 : decode cX12_ofPicture 10 = .ok (.iload_n 2, 1) := sorry
theorem dX12_ofPicture_11 : decode cX12_ofPicture 11 = .ok (.tableswitch 55 0 3 #[29, 36, 43, 49], 29) := sorry
theorem dX12_ofPicture_40 : decode cX12_ofPicture 40 = .ok (.aload_n 0, 1) := sorry
theorem dX12_ofPicture_41 : decode cX12_ofPicture 41 = .ok (.getfield 7, 3) := sorry
theorem dX12_ofPicture_44 : decode cX12_ofPicture 44 = .ok (.iload_n 1, 1) := sorry
theorem dX12_ofPicture_45 : decode cX12_ofPicture 45 = .ok (.iaload, 1) := sorry
theorem dX12_ofPicture_46 : decode cX12_ofPicture 46 = .ok (.ireturn, 1) := sorry
theorem dX12_ofPicture_47 : decode cX12_ofPicture 47 = .ok (.aload_n 0, 1) := sorry
theorem dX12_ofPicture_48 : decode cX12_ofPicture 48 = .ok (.getfield 13, 3) := sorry
theorem dX12_ofPicture_51 : decode cX12_ofPicture 51 = .ok (.iload_n 1, 1) := sorry
theorem dX12_ofPicture_52 : decode cX12_ofPicture 52 = .ok (.iaload, 1) := sorry
theorem dX12_ofPicture_53 : decode cX12_ofPicture 53 = .ok (.ireturn, 1) := sorry
theorem dX12_ofPicture_54 : decode cX12_ofPicture 54 = .ok (.aload_n 0, 1) := sorry
theorem dX12_ofPicture_55 : decode cX12_ofPicture 55 = .ok (.iload_n 1, 1) := sorry
theorem dX12_ofPicture_56 : decode cX12_ofPicture 56 = .ok (.invokevirtual 149, 3) := sorry
theorem dX12_ofPicture_59 : decode cX12_ofPicture 59 = .ok (.ireturn, 1) := sorry
theorem dX12_ofPicture_60 : decode cX12_ofPicture 60 = .ok (.aload_n 0, 1) := sorry
theorem dX12_ofPicture_61 : decode cX12_ofPicture 61 = .ok (.iload_n 1, 1) := sorry
theorem dX12_ofPicture_62 : decode cX12_ofPicture 62 = .ok (.invokevirtual 152, 3) := sorry
theorem dX12_ofPicture_65 : decode cX12_ofPicture 65 = .ok (.ireturn, 1) := sorry
theorem dX12_ofPicture_66 : decode cX12_ofPicture 66 = .ok (.iload_n 2, 1) := sorry
theorem dX12_ofPicture_67 : decode cX12_ofPicture 67 = .ok (.i2l, 1) := sorry
theorem dX12_ofPicture_68 : decode cX12_ofPicture 68 = .ok (.ldc2_w 155, 3) := sorry
theorem dX12_ofPicture_71 : decode cX12_ofPicture 71 = .ok (.ldc2_w 157, 3) := sorry
theorem dX12_ofPicture_74 : decode cX12_ofPicture 74 = .ok (.invokestatic 99, 3) := sorry
theorem dX12_ofPicture_77 : decode cX12_ofPicture 77 = .ok (.ifCond .eq 32, 3) := sorry
theorem dX12_ofPicture_80 : decode cX12_ofPicture 80 = .ok (.aload_n 0, 1) := sorry
theorem dX12_ofPicture_81 : decode cX12_ofPicture 81 = .ok (.iload_n 1, 1) := sorry
theorem dX12_ofPicture_82 : decode cX12_ofPicture 82 = .ok (.iload_n 2, 1) := sorry
theorem dX12_ofPicture_83 : decode cX12_ofPicture 83 = .ok (.bipush 10, 2) := sorry
theorem dX12_ofPicture_85 : decode cX12_ofPicture 85 = .ok (.isub, 1) := sorry
theorem dX12_ofPicture_86 : decode cX12_ofPicture 86 = .ok (.invokevirtual 135, 3) := sorry
theorem dX12_ofPicture_89 : decode cX12_ofPicture 89 = .ok (.ifCond .eq 20, 3) := sorry
theorem dX12_ofPicture_92 : decode cX12_ofPicture 92 = .ok (.aload_n 0, 1) := sorry
theorem dX12_ofPicture_93 : decode cX12_ofPicture 93 = .ok (.getfield 16, 3) := sorry
theorem dX12_ofPicture_96 : decode cX12_ofPicture 96 = .ok (.bipush 16, 2) := sorry
theorem dX12_ofPicture_98 : decode cX12_ofPicture 98 = .ok (.iload_n 1, 1) := sorry
theorem dX12_ofPicture_99 : decode cX12_ofPicture 99 = .ok (.imul, 1) := sorry
theorem dX12_ofPicture_100 : decode cX12_ofPicture 100 = .ok (.iload_n 2, 1) := sorry
theorem dX12_ofPicture_101 : decode cX12_ofPicture 101 = .ok (.iadd, 1) := sorry
theorem dX12_ofPicture_102 : decode cX12_ofPicture 102 = .ok (.bipush 10, 2) := sorry
theorem dX12_ofPicture_104 : decode cX12_ofPicture 104 = .ok (.isub, 1) := sorry
theorem dX12_ofPicture_105 : decode cX12_ofPicture 105 = .ok (.iaload, 1) := sorry
theorem dX12_ofPicture_106 : decode cX12_ofPicture 106 = .ok (.goto 5, 3) := sorry
theorem dX12_ofPicture_109 : decode cX12_ofPicture 109 = .ok (.bipush (-2), 2) := sorry
theorem dX12_ofPicture_111 : decode cX12_ofPicture 111 = .ok (.ireturn, 1) := sorry
theorem dX12_alter_0 : decode cX12_alter 0 = .ok (.aload_n 0, 1) := sorry
theorem dX12_alter_1 : decode cX12_alter 1 = .ok (.iload_n 1, 1) := sorry
theorem dX12_alter_2 : decode cX12_alter 2 = .ok (.invokevirtual 146, 3) := sorry
theorem dX12_alter_5 : decode cX12_alter 5 = .ok (.ifCond .ne 12, 3) := sorry
theorem dX12_alter_8 : decode cX12_alter 8 = .ok (.aload_n 0, 1) := sorry
theorem dX12_alter_9 : decode cX12_alter 9 = .ok (.iload_n 1, 1) := sorry
theorem dX12_alter_10 : decode cX12_alter 10 = .ok (.iload_n 2, 1) := sorry
theorem dX12_alter_11 : decode cX12_alter 11 = .ok (.invokevirtual 135, 3) := sorry
theorem dX12_alter_14 : decode cX12_alter 14 = .ok (.ifCond .ne 5, 3) := sorry
theorem dX12_alter_17 : decode cX12_alter 17 = .ok (.iconst (-1), 1) := sorry
theorem dX12_alter_18 : decode cX12_alter 18 = .ok (.ireturn, 1) := sorry
theorem dX12_alter_19 : decode cX12_alter 19 = .ok (.iload_n 3, 1) := sorry
theorem dX12_alter_20 : decode cX12_alter 20 = .ok (.i2l, 1) := sorry
theorem dX12_alter_21 : decode cX12_alter 21 = .ok (.lconst 0, 1) := sorry
theorem dX12_alter_22 : decode cX12_alter 22 = .ok (.ldc2_w 126, 3) := sorry
theorem dX12_alter_25 : decode cX12_alter 25 = .ok (.invokestatic 99, 3) := sorry
theorem dX12_alter_28 : decode cX12_alter 28 = .ok (.ifCond .ne 6, 3) := sorry
theorem dX12_alter_31 : decode cX12_alter 31 = .ok (.bipush (-2), 2) := sorry
theorem dX12_alter_33 : decode cX12_alter 33 = .ok (.ireturn, 1) := sorry
theorem dX12_alter_34 : decode cX12_alter 34 = .ok (.aload_n 0, 1) := sorry
theorem dX12_alter_35 : decode cX12_alter 35 = .ok (.getfield 16, 3) := sorry
theorem dX12_alter_38 : decode cX12_alter 38 = .ok (.bipush 16, 2) := sorry
theorem dX12_alter_40 : decode cX12_alter 40 = .ok (.iload_n 1, 1) := sorry
theorem dX12_alter_41 : decode cX12_alter 41 = .ok (.imul, 1) := sorry
theorem dX12_alter_42 : decode cX12_alter 42 = .ok (.iload_n 2, 1) := sorry
theorem dX12_alter_43 : decode cX12_alter 43 = .ok (.iadd, 1) := sorry
theorem dX12_alter_44 : decode cX12_alter 44 = .ok (.iaload, 1) := sorry
theorem dX12_alter_45 : decode cX12_alter 45 = .ok (.istore 4, 2) := sorry
theorem dX12_alter_47 : decode cX12_alter 47 = .ok (.aload_n 0, 1) := sorry
theorem dX12_alter_48 : decode cX12_alter 48 = .ok (.getfield 16, 3) := sorry
theorem dX12_alter_51 : decode cX12_alter 51 = .ok (.bipush 16, 2) := sorry
theorem dX12_alter_53 : decode cX12_alter 53 = .ok (.iload_n 1, 1) := sorry
theorem dX12_alter_54 : decode cX12_alter 54 = .ok (.imul, 1) := sorry
theorem dX12_alter_55 : decode cX12_alter 55 = .ok (.iload_n 2, 1) := sorry
theorem dX12_alter_56 : decode cX12_alter 56 = .ok (.iadd, 1) := sorry
theorem dX12_alter_57 : decode cX12_alter 57 = .ok (.iload_n 3, 1) := sorry
theorem dX12_alter_58 : decode cX12_alter 58 = .ok (.iastore, 1) := sorry
theorem dX12_alter_59 : decode cX12_alter 59 = .ok (.iload 4, 2) := sorry
theorem dX12_alter_61 : decode cX12_alter 61 = .ok (.ireturn, 1) := sorry
theorem dX12_isDigit_0 : decode cX12_isDigit 0 = .ok (.aload_n 0, 1) := sorry
theorem dX12_isDigit_1 : decode cX12_isDigit 1 = .ok (.getfield 159, 3) := sorry
theorem dX12_isDigit_4 : decode cX12_isDigit 4 = .ok (.iload_n 2, 1) := sorry
theorem dX12_isDigit_5 : decode cX12_isDigit 5 = .ok (.if_icmp .ge 31, 3) := sorry
theorem dX12_isDigit_8 : decode cX12_isDigit 8 = .ok (.aload_n 0, 1) := sorry
theorem dX12_isDigit_9 : decode cX12_isDigit 9 = .ok (.getfield 73, 3) := sorry
theorem dX12_isDigit_12 : decode cX12_isDigit 12 = .ok (.iload_n 1, 1) := sorry
theorem dX12_isDigit_13 : decode cX12_isDigit 13 = .ok (.aload_n 0, 1) := sorry
theorem dX12_isDigit_14 : decode cX12_isDigit 14 = .ok (.getfield 159, 3) := sorry
theorem dX12_isDigit_17 : decode cX12_isDigit 17 = .ok (.iadd, 1) := sorry
theorem dX12_isDigit_18 : decode cX12_isDigit 18 = .ok (.iaload, 1) := sorry
theorem dX12_isDigit_19 : decode cX12_isDigit 19 = .ok (.i2l, 1) := sorry
theorem dX12_isDigit_20 : decode cX12_isDigit 20 = .ok (.ldc2_w 162, 3) := sorry
theorem dX12_isDigit_23 : decode cX12_isDigit 23 = .ok (.ldc2_w 164, 3) := sorry
theorem dX12_isDigit_26 : decode cX12_isDigit 26 = .ok (.invokestatic 99, 3) := sorry
theorem dX12_isDigit_29 : decode cX12_isDigit 29 = .ok (.ifCond .eq 7, 3) := sorry
theorem dX12_isDigit_32 : decode cX12_isDigit 32 = .ok (.iconst 1, 1) := sorry
theorem dX12_isDigit_33 : decode cX12_isDigit 33 = .ok (.goto 4, 3) := sorry
theorem dX12_isDigit_36 : decode cX12_isDigit 36 = .ok (.iconst 0, 1) := sorry
theorem dX12_isDigit_37 : decode cX12_isDigit 37 = .ok (.ireturn, 1) := sorry
theorem dX12_readsNumbers_0 : decode cX12_readsNumbers 0 = .ok (.iconst 5, 1) := sorry
theorem dX12_readsNumbers_1 : decode cX12_readsNumbers 1 = .ok (.aload_n 0, 1) := sorry
theorem dX12_readsNumbers_2 : decode cX12_readsNumbers 2 = .ok (.getfield 166, 3) := sorry
theorem dX12_readsNumbers_5 : decode cX12_readsNumbers 5 = .ok (.imul, 1) := sorry
theorem dX12_readsNumbers_6 : decode cX12_readsNumbers 6 = .ok (.iconst 1, 1) := sorry
theorem dX12_readsNumbers_7 : decode cX12_readsNumbers 7 = .ok (.iadd, 1) := sorry
theorem dX12_readsNumbers_8 : decode cX12_readsNumbers 8 = .ok (.istore 4, 2) := sorry
theorem dX12_readsNumbers_10 : decode cX12_readsNumbers 10 = .ok (.iload_n 1, 1) := sorry
theorem dX12_readsNumbers_11 : decode cX12_readsNumbers 11 = .ok (.bipush 99, 2) := sorry
theorem dX12_readsNumbers_13 : decode cX12_readsNumbers 13 = .ok (.if_icmp .eq 9, 3) := sorry
theorem dX12_readsNumbers_16 : decode cX12_readsNumbers 16 = .ok (.iload_n 1, 1) := sorry
theorem dX12_readsNumbers_17 : decode cX12_readsNumbers 17 = .ok (.bipush 98, 2) := sorry
theorem dX12_readsNumbers_19 : decode cX12_readsNumbers 19 = .ok (.if_icmp .ne 65, 3) := sorry
theorem dX12_readsNumbers_22 : decode cX12_readsNumbers 22 = .ok (.iconst 0, 1) := sorry
theorem dX12_readsNumbers_23 : decode cX12_readsNumbers 23 = .ok (.istore 5, 2) := sorry
theorem dX12_readsNumbers_25 : decode cX12_readsNumbers 25 = .ok (.iload 5, 2) := sorry
theorem dX12_readsNumbers_27 : decode cX12_readsNumbers 27 = .ok (.iconst 4, 1) := sorry
theorem dX12_readsNumbers_28 : decode cX12_readsNumbers 28 = .ok (.if_icmp .ge 54, 3) := sorry
theorem dX12_readsNumbers_31 : decode cX12_readsNumbers 31 = .ok (.aload_n 0, 1) := sorry
theorem dX12_readsNumbers_32 : decode cX12_readsNumbers 32 = .ok (.iload_n 2, 1) := sorry
theorem dX12_readsNumbers_33 : decode cX12_readsNumbers 33 = .ok (.iload_n 3, 1) := sorry
theorem dX12_readsNumbers_34 : decode cX12_readsNumbers 34 = .ok (.invokevirtual 169, 3) := sorry
theorem dX12_readsNumbers_37 : decode cX12_readsNumbers 37 = .ok (.ifCond .ne 5, 3) := sorry
theorem dX12_readsNumbers_40 : decode cX12_readsNumbers 40 = .ok (.iconst 0, 1) := sorry
theorem dX12_readsNumbers_41 : decode cX12_readsNumbers 41 = .ok (.ireturn, 1) := sorry
theorem dX12_readsNumbers_42 : decode cX12_readsNumbers 42 = .ok (.aload_n 0, 1) := sorry
theorem dX12_readsNumbers_43 : decode cX12_readsNumbers 43 = .ok (.getfield 22, 3) := sorry
theorem dX12_readsNumbers_46 : decode cX12_readsNumbers 46 = .ok (.iload 4, 2) := sorry
theorem dX12_readsNumbers_48 : decode cX12_readsNumbers 48 = .ok (.iload 5, 2) := sorry
theorem dX12_readsNumbers_50 : decode cX12_readsNumbers 50 = .ok (.iadd, 1) := sorry
theorem dX12_readsNumbers_51 : decode cX12_readsNumbers 51 = .ok (.aload_n 0, 1) := sorry
theorem dX12_readsNumbers_52 : decode cX12_readsNumbers 52 = .ok (.getfield 73, 3) := sorry
theorem dX12_readsNumbers_55 : decode cX12_readsNumbers 55 = .ok (.iload_n 2, 1) := sorry
theorem dX12_readsNumbers_56 : decode cX12_readsNumbers 56 = .ok (.aload_n 0, 1) := sorry
theorem dX12_readsNumbers_57 : decode cX12_readsNumbers 57 = .ok (.getfield 159, 3) := sorry
theorem dX12_readsNumbers_60 : decode cX12_readsNumbers 60 = .ok (.iadd, 1) := sorry
theorem dX12_readsNumbers_61 : decode cX12_readsNumbers 61 = .ok (.iaload, 1) := sorry
theorem dX12_readsNumbers_62 : decode cX12_readsNumbers 62 = .ok (.bipush 48, 2) := sorry
theorem dX12_readsNumbers_64 : decode cX12_readsNumbers 64 = .ok (.isub, 1) := sorry
theorem dX12_readsNumbers_65 : decode cX12_readsNumbers 65 = .ok (.iastore, 1) := sorry
theorem dX12_readsNumbers_66 : decode cX12_readsNumbers 66 = .ok (.aload_n 0, 1) := sorry
theorem dX12_readsNumbers_67 : decode cX12_readsNumbers 67 = .ok (.dup, 1) := sorry
theorem dX12_readsNumbers_68 : decode cX12_readsNumbers 68 = .ok (.getfield 159, 3) := sorry
theorem dX12_readsNumbers_71 : decode cX12_readsNumbers 71 = .ok (.iconst 1, 1) := sorry
theorem dX12_readsNumbers_72 : decode cX12_readsNumbers 72 = .ok (.iadd, 1) := sorry
theorem dX12_readsNumbers_73 : decode cX12_readsNumbers 73 = .ok (.putfield 159, 3) := sorry
theorem dX12_readsNumbers_76 : decode cX12_readsNumbers 76 = .ok (.iinc 5 1, 3) := sorry
theorem dX12_readsNumbers_79 : decode cX12_readsNumbers 79 = .ok (.goto (-54), 3) := sorry
theorem dX12_readsNumbers_82 : decode cX12_readsNumbers 82 = .ok (.iconst 1, 1) := sorry
theorem dX12_readsNumbers_83 : decode cX12_readsNumbers 83 = .ok (.ireturn, 1) := sorry
theorem dX12_readsNumbers_84 : decode cX12_readsNumbers 84 = .ok (.aload_n 0, 1) := sorry
theorem dX12_readsNumbers_85 : decode cX12_readsNumbers 85 = .ok (.getfield 159, 3) := sorry
theorem dX12_readsNumbers_88 : decode cX12_readsNumbers 88 = .ok (.istore 5, 2) := sorry
theorem dX12_readsNumbers_90 : decode cX12_readsNumbers 90 = .ok (.iconst 0, 1) := sorry
theorem dX12_readsNumbers_91 : decode cX12_readsNumbers 91 = .ok (.istore 6, 2) := sorry
theorem dX12_readsNumbers_93 : decode cX12_readsNumbers 93 = .ok (.iload_n 1, 1) := sorry
theorem dX12_readsNumbers_94 : decode cX12_readsNumbers 94 = .ok (.bipush 116, 2) := sorry
theorem dX12_readsNumbers_96 : decode cX12_readsNumbers 96 = .ok (.if_icmp .eq 68, 3) := sorry
theorem dX12_readsNumbers_99 : decode cX12_readsNumbers 99 = .ok (.aload_n 0, 1) := sorry
theorem dX12_readsNumbers_100 : decode cX12_readsNumbers 100 = .ok (.getfield 159, 3) := sorry
theorem dX12_readsNumbers_103 : decode cX12_readsNumbers 103 = .ok (.iload 5, 2) := sorry
theorem dX12_readsNumbers_105 : decode cX12_readsNumbers 105 = .ok (.iload_n 1, 1) := sorry
theorem dX12_readsNumbers_106 : decode cX12_readsNumbers 106 = .ok (.bipush 113, 2) := sorry
theorem dX12_readsNumbers_108 : decode cX12_readsNumbers 108 = .ok (.if_icmp .ne 7, 3) := sorry
theorem dX12_readsNumbers_111 : decode cX12_readsNumbers 111 = .ok (.iconst 1, 1) := sorry
theorem dX12_readsNumbers_112 : decode cX12_readsNumbers 112 = .ok (.goto 4, 3) := sorry
theorem dX12_readsNumbers_115 : decode cX12_readsNumbers 115 = .ok (.iconst 2, 1) := sorry
theorem dX12_readsNumbers_116 : decode cX12_readsNumbers 116 = .ok (.iadd, 1) := sorry
theorem dX12_readsNumbers_117 : decode cX12_readsNumbers 117 = .ok (.if_icmp .ge 47, 3) := sorry
theorem dX12_readsNumbers_120 : decode cX12_readsNumbers 120 = .ok (.aload_n 0, 1) := sorry
theorem dX12_readsNumbers_121 : decode cX12_readsNumbers 121 = .ok (.iload_n 2, 1) := sorry
theorem dX12_readsNumbers_122 : decode cX12_readsNumbers 122 = .ok (.iload_n 3, 1) := sorry
theorem dX12_readsNumbers_123 : decode cX12_readsNumbers 123 = .ok (.invokevirtual 169, 3) := sorry
theorem dX12_readsNumbers_126 : decode cX12_readsNumbers 126 = .ok (.ifCond .eq 38, 3) := sorry
theorem dX12_readsNumbers_129 : decode cX12_readsNumbers 129 = .ok (.bipush 10, 2) := sorry
theorem dX12_readsNumbers_131 : decode cX12_readsNumbers 131 = .ok (.iload 6, 2) := sorry
theorem dX12_readsNumbers_133 : decode cX12_readsNumbers 133 = .ok (.imul, 1) := sorry
theorem dX12_readsNumbers_134 : decode cX12_readsNumbers 134 = .ok (.aload_n 0, 1) := sorry
theorem dX12_readsNumbers_135 : decode cX12_readsNumbers 135 = .ok (.getfield 73, 3) := sorry
theorem dX12_readsNumbers_138 : decode cX12_readsNumbers 138 = .ok (.iload_n 2, 1) := sorry
theorem dX12_readsNumbers_139 : decode cX12_readsNumbers 139 = .ok (.aload_n 0, 1) := sorry
theorem dX12_readsNumbers_140 : decode cX12_readsNumbers 140 = .ok (.getfield 159, 3) := sorry
theorem dX12_readsNumbers_143 : decode cX12_readsNumbers 143 = .ok (.iadd, 1) := sorry
theorem dX12_readsNumbers_144 : decode cX12_readsNumbers 144 = .ok (.iaload, 1) := sorry
theorem dX12_readsNumbers_145 : decode cX12_readsNumbers 145 = .ok (.iadd, 1) := sorry
theorem dX12_readsNumbers_146 : decode cX12_readsNumbers 146 = .ok (.bipush 48, 2) := sorry
theorem dX12_readsNumbers_148 : decode cX12_readsNumbers 148 = .ok (.isub, 1) := sorry
theorem dX12_readsNumbers_149 : decode cX12_readsNumbers 149 = .ok (.istore 6, 2) := sorry
theorem dX12_readsNumbers_151 : decode cX12_readsNumbers 151 = .ok (.aload_n 0, 1) := sorry
theorem dX12_readsNumbers_152 : decode cX12_readsNumbers 152 = .ok (.dup, 1) := sorry
theorem dX12_readsNumbers_153 : decode cX12_readsNumbers 153 = .ok (.getfield 159, 3) := sorry
theorem dX12_readsNumbers_156 : decode cX12_readsNumbers 156 = .ok (.iconst 1, 1) := sorry
theorem dX12_readsNumbers_157 : decode cX12_readsNumbers 157 = .ok (.iadd, 1) := sorry
theorem dX12_readsNumbers_158 : decode cX12_readsNumbers 158 = .ok (.putfield 159, 3) := sorry
theorem dX12_readsNumbers_161 : decode cX12_readsNumbers 161 = .ok (.goto (-68), 3) := sorry
theorem dX12_readsNumbers_164 : decode cX12_readsNumbers 164 = .ok (.aload_n 0, 1) := sorry
theorem dX12_readsNumbers_165 : decode cX12_readsNumbers 165 = .ok (.getfield 22, 3) := sorry
theorem dX12_readsNumbers_168 : decode cX12_readsNumbers 168 = .ok (.iload 4, 2) := sorry
theorem dX12_readsNumbers_170 : decode cX12_readsNumbers 170 = .ok (.iload 6, 2) := sorry
theorem dX12_readsNumbers_172 : decode cX12_readsNumbers 172 = .ok (.iastore, 1) := sorry
theorem dX12_readsNumbers_173 : decode cX12_readsNumbers 173 = .ok (.iload_n 1, 1) := sorry
theorem dX12_readsNumbers_174 : decode cX12_readsNumbers 174 = .ok (.bipush 116, 2) := sorry
theorem dX12_readsNumbers_176 : decode cX12_readsNumbers 176 = .ok (.if_icmp .eq 40, 3) := sorry
theorem dX12_readsNumbers_179 : decode cX12_readsNumbers 179 = .ok (.iload 6, 2) := sorry
theorem dX12_readsNumbers_181 : decode cX12_readsNumbers 181 = .ok (.i2l, 1) := sorry
theorem dX12_readsNumbers_182 : decode cX12_readsNumbers 182 = .ok (.iload_n 1, 1) := sorry
theorem dX12_readsNumbers_183 : decode cX12_readsNumbers 183 = .ok (.bipush 113, 2) := sorry
theorem dX12_readsNumbers_185 : decode cX12_readsNumbers 185 = .ok (.if_icmp .ne 9, 3) := sorry
theorem dX12_readsNumbers_188 : decode cX12_readsNumbers 188 = .ok (.ldc2_w 97, 3) := sorry
theorem dX12_readsNumbers_191 : decode cX12_readsNumbers 191 = .ok (.goto 4, 3) := sorry
theorem dX12_readsNumbers_194 : decode cX12_readsNumbers 194 = .ok (.lconst 1, 1) := sorry
theorem dX12_readsNumbers_195 : decode cX12_readsNumbers 195 = .ok (.iload_n 1, 1) := sorry
theorem dX12_readsNumbers_196 : decode cX12_readsNumbers 196 = .ok (.bipush 113, 2) := sorry
theorem dX12_readsNumbers_198 : decode cX12_readsNumbers 198 = .ok (.if_icmp .ne 9, 3) := sorry
theorem dX12_readsNumbers_201 : decode cX12_readsNumbers 201 = .ok (.ldc2_w 172, 3) := sorry
theorem dX12_readsNumbers_204 : decode cX12_readsNumbers 204 = .ok (.goto 6, 3) := sorry
theorem dX12_readsNumbers_207 : decode cX12_readsNumbers 207 = .ok (.ldc2_w 126, 3) := sorry
theorem dX12_readsNumbers_210 : decode cX12_readsNumbers 210 = .ok (.invokestatic 99, 3) := sorry
theorem dX12_readsNumbers_213 : decode cX12_readsNumbers 213 = .ok (.ifCond .eq 7, 3) := sorry
theorem dX12_readsNumbers_216 : decode cX12_readsNumbers 216 = .ok (.iconst 1, 1) := sorry
theorem dX12_readsNumbers_217 : decode cX12_readsNumbers 217 = .ok (.goto 4, 3) := sorry
theorem dX12_readsNumbers_220 : decode cX12_readsNumbers 220 = .ok (.iconst 0, 1) := sorry
theorem dX12_readsNumbers_221 : decode cX12_readsNumbers 221 = .ok (.istore 7, 2) := sorry
theorem dX12_readsNumbers_223 : decode cX12_readsNumbers 223 = .ok (.aload_n 0, 1) := sorry
theorem dX12_readsNumbers_224 : decode cX12_readsNumbers 224 = .ok (.iload 7, 2) := sorry
theorem dX12_readsNumbers_226 : decode cX12_readsNumbers 226 = .ok (.ifCond .eq 10, 3) := sorry
theorem dX12_readsNumbers_229 : decode cX12_readsNumbers 229 = .ok (.aload_n 0, 1) := sorry
theorem dX12_readsNumbers_230 : decode cX12_readsNumbers 230 = .ok (.getfield 159, 3) := sorry
theorem dX12_readsNumbers_233 : decode cX12_readsNumbers 233 = .ok (.goto 5, 3) := sorry
theorem dX12_readsNumbers_236 : decode cX12_readsNumbers 236 = .ok (.iload 5, 2) := sorry
theorem dX12_readsNumbers_238 : decode cX12_readsNumbers 238 = .ok (.putfield 159, 3) := sorry
theorem dX12_readsNumbers_241 : decode cX12_readsNumbers 241 = .ok (.iload 7, 2) := sorry
theorem dX12_readsNumbers_243 : decode cX12_readsNumbers 243 = .ok (.ireturn, 1) := sorry
theorem dX12_readActs_0 : decode cX12_readActs 0 = .ok (.aload_n 0, 1) := sorry
theorem dX12_readActs_1 : decode cX12_readActs 1 = .ok (.iconst 0, 1) := sorry
theorem dX12_readActs_2 : decode cX12_readActs 2 = .ok (.putfield 166, 3) := sorry
theorem dX12_readActs_5 : decode cX12_readActs 5 = .ok (.aload_n 0, 1) := sorry
theorem dX12_readActs_6 : decode cX12_readActs 6 = .ok (.iconst 0, 1) := sorry
theorem dX12_readActs_7 : decode cX12_readActs 7 = .ok (.putfield 159, 3) := sorry
theorem dX12_readActs_10 : decode cX12_readActs 10 = .ok (.iconst 1, 1) := sorry
theorem dX12_readActs_11 : decode cX12_readActs 11 = .ok (.istore_n 3, 1) := sorry
theorem dX12_readActs_12 : decode cX12_readActs 12 = .ok (.iload_n 3, 1) := sorry
theorem dX12_readActs_13 : decode cX12_readActs 13 = .ok (.ifCond .eq 204, 3) := sorry
theorem dX12_readActs_16 : decode cX12_readActs 16 = .ok (.aload_n 0, 1) := sorry
theorem dX12_readActs_17 : decode cX12_readActs 17 = .ok (.getfield 159, 3) := sorry
theorem dX12_readActs_20 : decode cX12_readActs 20 = .ok (.iload_n 2, 1) := sorry
theorem dX12_readActs_21 : decode cX12_readActs 21 = .ok (.if_icmp .ge 17, 3) := sorry
theorem dX12_readActs_24 : decode cX12_readActs 24 = .ok (.aload_n 0, 1) := sorry
theorem dX12_readActs_25 : decode cX12_readActs 25 = .ok (.getfield 73, 3) := sorry
theorem dX12_readActs_28 : decode cX12_readActs 28 = .ok (.iload_n 1, 1) := sorry
theorem dX12_readActs_29 : decode cX12_readActs 29 = .ok (.aload_n 0, 1) := sorry
theorem dX12_readActs_30 : decode cX12_readActs 30 = .ok (.getfield 159, 3) := sorry
theorem dX12_readActs_33 : decode cX12_readActs 33 = .ok (.iadd, 1) := sorry
theorem dX12_readActs_34 : decode cX12_readActs 34 = .ok (.iaload, 1) := sorry
theorem dX12_readActs_35 : decode cX12_readActs 35 = .ok (.goto 4, 3) := sorry
theorem dX12_readActs_38 : decode cX12_readActs 38 = .ok (.iconst 0, 1) := sorry
theorem dX12_readActs_39 : decode cX12_readActs 39 = .ok (.istore 4, 2) := sorry
theorem dX12_readActs_41 : decode cX12_readActs 41 = .ok (.iload 4, 2) := sorry
theorem dX12_readActs_43 : decode cX12_readActs 43 = .ok (.bipush 99, 2) := sorry
theorem dX12_readActs_45 : decode cX12_readActs 45 = .ok (.if_icmp .eq 38, 3) := sorry
theorem dX12_readActs_48 : decode cX12_readActs 48 = .ok (.iload 4, 2) := sorry
theorem dX12_readActs_50 : decode cX12_readActs 50 = .ok (.bipush 98, 2) := sorry
theorem dX12_readActs_52 : decode cX12_readActs 52 = .ok (.if_icmp .eq 31, 3) := sorry
theorem dX12_readActs_55 : decode cX12_readActs 55 = .ok (.iload 4, 2) := sorry
theorem dX12_readActs_57 : decode cX12_readActs 57 = .ok (.bipush 116, 2) := sorry
theorem dX12_readActs_59 : decode cX12_readActs 59 = .ok (.if_icmp .eq 24, 3) := sorry
theorem dX12_readActs_62 : decode cX12_readActs 62 = .ok (.iload 4, 2) := sorry
theorem dX12_readActs_64 : decode cX12_readActs 64 = .ok (.bipush 108, 2) := sorry
theorem dX12_readActs_66 : decode cX12_readActs 66 = .ok (.if_icmp .eq 17, 3) := sorry
theorem dX12_readActs_69 : decode cX12_readActs 69 = .ok (.iload 4, 2) := sorry
theorem dX12_readActs_71 : decode cX12_readActs 71 = .ok (.bipush 109, 2) := sorry
theorem dX12_readActs_73 : decode cX12_readActs 73 = .ok (.if_icmp .eq 10, 3) := sorry
theorem dX12_readActs_76 : decode cX12_readActs 76 = .ok (.iload 4, 2) := sorry
theorem dX12_readActs_78 : decode cX12_readActs 78 = .ok (.bipush 113, 2) := sorry
theorem dX12_readActs_80 : decode cX12_readActs 80 = .ok (.if_icmp .ne 7, 3) := sorry
theorem dX12_readActs_83 : decode cX12_readActs 83 = .ok (.iconst 1, 1) := sorry
theorem dX12_readActs_84 : decode cX12_readActs 84 = .ok (.goto 4, 3) := sorry
theorem dX12_readActs_87 : decode cX12_readActs 87 = .ok (.iconst 0, 1) := sorry
theorem dX12_readActs_88 : decode cX12_readActs 88 = .ok (.istore 5, 2) := sorry
theorem dX12_readActs_90 : decode cX12_readActs 90 = .ok (.iload 5, 2) := sorry
theorem dX12_readActs_92 : decode cX12_readActs 92 = .ok (.ifCond .ne 8, 3) := sorry
theorem dX12_readActs_95 : decode cX12_readActs 95 = .ok (.aload_n 0, 1) := sorry
theorem dX12_readActs_96 : decode cX12_readActs 96 = .ok (.getfield 159, 3) := sorry
theorem dX12_readActs_99 : decode cX12_readActs 99 = .ok (.ireturn, 1) := sorry
theorem dX12_readActs_100 : decode cX12_readActs 100 = .ok (.aload_n 0, 1) := sorry
theorem dX12_readActs_101 : decode cX12_readActs 101 = .ok (.dup, 1) := sorry
theorem dX12_readActs_102 : decode cX12_readActs 102 = .ok (.getfield 159, 3) := sorry
theorem dX12_readActs_105 : decode cX12_readActs 105 = .ok (.iconst 1, 1) := sorry
theorem dX12_readActs_106 : decode cX12_readActs 106 = .ok (.iadd, 1) := sorry
theorem dX12_readActs_107 : decode cX12_readActs 107 = .ok (.putfield 159, 3) := sorry
theorem dX12_readActs_110 : decode cX12_readActs 110 = .ok (.aload_n 0, 1) := sorry
theorem dX12_readActs_111 : decode cX12_readActs 111 = .ok (.getfield 22, 3) := sorry
theorem dX12_readActs_114 : decode cX12_readActs 114 = .ok (.iconst 5, 1) := sorry
theorem dX12_readActs_115 : decode cX12_readActs 115 = .ok (.aload_n 0, 1) := sorry
theorem dX12_readActs_116 : decode cX12_readActs 116 = .ok (.getfield 166, 3) := sorry
theorem dX12_readActs_119 : decode cX12_readActs 119 = .ok (.imul, 1) := sorry
theorem dX12_readActs_120 : decode cX12_readActs 120 = .ok (.iload 4, 2) := sorry
theorem dX12_readActs_122 : decode cX12_readActs 122 = .ok (.iastore, 1) := sorry
theorem dX12_readActs_123 : decode cX12_readActs 123 = .ok (.aload_n 0, 1) := sorry
theorem dX12_readActs_124 : decode cX12_readActs 124 = .ok (.iload 4, 2) := sorry
theorem dX12_readActs_126 : decode cX12_readActs 126 = .ok (.iload_n 1, 1) := sorry
theorem dX12_readActs_127 : decode cX12_readActs 127 = .ok (.iload_n 2, 1) := sorry
theorem dX12_readActs_128 : decode cX12_readActs 128 = .ok (.invokevirtual 174, 3) := sorry
theorem dX12_readActs_131 : decode cX12_readActs 131 = .ok (.ifCond .ne 8, 3) := sorry
theorem dX12_readActs_134 : decode cX12_readActs 134 = .ok (.aload_n 0, 1) := sorry
theorem dX12_readActs_135 : decode cX12_readActs 135 = .ok (.getfield 159, 3) := sorry
theorem dX12_readActs_138 : decode cX12_readActs 138 = .ok (.ireturn, 1) := sorry
theorem dX12_readActs_139 : decode cX12_readActs 139 = .ok (.aload_n 0, 1) := sorry
theorem dX12_readActs_140 : decode cX12_readActs 140 = .ok (.dup, 1) := sorry
theorem dX12_readActs_141 : decode cX12_readActs 141 = .ok (.getfield 166, 3) := sorry
theorem dX12_readActs_144 : decode cX12_readActs 144 = .ok (.iconst 1, 1) := sorry
theorem dX12_readActs_145 : decode cX12_readActs 145 = .ok (.iadd, 1) := sorry
theorem dX12_readActs_146 : decode cX12_readActs 146 = .ok (.putfield 166, 3) := sorry
theorem dX12_readActs_149 : decode cX12_readActs 149 = .ok (.aload_n 0, 1) := sorry
theorem dX12_readActs_150 : decode cX12_readActs 150 = .ok (.getfield 159, 3) := sorry
theorem dX12_readActs_153 : decode cX12_readActs 153 = .ok (.iload_n 2, 1) := sorry
theorem dX12_readActs_154 : decode cX12_readActs 154 = .ok (.if_icmp .ge 7, 3) := sorry
theorem dX12_readActs_157 : decode cX12_readActs 157 = .ok (.iconst 1, 1) := sorry
theorem dX12_readActs_158 : decode cX12_readActs 158 = .ok (.goto 4, 3) := sorry
theorem dX12_readActs_161 : decode cX12_readActs 161 = .ok (.iconst 0, 1) := sorry
theorem dX12_readActs_162 : decode cX12_readActs 162 = .ok (.istore_n 3, 1) := sorry
theorem dX12_readActs_163 : decode cX12_readActs 163 = .ok (.iload_n 3, 1) := sorry
theorem dX12_readActs_164 : decode cX12_readActs 164 = .ok (.ifCond .eq 32, 3) := sorry
theorem dX12_readActs_167 : decode cX12_readActs 167 = .ok (.aload_n 0, 1) := sorry
theorem dX12_readActs_168 : decode cX12_readActs 168 = .ok (.getfield 73, 3) := sorry
theorem dX12_readActs_171 : decode cX12_readActs 171 = .ok (.iload_n 1, 1) := sorry
theorem dX12_readActs_172 : decode cX12_readActs 172 = .ok (.aload_n 0, 1) := sorry
theorem dX12_readActs_173 : decode cX12_readActs 173 = .ok (.getfield 159, 3) := sorry
theorem dX12_readActs_176 : decode cX12_readActs 176 = .ok (.iadd, 1) := sorry
theorem dX12_readActs_177 : decode cX12_readActs 177 = .ok (.iaload, 1) := sorry
theorem dX12_readActs_178 : decode cX12_readActs 178 = .ok (.bipush 59, 2) := sorry
theorem dX12_readActs_180 : decode cX12_readActs 180 = .ok (.if_icmp .ne 11, 3) := sorry
theorem dX12_readActs_183 : decode cX12_readActs 183 = .ok (.aload_n 0, 1) := sorry
theorem dX12_readActs_184 : decode cX12_readActs 184 = .ok (.getfield 166, 3) := sorry
theorem dX12_readActs_187 : decode cX12_readActs 187 = .ok (.iconst 5, 1) := sorry
theorem dX12_readActs_188 : decode cX12_readActs 188 = .ok (.if_icmp .ne 8, 3) := sorry
theorem dX12_readActs_191 : decode cX12_readActs 191 = .ok (.aload_n 0, 1) := sorry
theorem dX12_readActs_192 : decode cX12_readActs 192 = .ok (.getfield 159, 3) := sorry
theorem dX12_readActs_195 : decode cX12_readActs 195 = .ok (.ireturn, 1) := sorry
theorem dX12_readActs_196 : decode cX12_readActs 196 = .ok (.aload_n 0, 1) := sorry
theorem dX12_readActs_197 : decode cX12_readActs 197 = .ok (.dup, 1) := sorry
theorem dX12_readActs_198 : decode cX12_readActs 198 = .ok (.getfield 159, 3) := sorry
theorem dX12_readActs_201 : decode cX12_readActs 201 = .ok (.iload_n 3, 1) := sorry
theorem dX12_readActs_202 : decode cX12_readActs 202 = .ok (.ifCond .eq 7, 3) := sorry
theorem dX12_readActs_205 : decode cX12_readActs 205 = .ok (.iconst 1, 1) := sorry
theorem dX12_readActs_206 : decode cX12_readActs 206 = .ok (.goto 4, 3) := sorry
theorem dX12_readActs_209 : decode cX12_readActs 209 = .ok (.iconst 0, 1) := sorry
theorem dX12_readActs_210 : decode cX12_readActs 210 = .ok (.iadd, 1) := sorry
theorem dX12_readActs_211 : decode cX12_readActs 211 = .ok (.putfield 159, 3) := sorry
theorem dX12_readActs_214 : decode cX12_readActs 214 = .ok (.goto (-202), 3) := sorry
theorem dX12_readActs_217 : decode cX12_readActs 217 = .ok (.iconst (-1), 1) := sorry
theorem dX12_readActs_218 : decode cX12_readActs 218 = .ok (.ireturn, 1) := sorry
theorem dX12_takeInHand_0 : decode cX12_takeInHand 0 = .ok (.aload_n 0, 1) := sorry
theorem dX12_takeInHand_1 : decode cX12_takeInHand 1 = .ok (.aload_n 0, 1) := sorry
theorem dX12_takeInHand_2 : decode cX12_takeInHand 2 = .ok (.getfield 7, 3) := sorry
theorem dX12_takeInHand_5 : decode cX12_takeInHand 5 = .ok (.iload_n 1, 1) := sorry
theorem dX12_takeInHand_6 : decode cX12_takeInHand 6 = .ok (.iaload, 1) := sorry
theorem dX12_takeInHand_7 : decode cX12_takeInHand 7 = .ok (.putfield 178, 3) := sorry
theorem dX12_takeInHand_10 : decode cX12_takeInHand 10 = .ok (.aload_n 0, 1) := sorry
theorem dX12_takeInHand_11 : decode cX12_takeInHand 11 = .ok (.aload_n 0, 1) := sorry
theorem dX12_takeInHand_12 : decode cX12_takeInHand 12 = .ok (.getfield 13, 3) := sorry
theorem dX12_takeInHand_15 : decode cX12_takeInHand 15 = .ok (.iload_n 1, 1) := sorry
theorem dX12_takeInHand_16 : decode cX12_takeInHand 16 = .ok (.iaload, 1) := sorry
theorem dX12_takeInHand_17 : decode cX12_takeInHand 17 = .ok (.putfield 181, 3) := sorry
theorem dX12_takeInHand_20 : decode cX12_takeInHand 20 = .ok (.iconst 0, 1) := sorry
theorem dX12_takeInHand_21 : decode cX12_takeInHand 21 = .ok (.istore_n 2, 1) := sorry
theorem dX12_takeInHand_22 : decode cX12_takeInHand 22 = .ok (.iload_n 2, 1) := sorry
theorem dX12_takeInHand_23 : decode cX12_takeInHand 23 = .ok (.bipush 16, 2) := sorry
theorem dX12_takeInHand_25 : decode cX12_takeInHand 25 = .ok (.if_icmp .ge 26, 3) := sorry
theorem dX12_takeInHand_28 : decode cX12_takeInHand 28 = .ok (.aload_n 0, 1) := sorry
theorem dX12_takeInHand_29 : decode cX12_takeInHand 29 = .ok (.getfield 25, 3) := sorry
theorem dX12_takeInHand_32 : decode cX12_takeInHand 32 = .ok (.iload_n 2, 1) := sorry
theorem dX12_takeInHand_33 : decode cX12_takeInHand 33 = .ok (.aload_n 0, 1) := sorry
theorem dX12_takeInHand_34 : decode cX12_takeInHand 34 = .ok (.getfield 16, 3) := sorry
theorem dX12_takeInHand_37 : decode cX12_takeInHand 37 = .ok (.bipush 16, 2) := sorry
theorem dX12_takeInHand_39 : decode cX12_takeInHand 39 = .ok (.iload_n 1, 1) := sorry
theorem dX12_takeInHand_40 : decode cX12_takeInHand 40 = .ok (.imul, 1) := sorry
theorem dX12_takeInHand_41 : decode cX12_takeInHand 41 = .ok (.iload_n 2, 1) := sorry
theorem dX12_takeInHand_42 : decode cX12_takeInHand 42 = .ok (.iadd, 1) := sorry
theorem dX12_takeInHand_43 : decode cX12_takeInHand 43 = .ok (.iaload, 1) := sorry
theorem dX12_takeInHand_44 : decode cX12_takeInHand 44 = .ok (.iastore, 1) := sorry
theorem dX12_takeInHand_45 : decode cX12_takeInHand 45 = .ok (.iinc 2 1, 3) := sorry
theorem dX12_takeInHand_48 : decode cX12_takeInHand 48 = .ok (.goto (-26), 3) := sorry
theorem dX12_takeInHand_51 : decode cX12_takeInHand 51 = .ok (.return_, 1) := sorry
theorem dX12_doPart_0 : decode cX12_doPart 0 = .ok (.aload_n 1, 1) := sorry
theorem dX12_doPart_1 : decode cX12_doPart 1 = .ok (.iload_n 2, 1) := sorry
theorem dX12_doPart_2 : decode cX12_doPart 2 = .ok (.iconst 1, 1) := sorry
theorem dX12_doPart_3 : decode cX12_doPart 3 = .ok (.iadd, 1) := sorry
theorem dX12_doPart_4 : decode cX12_doPart 4 = .ok (.iaload, 1) := sorry
theorem dX12_doPart_5 : decode cX12_doPart 5 = .ok (.istore_n 3, 1) := sorry
theorem dX12_doPart_6 : decode cX12_doPart 6 = .ok (.aload_n 1, 1) := sorry
theorem dX12_doPart_7 : decode cX12_doPart 7 = .ok (.iload_n 2, 1) := sorry
theorem dX12_doPart_8 : decode cX12_doPart 8 = .ok (.iconst 2, 1) := sorry
theorem dX12_doPart_9 : decode cX12_doPart 9 = .ok (.iadd, 1) := sorry
theorem dX12_doPart_10 : decode cX12_doPart 10 = .ok (.iaload, 1) := sorry
theorem dX12_doPart_11 : decode cX12_doPart 11 = .ok (.istore 4, 2) := sorry
theorem dX12_doPart_13 : decode cX12_doPart 13 = .ok (.aload_n 1, 1) := sorry
theorem dX12_doPart_14 : decode cX12_doPart 14 = .ok (.iload_n 2, 1) := sorry
theorem dX12_doPart_15 : decode cX12_doPart 15 = .ok (.iconst 3, 1) := sorry
theorem dX12_doPart_16 : decode cX12_doPart 16 = .ok (.iadd, 1) := sorry
theorem dX12_doPart_17 : decode cX12_doPart 17 = .ok (.iaload, 1) := sorry
theorem dX12_doPart_18 : decode cX12_doPart 18 = .ok (.istore 5, 2) := sorry
theorem dX12_doPart_20 : decode cX12_doPart 20 = .ok (.aload_n 1, 1) := sorry
theorem dX12_doPart_21 : decode cX12_doPart 21 = .ok (.iload_n 2, 1) := sorry
theorem dX12_doPart_22 : decode cX12_doPart 22 = .ok (.iconst 4, 1) := sorry
theorem dX12_doPart_23 : decode cX12_doPart 23 = .ok (.iadd, 1) := sorry
theorem dX12_doPart_24 : decode cX12_doPart 24 = .ok (.iaload, 1) := sorry
theorem dX12_doPart_25 : decode cX12_doPart 25 = .ok (.istore 6, 2) := sorry
theorem dX12_doPart_27 : decode cX12_doPart 27 = .ok (.iload 5, 2) := sorry
theorem dX12_doPart_29 : decode cX12_doPart 29 = .ok (.iconst 1, 1) := sorry
theorem dX12_doPart_30 : decode cX12_doPart 30 = .ok (.if_icmp .lt 32, 3) := sorry
theorem dX12_doPart_33 : decode cX12_doPart 33 = .ok (.iload 6, 2) := sorry
theorem dX12_doPart_35 : decode cX12_doPart 35 = .ok (.iconst 1, 1) := sorry
theorem dX12_doPart_36 : decode cX12_doPart 36 = .ok (.if_icmp .lt 26, 3) := sorry
theorem dX12_doPart_39 : decode cX12_doPart 39 = .ok (.iload_n 3, 1) := sorry
theorem dX12_doPart_40 : decode cX12_doPart 40 = .ok (.iload 5, 2) := sorry
theorem dX12_doPart_42 : decode cX12_doPart 42 = .ok (.iadd, 1) := sorry
theorem dX12_doPart_43 : decode cX12_doPart 43 = .ok (.aload_n 0, 1) := sorry
theorem dX12_doPart_44 : decode cX12_doPart 44 = .ok (.getfield 178, 3) := sorry
theorem dX12_doPart_47 : decode cX12_doPart 47 = .ok (.if_icmp .gt 15, 3) := sorry
theorem dX12_doPart_50 : decode cX12_doPart 50 = .ok (.iload 4, 2) := sorry
theorem dX12_doPart_52 : decode cX12_doPart 52 = .ok (.iload 6, 2) := sorry
theorem dX12_doPart_54 : decode cX12_doPart 54 = .ok (.iadd, 1) := sorry
theorem dX12_doPart_55 : decode cX12_doPart 55 = .ok (.aload_n 0, 1) := sorry
theorem dX12_doPart_56 : decode cX12_doPart 56 = .ok (.getfield 181, 3) := sorry
theorem dX12_doPart_59 : decode cX12_doPart 59 = .ok (.if_icmp .le 5, 3) := sorry
theorem dX12_doPart_62 : decode cX12_doPart 62 = .ok (.iconst 0, 1) := sorry
theorem dX12_doPart_63 : decode cX12_doPart 63 = .ok (.ireturn, 1) := sorry
theorem dX12_doPart_64 : decode cX12_doPart 64 = .ok (.iconst 0, 1) := sorry
theorem dX12_doPart_65 : decode cX12_doPart 65 = .ok (.istore 7, 2) := sorry
theorem dX12_doPart_67 : decode cX12_doPart 67 = .ok (.iconst 0, 1) := sorry
theorem dX12_doPart_68 : decode cX12_doPart 68 = .ok (.istore 8, 2) := sorry
theorem dX12_doPart_70 : decode cX12_doPart 70 = .ok (.iload 8, 2) := sorry
theorem dX12_doPart_72 : decode cX12_doPart 72 = .ok (.iload 5, 2) := sorry
theorem dX12_doPart_74 : decode cX12_doPart 74 = .ok (.iload 6, 2) := sorry
theorem dX12_doPart_76 : decode cX12_doPart 76 = .ok (.imul, 1) := sorry
theorem dX12_doPart_77 : decode cX12_doPart 77 = .ok (.if_icmp .ge 37, 3) := sorry
theorem dX12_doPart_80 : decode cX12_doPart 80 = .ok (.iload 7, 2) := sorry
theorem dX12_doPart_82 : decode cX12_doPart 82 = .ok (.aload_n 0, 1) := sorry
theorem dX12_doPart_83 : decode cX12_doPart 83 = .ok (.getfield 25, 3) := sorry
theorem dX12_doPart_86 : decode cX12_doPart 86 = .ok (.iload_n 3, 1) := sorry
theorem dX12_doPart_87 : decode cX12_doPart 87 = .ok (.iload 8, 2) := sorry
theorem dX12_doPart_89 : decode cX12_doPart 89 = .ok (.iload 5, 2) := sorry
theorem dX12_doPart_91 : decode cX12_doPart 91 = .ok (.irem, 1) := sorry
theorem dX12_doPart_92 : decode cX12_doPart 92 = .ok (.iadd, 1) := sorry
theorem dX12_doPart_93 : decode cX12_doPart 93 = .ok (.iconst 4, 1) := sorry
theorem dX12_doPart_94 : decode cX12_doPart 94 = .ok (.iload 4, 2) := sorry
theorem dX12_doPart_96 : decode cX12_doPart 96 = .ok (.iload 8, 2) := sorry
theorem dX12_doPart_98 : decode cX12_doPart 98 = .ok (.iload 5, 2) := sorry
theorem dX12_doPart_100 : decode cX12_doPart 100 = .ok (.idiv, 1) := sorry
theorem dX12_doPart_101 : decode cX12_doPart 101 = .ok (.iadd, 1) := sorry
theorem dX12_doPart_102 : decode cX12_doPart 102 = .ok (.imul, 1) := sorry
theorem dX12_doPart_103 : decode cX12_doPart 103 = .ok (.iadd, 1) := sorry
theorem dX12_doPart_104 : decode cX12_doPart 104 = .ok (.iaload, 1) := sorry
theorem dX12_doPart_105 : decode cX12_doPart 105 = .ok (.iadd, 1) := sorry
theorem dX12_doPart_106 : decode cX12_doPart 106 = .ok (.istore 7, 2) := sorry
theorem dX12_doPart_108 : decode cX12_doPart 108 = .ok (.iinc 8 1, 3) := sorry
theorem dX12_doPart_111 : decode cX12_doPart 111 = .ok (.goto (-41), 3) := sorry
theorem dX12_doPart_114 : decode cX12_doPart 114 = .ok (.iconst 0, 1) := sorry
theorem dX12_doPart_115 : decode cX12_doPart 115 = .ok (.istore 8, 2) := sorry
theorem dX12_doPart_117 : decode cX12_doPart 117 = .ok (.iload 8, 2) := sorry
theorem dX12_doPart_119 : decode cX12_doPart 119 = .ok (.iload 5, 2) := sorry
theorem dX12_doPart_121 : decode cX12_doPart 121 = .ok (.iload 6, 2) := sorry
theorem dX12_doPart_123 : decode cX12_doPart 123 = .ok (.imul, 1) := sorry
theorem dX12_doPart_124 : decode cX12_doPart 124 = .ok (.if_icmp .ge 80, 3) := sorry
theorem dX12_doPart_127 : decode cX12_doPart 127 = .ok (.iload_n 3, 1) := sorry
theorem dX12_doPart_128 : decode cX12_doPart 128 = .ok (.iload 8, 2) := sorry
theorem dX12_doPart_130 : decode cX12_doPart 130 = .ok (.iload 5, 2) := sorry
theorem dX12_doPart_132 : decode cX12_doPart 132 = .ok (.irem, 1) := sorry
theorem dX12_doPart_133 : decode cX12_doPart 133 = .ok (.iadd, 1) := sorry
theorem dX12_doPart_134 : decode cX12_doPart 134 = .ok (.iconst 4, 1) := sorry
theorem dX12_doPart_135 : decode cX12_doPart 135 = .ok (.iload 4, 2) := sorry
theorem dX12_doPart_137 : decode cX12_doPart 137 = .ok (.iload 8, 2) := sorry
theorem dX12_doPart_139 : decode cX12_doPart 139 = .ok (.iload 5, 2) := sorry
theorem dX12_doPart_141 : decode cX12_doPart 141 = .ok (.idiv, 1) := sorry
theorem dX12_doPart_142 : decode cX12_doPart 142 = .ok (.iadd, 1) := sorry
theorem dX12_doPart_143 : decode cX12_doPart 143 = .ok (.imul, 1) := sorry
theorem dX12_doPart_144 : decode cX12_doPart 144 = .ok (.iadd, 1) := sorry
theorem dX12_doPart_145 : decode cX12_doPart 145 = .ok (.istore 9, 2) := sorry
theorem dX12_doPart_147 : decode cX12_doPart 147 = .ok (.aload_n 1, 1) := sorry
theorem dX12_doPart_148 : decode cX12_doPart 148 = .ok (.iload_n 2, 1) := sorry
theorem dX12_doPart_149 : decode cX12_doPart 149 = .ok (.iaload, 1) := sorry
theorem dX12_doPart_150 : decode cX12_doPart 150 = .ok (.bipush 98, 2) := sorry
theorem dX12_doPart_152 : decode cX12_doPart 152 = .ok (.if_icmp .ne 21, 3) := sorry
theorem dX12_doPart_155 : decode cX12_doPart 155 = .ok (.aload_n 0, 1) := sorry
theorem dX12_doPart_156 : decode cX12_doPart 156 = .ok (.getfield 25, 3) := sorry
theorem dX12_doPart_159 : decode cX12_doPart 159 = .ok (.iload 9, 2) := sorry
theorem dX12_doPart_161 : decode cX12_doPart 161 = .ok (.iload 7, 2) := sorry
theorem dX12_doPart_163 : decode cX12_doPart 163 = .ok (.iload 5, 2) := sorry
theorem dX12_doPart_165 : decode cX12_doPart 165 = .ok (.iload 6, 2) := sorry
theorem dX12_doPart_167 : decode cX12_doPart 167 = .ok (.imul, 1) := sorry
theorem dX12_doPart_168 : decode cX12_doPart 168 = .ok (.idiv, 1) := sorry
theorem dX12_doPart_169 : decode cX12_doPart 169 = .ok (.iastore, 1) := sorry
theorem dX12_doPart_170 : decode cX12_doPart 170 = .ok (.goto 28, 3) := sorry
theorem dX12_doPart_173 : decode cX12_doPart 173 = .ok (.aload_n 0, 1) := sorry
theorem dX12_doPart_174 : decode cX12_doPart 174 = .ok (.getfield 25, 3) := sorry
theorem dX12_doPart_177 : decode cX12_doPart 177 = .ok (.iload 8, 2) := sorry
theorem dX12_doPart_179 : decode cX12_doPart 179 = .ok (.iload 5, 2) := sorry
theorem dX12_doPart_181 : decode cX12_doPart 181 = .ok (.irem, 1) := sorry
theorem dX12_doPart_182 : decode cX12_doPart 182 = .ok (.iconst 4, 1) := sorry
theorem dX12_doPart_183 : decode cX12_doPart 183 = .ok (.iload 8, 2) := sorry
theorem dX12_doPart_185 : decode cX12_doPart 185 = .ok (.iload 5, 2) := sorry
theorem dX12_doPart_187 : decode cX12_doPart 187 = .ok (.idiv, 1) := sorry
theorem dX12_doPart_188 : decode cX12_doPart 188 = .ok (.imul, 1) := sorry
theorem dX12_doPart_189 : decode cX12_doPart 189 = .ok (.iadd, 1) := sorry
theorem dX12_doPart_190 : decode cX12_doPart 190 = .ok (.aload_n 0, 1) := sorry
theorem dX12_doPart_191 : decode cX12_doPart 191 = .ok (.getfield 25, 3) := sorry
theorem dX12_doPart_194 : decode cX12_doPart 194 = .ok (.iload 9, 2) := sorry
theorem dX12_doPart_196 : decode cX12_doPart 196 = .ok (.iaload, 1) := sorry
theorem dX12_doPart_197 : decode cX12_doPart 197 = .ok (.iastore, 1) := sorry
theorem dX12_doPart_198 : decode cX12_doPart 198 = .ok (.iinc 8 1, 3) := sorry
theorem dX12_doPart_201 : decode cX12_doPart 201 = .ok (.goto (-84), 3) := sorry
theorem dX12_doPart_204 : decode cX12_doPart 204 = .ok (.aload_n 0, 1) := sorry
theorem dX12_doPart_205 : decode cX12_doPart 205 = .ok (.aload_n 1, 1) := sorry
theorem dX12_doPart_206 : decode cX12_doPart 206 = .ok (.iload_n 2, 1) := sorry
theorem dX12_doPart_207 : decode cX12_doPart 207 = .ok (.iaload, 1) := sorry
theorem dX12_doPart_208 : decode cX12_doPart 208 = .ok (.bipush 98, 2) := sorry
theorem dX12_doPart_210 : decode cX12_doPart 210 = .ok (.if_icmp .ne 10, 3) := sorry
theorem dX12_doPart_213 : decode cX12_doPart 213 = .ok (.aload_n 0, 1) := sorry
theorem dX12_doPart_214 : decode cX12_doPart 214 = .ok (.getfield 178, 3) := sorry
theorem dX12_doPart_217 : decode cX12_doPart 217 = .ok (.goto 5, 3) := sorry
theorem dX12_doPart_220 : decode cX12_doPart 220 = .ok (.iload 5, 2) := sorry
theorem dX12_doPart_222 : decode cX12_doPart 222 = .ok (.putfield 178, 3) := sorry
theorem dX12_doPart_225 : decode cX12_doPart 225 = .ok (.aload_n 0, 1) := sorry
theorem dX12_doPart_226 : decode cX12_doPart 226 = .ok (.aload_n 1, 1) := sorry
theorem dX12_doPart_227 : decode cX12_doPart 227 = .ok (.iload_n 2, 1) := sorry
theorem dX12_doPart_228 : decode cX12_doPart 228 = .ok (.iaload, 1) := sorry
theorem dX12_doPart_229 : decode cX12_doPart 229 = .ok (.bipush 98, 2) := sorry
theorem dX12_doPart_231 : decode cX12_doPart 231 = .ok (.if_icmp .ne 10, 3) := sorry
theorem dX12_doPart_234 : decode cX12_doPart 234 = .ok (.aload_n 0, 1) := sorry
theorem dX12_doPart_235 : decode cX12_doPart 235 = .ok (.getfield 181, 3) := sorry
theorem dX12_doPart_238 : decode cX12_doPart 238 = .ok (.goto 5, 3) := sorry
theorem dX12_doPart_241 : decode cX12_doPart 241 = .ok (.iload 6, 2) := sorry
theorem dX12_doPart_243 : decode cX12_doPart 243 = .ok (.putfield 181, 3) := sorry
theorem dX12_doPart_246 : decode cX12_doPart 246 = .ok (.iconst 1, 1) := sorry
theorem dX12_doPart_247 : decode cX12_doPart 247 = .ok (.ireturn, 1) := sorry
theorem dX12_turn_0 : decode cX12_turn 0 = .ok (.iconst 0, 1) := sorry
theorem dX12_turn_1 : decode cX12_turn 1 = .ok (.istore_n 1, 1) := sorry
theorem dX12_turn_2 : decode cX12_turn 2 = .ok (.iload_n 1, 1) := sorry
theorem dX12_turn_3 : decode cX12_turn 3 = .ok (.bipush 16, 2) := sorry
theorem dX12_turn_5 : decode cX12_turn 5 = .ok (.if_icmp .ge 21, 3) := sorry
theorem dX12_turn_8 : decode cX12_turn 8 = .ok (.aload_n 0, 1) := sorry
theorem dX12_turn_9 : decode cX12_turn 9 = .ok (.getfield 28, 3) := sorry
theorem dX12_turn_12 : decode cX12_turn 12 = .ok (.iload_n 1, 1) := sorry
theorem dX12_turn_13 : decode cX12_turn 13 = .ok (.aload_n 0, 1) := sorry
theorem dX12_turn_14 : decode cX12_turn 14 = .ok (.getfield 25, 3) := sorry
theorem dX12_turn_17 : decode cX12_turn 17 = .ok (.iload_n 1, 1) := sorry
theorem dX12_turn_18 : decode cX12_turn 18 = .ok (.iaload, 1) := sorry
theorem dX12_turn_19 : decode cX12_turn 19 = .ok (.iastore, 1) := sorry
theorem dX12_turn_20 : decode cX12_turn 20 = .ok (.iinc 1 1, 3) := sorry
theorem dX12_turn_23 : decode cX12_turn 23 = .ok (.goto (-21), 3) := sorry
theorem dX12_turn_26 : decode cX12_turn 26 = .ok (.aload_n 0, 1) := sorry
theorem dX12_turn_27 : decode cX12_turn 27 = .ok (.getfield 181, 3) := sorry
theorem dX12_turn_30 : decode cX12_turn 30 = .ok (.istore_n 1, 1) := sorry
theorem dX12_turn_31 : decode cX12_turn 31 = .ok (.aload_n 0, 1) := sorry
theorem dX12_turn_32 : decode cX12_turn 32 = .ok (.getfield 178, 3) := sorry
theorem dX12_turn_35 : decode cX12_turn 35 = .ok (.istore_n 2, 1) := sorry
theorem dX12_turn_36 : decode cX12_turn 36 = .ok (.iconst 0, 1) := sorry
theorem dX12_turn_37 : decode cX12_turn 37 = .ok (.istore_n 3, 1) := sorry
theorem dX12_turn_38 : decode cX12_turn 38 = .ok (.iload_n 3, 1) := sorry
theorem dX12_turn_39 : decode cX12_turn 39 = .ok (.iload_n 1, 1) := sorry
theorem dX12_turn_40 : decode cX12_turn 40 = .ok (.iload_n 2, 1) := sorry
theorem dX12_turn_41 : decode cX12_turn 41 = .ok (.imul, 1) := sorry
theorem dX12_turn_42 : decode cX12_turn 42 = .ok (.if_icmp .ge 50, 3) := sorry
theorem dX12_turn_45 : decode cX12_turn 45 = .ok (.iload_n 3, 1) := sorry
theorem dX12_turn_46 : decode cX12_turn 46 = .ok (.iload_n 1, 1) := sorry
theorem dX12_turn_47 : decode cX12_turn 47 = .ok (.irem, 1) := sorry
theorem dX12_turn_48 : decode cX12_turn 48 = .ok (.istore 4, 2) := sorry
theorem dX12_turn_50 : decode cX12_turn 50 = .ok (.iload_n 3, 1) := sorry
theorem dX12_turn_51 : decode cX12_turn 51 = .ok (.iload_n 1, 1) := sorry
theorem dX12_turn_52 : decode cX12_turn 52 = .ok (.idiv, 1) := sorry
theorem dX12_turn_53 : decode cX12_turn 53 = .ok (.istore 5, 2) := sorry
theorem dX12_turn_55 : decode cX12_turn 55 = .ok (.aload_n 0, 1) := sorry
theorem dX12_turn_56 : decode cX12_turn 56 = .ok (.getfield 25, 3) := sorry
theorem dX12_turn_59 : decode cX12_turn 59 = .ok (.iload 4, 2) := sorry
theorem dX12_turn_61 : decode cX12_turn 61 = .ok (.iconst 4, 1) := sorry
theorem dX12_turn_62 : decode cX12_turn 62 = .ok (.iload 5, 2) := sorry
theorem dX12_turn_64 : decode cX12_turn 64 = .ok (.imul, 1) := sorry
theorem dX12_turn_65 : decode cX12_turn 65 = .ok (.iadd, 1) := sorry
theorem dX12_turn_66 : decode cX12_turn 66 = .ok (.aload_n 0, 1) := sorry
theorem dX12_turn_67 : decode cX12_turn 67 = .ok (.getfield 28, 3) := sorry
theorem dX12_turn_70 : decode cX12_turn 70 = .ok (.iload 5, 2) := sorry
theorem dX12_turn_72 : decode cX12_turn 72 = .ok (.iconst 4, 1) := sorry
theorem dX12_turn_73 : decode cX12_turn 73 = .ok (.aload_n 0, 1) := sorry
theorem dX12_turn_74 : decode cX12_turn 74 = .ok (.getfield 181, 3) := sorry
theorem dX12_turn_77 : decode cX12_turn 77 = .ok (.iconst 1, 1) := sorry
theorem dX12_turn_78 : decode cX12_turn 78 = .ok (.isub, 1) := sorry
theorem dX12_turn_79 : decode cX12_turn 79 = .ok (.iload 4, 2) := sorry
theorem dX12_turn_81 : decode cX12_turn 81 = .ok (.isub, 1) := sorry
theorem dX12_turn_82 : decode cX12_turn 82 = .ok (.imul, 1) := sorry
theorem dX12_turn_83 : decode cX12_turn 83 = .ok (.iadd, 1) := sorry
theorem dX12_turn_84 : decode cX12_turn 84 = .ok (.iaload, 1) := sorry
theorem dX12_turn_85 : decode cX12_turn 85 = .ok (.iastore, 1) := sorry
theorem dX12_turn_86 : decode cX12_turn 86 = .ok (.iinc 3 1, 3) := sorry
theorem dX12_turn_89 : decode cX12_turn 89 = .ok (.goto (-51), 3) := sorry
theorem dX12_turn_92 : decode cX12_turn 92 = .ok (.aload_n 0, 1) := sorry
theorem dX12_turn_93 : decode cX12_turn 93 = .ok (.iload_n 1, 1) := sorry
theorem dX12_turn_94 : decode cX12_turn 94 = .ok (.putfield 178, 3) := sorry
theorem dX12_turn_97 : decode cX12_turn 97 = .ok (.aload_n 0, 1) := sorry
theorem dX12_turn_98 : decode cX12_turn 98 = .ok (.iload_n 2, 1) := sorry
theorem dX12_turn_99 : decode cX12_turn 99 = .ok (.putfield 181, 3) := sorry
theorem dX12_turn_102 : decode cX12_turn 102 = .ok (.return_, 1) := sorry
theorem dX12_tinted_0 : decode cX12_tinted 0 = .ok (.iload_n 1, 1) := sorry
theorem dX12_tinted_1 : decode cX12_tinted 1 = .ok (.bipush 108, 2) := sorry
theorem dX12_tinted_3 : decode cX12_tinted 3 = .ok (.if_icmp .ne 14, 3) := sorry
theorem dX12_tinted_6 : decode cX12_tinted 6 = .ok (.bipush 99, 2) := sorry
theorem dX12_tinted_8 : decode cX12_tinted 8 = .ok (.iload_n 0, 1) := sorry
theorem dX12_tinted_9 : decode cX12_tinted 9 = .ok (.iload_n 2, 1) := sorry
theorem dX12_tinted_10 : decode cX12_tinted 10 = .ok (.iadd, 1) := sorry
theorem dX12_tinted_11 : decode cX12_tinted 11 = .ok (.invokestatic 184, 3) := sorry
theorem dX12_tinted_14 : decode cX12_tinted 14 = .ok (.goto 24, 3) := sorry
theorem dX12_tinted_17 : decode cX12_tinted 17 = .ok (.iload_n 1, 1) := sorry
theorem dX12_tinted_18 : decode cX12_tinted 18 = .ok (.bipush 109, 2) := sorry
theorem dX12_tinted_20 : decode cX12_tinted 20 = .ok (.if_icmp .ne 13, 3) := sorry
theorem dX12_tinted_23 : decode cX12_tinted 23 = .ok (.iconst 0, 1) := sorry
theorem dX12_tinted_24 : decode cX12_tinted 24 = .ok (.iload_n 0, 1) := sorry
theorem dX12_tinted_25 : decode cX12_tinted 25 = .ok (.iload_n 2, 1) := sorry
theorem dX12_tinted_26 : decode cX12_tinted 26 = .ok (.isub, 1) := sorry
theorem dX12_tinted_27 : decode cX12_tinted 27 = .ok (.invokestatic 187, 3) := sorry
theorem dX12_tinted_30 : decode cX12_tinted 30 = .ok (.goto 8, 3) := sorry
theorem dX12_tinted_33 : decode cX12_tinted 33 = .ok (.iload_n 0, 1) := sorry
theorem dX12_tinted_34 : decode cX12_tinted 34 = .ok (.iload_n 2, 1) := sorry
theorem dX12_tinted_35 : decode cX12_tinted 35 = .ok (.idiv, 1) := sorry
theorem dX12_tinted_36 : decode cX12_tinted 36 = .ok (.iload_n 2, 1) := sorry
theorem dX12_tinted_37 : decode cX12_tinted 37 = .ok (.imul, 1) := sorry
theorem dX12_tinted_38 : decode cX12_tinted 38 = .ok (.ireturn, 1) := sorry
theorem dX12_doActs_0 : decode cX12_doActs 0 = .ok (.iconst 0, 1) := sorry
theorem dX12_doActs_1 : decode cX12_doActs 1 = .ok (.istore 4, 2) := sorry
theorem dX12_doActs_3 : decode cX12_doActs 3 = .ok (.iload 4, 2) := sorry
theorem dX12_doActs_5 : decode cX12_doActs 5 = .ok (.iload_n 3, 1) := sorry
theorem dX12_doActs_6 : decode cX12_doActs 6 = .ok (.if_icmp .ge 104, 3) := sorry
theorem dX12_doActs_9 : decode cX12_doActs 9 = .ok (.iload_n 2, 1) := sorry
theorem dX12_doActs_10 : decode cX12_doActs 10 = .ok (.iconst 5, 1) := sorry
theorem dX12_doActs_11 : decode cX12_doActs 11 = .ok (.iload 4, 2) := sorry
theorem dX12_doActs_13 : decode cX12_doActs 13 = .ok (.imul, 1) := sorry
theorem dX12_doActs_14 : decode cX12_doActs 14 = .ok (.iadd, 1) := sorry
theorem dX12_doActs_15 : decode cX12_doActs 15 = .ok (.istore 5, 2) := sorry
theorem dX12_doActs_17 : decode cX12_doActs 17 = .ok (.aload_n 1, 1) := sorry
theorem dX12_doActs_18 : decode cX12_doActs 18 = .ok (.iload 5, 2) := sorry
theorem dX12_doActs_20 : decode cX12_doActs 20 = .ok (.iaload, 1) := sorry
theorem dX12_doActs_21 : decode cX12_doActs 21 = .ok (.istore 6, 2) := sorry
theorem dX12_doActs_23 : decode cX12_doActs 23 = .ok (.iload 6, 2) := sorry
theorem dX12_doActs_25 : decode cX12_doActs 25 = .ok (.bipush 99, 2) := sorry
theorem dX12_doActs_27 : decode cX12_doActs 27 = .ok (.if_icmp .eq 10, 3) := sorry
theorem dX12_doActs_30 : decode cX12_doActs 30 = .ok (.iload 6, 2) := sorry
theorem dX12_doActs_32 : decode cX12_doActs 32 = .ok (.bipush 98, 2) := sorry
theorem dX12_doActs_34 : decode cX12_doActs 34 = .ok (.if_icmp .ne 15, 3) := sorry
theorem dX12_doActs_37 : decode cX12_doActs 37 = .ok (.aload_n 0, 1) := sorry
theorem dX12_doActs_38 : decode cX12_doActs 38 = .ok (.aload_n 1, 1) := sorry
theorem dX12_doActs_39 : decode cX12_doActs 39 = .ok (.iload 5, 2) := sorry
theorem dX12_doActs_41 : decode cX12_doActs 41 = .ok (.invokevirtual 190, 3) := sorry
theorem dX12_doActs_44 : decode cX12_doActs 44 = .ok (.ifCond .ne 60, 3) := sorry
theorem dX12_doActs_47 : decode cX12_doActs 47 = .ok (.iconst 0, 1) := sorry
theorem dX12_doActs_48 : decode cX12_doActs 48 = .ok (.ireturn, 1) := sorry
theorem dX12_doActs_49 : decode cX12_doActs 49 = .ok (.iload 6, 2) := sorry
theorem dX12_doActs_51 : decode cX12_doActs 51 = .ok (.bipush 116, 2) := sorry
theorem dX12_doActs_53 : decode cX12_doActs 53 = .ok (.if_icmp .ne 10, 3) := sorry
theorem dX12_doActs_56 : decode cX12_doActs 56 = .ok (.aload_n 0, 1) := sorry
theorem dX12_doActs_57 : decode cX12_doActs 57 = .ok (.invokevirtual 194, 3) := sorry
theorem dX12_doActs_60 : decode cX12_doActs 60 = .ok (.goto 44, 3) := sorry
theorem dX12_doActs_63 : decode cX12_doActs 63 = .ok (.iconst 0, 1) := sorry
theorem dX12_doActs_64 : decode cX12_doActs 64 = .ok (.istore 7, 2) := sorry
theorem dX12_doActs_66 : decode cX12_doActs 66 = .ok (.iload 7, 2) := sorry
theorem dX12_doActs_68 : decode cX12_doActs 68 = .ok (.bipush 16, 2) := sorry
theorem dX12_doActs_70 : decode cX12_doActs 70 = .ok (.if_icmp .ge 34, 3) := sorry
theorem dX12_doActs_73 : decode cX12_doActs 73 = .ok (.aload_n 0, 1) := sorry
theorem dX12_doActs_74 : decode cX12_doActs 74 = .ok (.getfield 25, 3) := sorry
theorem dX12_doActs_77 : decode cX12_doActs 77 = .ok (.iload 7, 2) := sorry
theorem dX12_doActs_79 : decode cX12_doActs 79 = .ok (.aload_n 0, 1) := sorry
theorem dX12_doActs_80 : decode cX12_doActs 80 = .ok (.getfield 25, 3) := sorry
theorem dX12_doActs_83 : decode cX12_doActs 83 = .ok (.iload 7, 2) := sorry
theorem dX12_doActs_85 : decode cX12_doActs 85 = .ok (.iaload, 1) := sorry
theorem dX12_doActs_86 : decode cX12_doActs 86 = .ok (.iload 6, 2) := sorry
theorem dX12_doActs_88 : decode cX12_doActs 88 = .ok (.aload_n 1, 1) := sorry
theorem dX12_doActs_89 : decode cX12_doActs 89 = .ok (.iload 5, 2) := sorry
theorem dX12_doActs_91 : decode cX12_doActs 91 = .ok (.iconst 1, 1) := sorry
theorem dX12_doActs_92 : decode cX12_doActs 92 = .ok (.iadd, 1) := sorry
theorem dX12_doActs_93 : decode cX12_doActs 93 = .ok (.iaload, 1) := sorry
theorem dX12_doActs_94 : decode cX12_doActs 94 = .ok (.invokestatic 197, 3) := sorry
theorem dX12_doActs_97 : decode cX12_doActs 97 = .ok (.iastore, 1) := sorry
theorem dX12_doActs_98 : decode cX12_doActs 98 = .ok (.iinc 7 1, 3) := sorry
theorem dX12_doActs_101 : decode cX12_doActs 101 = .ok (.goto (-35), 3) := sorry
theorem dX12_doActs_104 : decode cX12_doActs 104 = .ok (.iinc 4 1, 3) := sorry
theorem dX12_doActs_107 : decode cX12_doActs 107 = .ok (.goto (-104), 3) := sorry
theorem dX12_doActs_110 : decode cX12_doActs 110 = .ok (.iconst 1, 1) := sorry
theorem dX12_doActs_111 : decode cX12_doActs 111 = .ok (.ireturn, 1) := sorry
theorem dX12_act_0 : decode cX12_act 0 = .ok (.aload_n 0, 1) := sorry
theorem dX12_act_1 : decode cX12_act 1 = .ok (.iload_n 1, 1) := sorry
theorem dX12_act_2 : decode cX12_act 2 = .ok (.invokevirtual 146, 3) := sorry
theorem dX12_act_5 : decode cX12_act 5 = .ok (.ifCond .ne 10, 3) := sorry
theorem dX12_act_8 : decode cX12_act 8 = .ok (.iload_n 2, 1) := sorry
theorem dX12_act_9 : decode cX12_act 9 = .ok (.invokestatic 110, 3) := sorry
theorem dX12_act_12 : decode cX12_act 12 = .ok (.ifCond .eq 9, 3) := sorry
theorem dX12_act_15 : decode cX12_act 15 = .ok (.aload_n 0, 1) := sorry
theorem dX12_act_16 : decode cX12_act 16 = .ok (.iconst (-1), 1) := sorry
theorem dX12_act_17 : decode cX12_act 17 = .ok (.invokevirtual 114, 3) := sorry
theorem dX12_act_20 : decode cX12_act 20 = .ok (.ireturn, 1) := sorry
theorem dX12_act_21 : decode cX12_act 21 = .ok (.iload_n 3, 1) := sorry
theorem dX12_act_22 : decode cX12_act 22 = .ok (.invokestatic 119, 3) := sorry
theorem dX12_act_25 : decode cX12_act 25 = .ok (.ifCond .ne 10, 3) := sorry
theorem dX12_act_28 : decode cX12_act 28 = .ok (.aload_n 0, 1) := sorry
theorem dX12_act_29 : decode cX12_act 29 = .ok (.bipush (-2), 2) := sorry
theorem dX12_act_31 : decode cX12_act 31 = .ok (.invokevirtual 114, 3) := sorry
theorem dX12_act_34 : decode cX12_act 34 = .ok (.ireturn, 1) := sorry
theorem dX12_act_35 : decode cX12_act 35 = .ok (.aload_n 0, 1) := sorry
theorem dX12_act_36 : decode cX12_act 36 = .ok (.iload_n 2, 1) := sorry
theorem dX12_act_37 : decode cX12_act 37 = .ok (.iload_n 3, 1) := sorry
theorem dX12_act_38 : decode cX12_act 38 = .ok (.iload 4, 2) := sorry
theorem dX12_act_40 : decode cX12_act 40 = .ok (.iload 5, 2) := sorry
theorem dX12_act_42 : decode cX12_act 42 = .ok (.i2l, 1) := sorry
theorem dX12_act_43 : decode cX12_act 43 = .ok (.invokevirtual 122, 3) := sorry
theorem dX12_act_46 : decode cX12_act 46 = .ok (.istore 6, 2) := sorry
theorem dX12_act_48 : decode cX12_act 48 = .ok (.iload 6, 2) := sorry
theorem dX12_act_50 : decode cX12_act 50 = .ok (.ifCond .ge 6, 3) := sorry
theorem dX12_act_53 : decode cX12_act 53 = .ok (.iload 6, 2) := sorry
theorem dX12_act_55 : decode cX12_act 55 = .ok (.ireturn, 1) := sorry
theorem dX12_act_56 : decode cX12_act 56 = .ok (.aload_n 0, 1) := sorry
theorem dX12_act_57 : decode cX12_act 57 = .ok (.bipush 60, 2) := sorry
theorem dX12_act_59 : decode cX12_act 59 = .ok (.iload_n 2, 1) := sorry
theorem dX12_act_60 : decode cX12_act 60 = .ok (.imul, 1) := sorry
theorem dX12_act_61 : decode cX12_act 61 = .ok (.iload 4, 2) := sorry
theorem dX12_act_63 : decode cX12_act 63 = .ok (.iadd, 1) := sorry
theorem dX12_act_64 : decode cX12_act 64 = .ok (.iload 5, 2) := sorry
theorem dX12_act_66 : decode cX12_act 66 = .ok (.invokevirtual 201, 3) := sorry
theorem dX12_act_69 : decode cX12_act 69 = .ok (.istore 7, 2) := sorry
theorem dX12_act_71 : decode cX12_act 71 = .ok (.iload 7, 2) := sorry
theorem dX12_act_73 : decode cX12_act 73 = .ok (.ifCond .lt 13, 3) := sorry
theorem dX12_act_76 : decode cX12_act 76 = .ok (.aload_n 0, 1) := sorry
theorem dX12_act_77 : decode cX12_act 77 = .ok (.bipush (-100), 2) := sorry
theorem dX12_act_79 : decode cX12_act 79 = .ok (.iload 7, 2) := sorry
theorem dX12_act_81 : decode cX12_act 81 = .ok (.isub, 1) := sorry
theorem dX12_act_82 : decode cX12_act 82 = .ok (.invokevirtual 114, 3) := sorry
theorem dX12_act_85 : decode cX12_act 85 = .ok (.ireturn, 1) := sorry
theorem dX12_act_86 : decode cX12_act 86 = .ok (.aload_n 0, 1) := sorry
theorem dX12_act_87 : decode cX12_act 87 = .ok (.iload_n 1, 1) := sorry
theorem dX12_act_88 : decode cX12_act 88 = .ok (.invokevirtual 204, 3) := sorry
theorem dX12_act_91 : decode cX12_act 91 = .ok (.aload_n 0, 1) := sorry
theorem dX12_act_92 : decode cX12_act 92 = .ok (.aload_n 0, 1) := sorry
theorem dX12_act_93 : decode cX12_act 93 = .ok (.getfield 22, 3) := sorry
theorem dX12_act_96 : decode cX12_act 96 = .ok (.iconst 0, 1) := sorry
theorem dX12_act_97 : decode cX12_act 97 = .ok (.aload_n 0, 1) := sorry
theorem dX12_act_98 : decode cX12_act 98 = .ok (.getfield 166, 3) := sorry
theorem dX12_act_101 : decode cX12_act 101 = .ok (.invokevirtual 207, 3) := sorry
theorem dX12_act_104 : decode cX12_act 104 = .ok (.ifCond .ne 10, 3) := sorry
theorem dX12_act_107 : decode cX12_act 107 = .ok (.aload_n 0, 1) := sorry
theorem dX12_act_108 : decode cX12_act 108 = .ok (.bipush (-3), 2) := sorry
theorem dX12_act_110 : decode cX12_act 110 = .ok (.invokevirtual 114, 3) := sorry
theorem dX12_act_113 : decode cX12_act 113 = .ok (.ireturn, 1) := sorry
theorem dX12_act_114 : decode cX12_act 114 = .ok (.aload_n 0, 1) := sorry
theorem dX12_act_115 : decode cX12_act 115 = .ok (.getfield 105, 3) := sorry
theorem dX12_act_118 : decode cX12_act 118 = .ok (.bipush 12, 2) := sorry
theorem dX12_act_120 : decode cX12_act 120 = .ok (.if_icmp .ne 10, 3) := sorry
theorem dX12_act_123 : decode cX12_act 123 = .ok (.aload_n 0, 1) := sorry
theorem dX12_act_124 : decode cX12_act 124 = .ok (.bipush (-4), 2) := sorry
theorem dX12_act_126 : decode cX12_act 126 = .ok (.invokevirtual 114, 3) := sorry
theorem dX12_act_129 : decode cX12_act 129 = .ok (.ireturn, 1) := sorry
theorem dX12_act_130 : decode cX12_act 130 = .ok (.aload_n 0, 1) := sorry
theorem dX12_act_131 : decode cX12_act 131 = .ok (.getfield 7, 3) := sorry
theorem dX12_act_134 : decode cX12_act 134 = .ok (.aload_n 0, 1) := sorry
theorem dX12_act_135 : decode cX12_act 135 = .ok (.getfield 105, 3) := sorry
theorem dX12_act_138 : decode cX12_act 138 = .ok (.aload_n 0, 1) := sorry
theorem dX12_act_139 : decode cX12_act 139 = .ok (.getfield 178, 3) := sorry
theorem dX12_act_142 : decode cX12_act 142 = .ok (.iastore, 1) := sorry
theorem dX12_act_143 : decode cX12_act 143 = .ok (.aload_n 0, 1) := sorry
theorem dX12_act_144 : decode cX12_act 144 = .ok (.getfield 13, 3) := sorry
theorem dX12_act_147 : decode cX12_act 147 = .ok (.aload_n 0, 1) := sorry
theorem dX12_act_148 : decode cX12_act 148 = .ok (.getfield 105, 3) := sorry
theorem dX12_act_151 : decode cX12_act 151 = .ok (.aload_n 0, 1) := sorry
theorem dX12_act_152 : decode cX12_act 152 = .ok (.getfield 181, 3) := sorry
theorem dX12_act_155 : decode cX12_act 155 = .ok (.iastore, 1) := sorry
theorem dX12_act_156 : decode cX12_act 156 = .ok (.iconst 0, 1) := sorry
theorem dX12_act_157 : decode cX12_act 157 = .ok (.istore 8, 2) := sorry
theorem dX12_act_159 : decode cX12_act 159 = .ok (.iload 8, 2) := sorry
theorem dX12_act_161 : decode cX12_act 161 = .ok (.bipush 16, 2) := sorry
theorem dX12_act_163 : decode cX12_act 163 = .ok (.if_icmp .ge 31, 3) := sorry
theorem dX12_act_166 : decode cX12_act 166 = .ok (.aload_n 0, 1) := sorry
theorem dX12_act_167 : decode cX12_act 167 = .ok (.getfield 16, 3) := sorry
theorem dX12_act_170 : decode cX12_act 170 = .ok (.bipush 16, 2) := sorry
theorem dX12_act_172 : decode cX12_act 172 = .ok (.aload_n 0, 1) := sorry
theorem dX12_act_173 : decode cX12_act 173 = .ok (.getfield 105, 3) := sorry
theorem dX12_act_176 : decode cX12_act 176 = .ok (.imul, 1) := sorry
theorem dX12_act_177 : decode cX12_act 177 = .ok (.iload 8, 2) := sorry
theorem dX12_act_179 : decode cX12_act 179 = .ok (.iadd, 1) := sorry
theorem dX12_act_180 : decode cX12_act 180 = .ok (.aload_n 0, 1) := sorry
theorem dX12_act_181 : decode cX12_act 181 = .ok (.getfield 25, 3) := sorry
theorem dX12_act_184 : decode cX12_act 184 = .ok (.iload 8, 2) := sorry
theorem dX12_act_186 : decode cX12_act 186 = .ok (.iaload, 1) := sorry
theorem dX12_act_187 : decode cX12_act 187 = .ok (.iastore, 1) := sorry
theorem dX12_act_188 : decode cX12_act 188 = .ok (.iinc 8 1, 3) := sorry
theorem dX12_act_191 : decode cX12_act 191 = .ok (.goto (-32), 3) := sorry
theorem dX12_act_194 : decode cX12_act 194 = .ok (.aload_n 0, 1) := sorry
theorem dX12_act_195 : decode cX12_act 195 = .ok (.dup, 1) := sorry
theorem dX12_act_196 : decode cX12_act 196 = .ok (.getfield 105, 3) := sorry
theorem dX12_act_199 : decode cX12_act 199 = .ok (.iconst 1, 1) := sorry
theorem dX12_act_200 : decode cX12_act 200 = .ok (.iadd, 1) := sorry
theorem dX12_act_201 : decode cX12_act 201 = .ok (.putfield 105, 3) := sorry
theorem dX12_act_204 : decode cX12_act 204 = .ok (.aload_n 0, 1) := sorry
theorem dX12_act_205 : decode cX12_act 205 = .ok (.aload_n 0, 1) := sorry
theorem dX12_act_206 : decode cX12_act 206 = .ok (.getfield 105, 3) := sorry
theorem dX12_act_209 : decode cX12_act 209 = .ok (.iconst 1, 1) := sorry
theorem dX12_act_210 : decode cX12_act 210 = .ok (.isub, 1) := sorry
theorem dX12_act_211 : decode cX12_act 211 = .ok (.invokevirtual 114, 3) := sorry
theorem dX12_act_214 : decode cX12_act 214 = .ok (.ireturn, 1) := sorry
theorem dX12_noLens_0 : decode cX12_noLens 0 = .ok (.iload_n 1, 1) := sorry
theorem dX12_noLens_1 : decode cX12_noLens 1 = .ok (.i2l, 1) := sorry
theorem dX12_noLens_2 : decode cX12_noLens 2 = .ok (.lconst 0, 1) := sorry
theorem dX12_noLens_3 : decode cX12_noLens 3 = .ok (.aload_n 0, 1) := sorry
theorem dX12_noLens_4 : decode cX12_noLens 4 = .ok (.getfield 211, 3) := sorry
theorem dX12_noLens_7 : decode cX12_noLens 7 = .ok (.i2l, 1) := sorry
theorem dX12_noLens_8 : decode cX12_noLens 8 = .ok (.lconst 1, 1) := sorry
theorem dX12_noLens_9 : decode cX12_noLens 9 = .ok (.lsub, 1) := sorry
theorem dX12_noLens_10 : decode cX12_noLens 10 = .ok (.invokestatic 99, 3) := sorry
theorem dX12_noLens_13 : decode cX12_noLens 13 = .ok (.ifCond .ne 7, 3) := sorry
theorem dX12_noLens_16 : decode cX12_noLens 16 = .ok (.iconst 1, 1) := sorry
theorem dX12_noLens_17 : decode cX12_noLens 17 = .ok (.goto 4, 3) := sorry
theorem dX12_noLens_20 : decode cX12_noLens 20 = .ok (.iconst 0, 1) := sorry
theorem dX12_noLens_21 : decode cX12_noLens 21 = .ok (.ireturn, 1) := sorry
theorem dX12_lens_0 : decode cX12_lens 0 = .ok (.iload_n 1, 1) := sorry
theorem dX12_lens_1 : decode cX12_lens 1 = .ok (.i2l, 1) := sorry
theorem dX12_lens_2 : decode cX12_lens 2 = .ok (.lconst 1, 1) := sorry
theorem dX12_lens_3 : decode cX12_lens 3 = .ok (.ldc2_w 214, 3) := sorry
theorem dX12_lens_6 : decode cX12_lens 6 = .ok (.invokestatic 99, 3) := sorry
theorem dX12_lens_9 : decode cX12_lens 9 = .ok (.ifCond .ne 6, 3) := sorry
theorem dX12_lens_12 : decode cX12_lens 12 = .ok (.bipush (-2), 2) := sorry
theorem dX12_lens_14 : decode cX12_lens 14 = .ok (.ireturn, 1) := sorry
theorem dX12_lens_15 : decode cX12_lens 15 = .ok (.aload_n 0, 1) := sorry
theorem dX12_lens_16 : decode cX12_lens 16 = .ok (.getfield 211, 3) := sorry
theorem dX12_lens_19 : decode cX12_lens 19 = .ok (.bipush 6, 2) := sorry
theorem dX12_lens_21 : decode cX12_lens 21 = .ok (.if_icmp .ne 6, 3) := sorry
theorem dX12_lens_24 : decode cX12_lens 24 = .ok (.bipush (-4), 2) := sorry
theorem dX12_lens_26 : decode cX12_lens 26 = .ok (.ireturn, 1) := sorry
theorem dX12_lens_27 : decode cX12_lens 27 = .ok (.aload_n 0, 1) := sorry
theorem dX12_lens_28 : decode cX12_lens 28 = .ok (.getfield 31, 3) := sorry
theorem dX12_lens_31 : decode cX12_lens 31 = .ok (.aload_n 0, 1) := sorry
theorem dX12_lens_32 : decode cX12_lens 32 = .ok (.getfield 211, 3) := sorry
theorem dX12_lens_35 : decode cX12_lens 35 = .ok (.iload_n 1, 1) := sorry
theorem dX12_lens_36 : decode cX12_lens 36 = .ok (.iastore, 1) := sorry
theorem dX12_lens_37 : decode cX12_lens 37 = .ok (.aload_n 0, 1) := sorry
theorem dX12_lens_38 : decode cX12_lens 38 = .ok (.getfield 34, 3) := sorry
theorem dX12_lens_41 : decode cX12_lens 41 = .ok (.aload_n 0, 1) := sorry
theorem dX12_lens_42 : decode cX12_lens 42 = .ok (.getfield 211, 3) := sorry
theorem dX12_lens_45 : decode cX12_lens 45 = .ok (.sipush 1000, 3) := sorry
theorem dX12_lens_48 : decode cX12_lens 48 = .ok (.iastore, 1) := sorry
theorem dX12_lens_49 : decode cX12_lens 49 = .ok (.aload_n 0, 1) := sorry
theorem dX12_lens_50 : decode cX12_lens 50 = .ok (.dup, 1) := sorry
theorem dX12_lens_51 : decode cX12_lens 51 = .ok (.getfield 211, 3) := sorry
theorem dX12_lens_54 : decode cX12_lens 54 = .ok (.iconst 1, 1) := sorry
theorem dX12_lens_55 : decode cX12_lens 55 = .ok (.iadd, 1) := sorry
theorem dX12_lens_56 : decode cX12_lens 56 = .ok (.putfield 211, 3) := sorry
theorem dX12_lens_59 : decode cX12_lens 59 = .ok (.aload_n 0, 1) := sorry
theorem dX12_lens_60 : decode cX12_lens 60 = .ok (.getfield 211, 3) := sorry
theorem dX12_lens_63 : decode cX12_lens 63 = .ok (.iconst 1, 1) := sorry
theorem dX12_lens_64 : decode cX12_lens 64 = .ok (.isub, 1) := sorry
theorem dX12_lens_65 : decode cX12_lens 65 = .ok (.ireturn, 1) := sorry
theorem dX12_steal_0 : decode cX12_steal 0 = .ok (.aload_n 0, 1) := sorry
theorem dX12_steal_1 : decode cX12_steal 1 = .ok (.iload_n 1, 1) := sorry
theorem dX12_steal_2 : decode cX12_steal 2 = .ok (.invokevirtual 216, 3) := sorry
theorem dX12_steal_5 : decode cX12_steal 5 = .ok (.ifCond .eq 5, 3) := sorry
theorem dX12_steal_8 : decode cX12_steal 8 = .ok (.iconst (-1), 1) := sorry
theorem dX12_steal_9 : decode cX12_steal 9 = .ok (.ireturn, 1) := sorry
theorem dX12_steal_10 : decode cX12_steal 10 = .ok (.iload_n 2, 1) := sorry
theorem dX12_steal_11 : decode cX12_steal 11 = .ok (.i2l, 1) := sorry
theorem dX12_steal_12 : decode cX12_steal 12 = .ok (.lconst 0, 1) := sorry
theorem dX12_steal_13 : decode cX12_steal 13 = .ok (.ldc2_w 219, 3) := sorry
theorem dX12_steal_16 : decode cX12_steal 16 = .ok (.invokestatic 99, 3) := sorry
theorem dX12_steal_19 : decode cX12_steal 19 = .ok (.ifCond .ne 6, 3) := sorry
theorem dX12_steal_22 : decode cX12_steal 22 = .ok (.bipush (-2), 2) := sorry
theorem dX12_steal_24 : decode cX12_steal 24 = .ok (.ireturn, 1) := sorry
theorem dX12_steal_25 : decode cX12_steal 25 = .ok (.aload_n 0, 1) := sorry
theorem dX12_steal_26 : decode cX12_steal 26 = .ok (.getfield 34, 3) := sorry
theorem dX12_steal_29 : decode cX12_steal 29 = .ok (.iload_n 1, 1) := sorry
theorem dX12_steal_30 : decode cX12_steal 30 = .ok (.iaload, 1) := sorry
theorem dX12_steal_31 : decode cX12_steal 31 = .ok (.istore_n 3, 1) := sorry
theorem dX12_steal_32 : decode cX12_steal 32 = .ok (.aload_n 0, 1) := sorry
theorem dX12_steal_33 : decode cX12_steal 33 = .ok (.getfield 34, 3) := sorry
theorem dX12_steal_36 : decode cX12_steal 36 = .ok (.iload_n 1, 1) := sorry
theorem dX12_steal_37 : decode cX12_steal 37 = .ok (.iload_n 2, 1) := sorry
theorem dX12_steal_38 : decode cX12_steal 38 = .ok (.iastore, 1) := sorry
theorem dX12_steal_39 : decode cX12_steal 39 = .ok (.iload_n 3, 1) := sorry
theorem dX12_steal_40 : decode cX12_steal 40 = .ok (.ireturn, 1) := sorry
theorem dX12_noLine_0 : decode cX12_noLine 0 = .ok (.aload_n 0, 1) := sorry
theorem dX12_noLine_1 : decode cX12_noLine 1 = .ok (.getfield 37, 3) := sorry
theorem dX12_noLine_4 : decode cX12_noLine 4 = .ok (.iload_n 1, 1) := sorry
theorem dX12_noLine_5 : decode cX12_noLine 5 = .ok (.iaload, 1) := sorry
theorem dX12_noLine_6 : decode cX12_noLine 6 = .ok (.ifCond .ge 7, 3) := sorry
theorem dX12_noLine_9 : decode cX12_noLine 9 = .ok (.iconst 1, 1) := sorry
theorem dX12_noLine_10 : decode cX12_noLine 10 = .ok (.goto 4, 3) := sorry
theorem dX12_noLine_13 : decode cX12_noLine 13 = .ok (.iconst 0, 1) := sorry
theorem dX12_noLine_14 : decode cX12_noLine 14 = .ok (.ireturn, 1) := sorry
theorem dX12_sealOf_0 : decode cX12_sealOf 0 = .ok (.aload_n 0, 1) := sorry
theorem dX12_sealOf_1 : decode cX12_sealOf 1 = .ok (.iload_n 1, 1) := sorry
theorem dX12_sealOf_2 : decode cX12_sealOf 2 = .ok (.invokevirtual 152, 3) := sorry
theorem dX12_sealOf_5 : decode cX12_sealOf 5 = .ok (.aload_n 0, 1) := sorry
theorem dX12_sealOf_6 : decode cX12_sealOf 6 = .ok (.getfield 31, 3) := sorry
theorem dX12_sealOf_9 : decode cX12_sealOf 9 = .ok (.iload_n 2, 1) := sorry
theorem dX12_sealOf_10 : decode cX12_sealOf 10 = .ok (.iaload, 1) := sorry
theorem dX12_sealOf_11 : decode cX12_sealOf 11 = .ok (.imul, 1) := sorry
theorem dX12_sealOf_12 : decode cX12_sealOf 12 = .ok (.bipush 13, 2) := sorry
theorem dX12_sealOf_14 : decode cX12_sealOf 14 = .ok (.iload_n 3, 1) := sorry
theorem dX12_sealOf_15 : decode cX12_sealOf 15 = .ok (.imul, 1) := sorry
theorem dX12_sealOf_16 : decode cX12_sealOf 16 = .ok (.iadd, 1) := sorry
theorem dX12_sealOf_17 : decode cX12_sealOf 17 = .ok (.iconst 5, 1) := sorry
theorem dX12_sealOf_18 : decode cX12_sealOf 18 = .ok (.aload_n 0, 1) := sorry
theorem dX12_sealOf_19 : decode cX12_sealOf 19 = .ok (.getfield 7, 3) := sorry
theorem dX12_sealOf_22 : decode cX12_sealOf 22 = .ok (.iload_n 1, 1) := sorry
theorem dX12_sealOf_23 : decode cX12_sealOf 23 = .ok (.iaload, 1) := sorry
theorem dX12_sealOf_24 : decode cX12_sealOf 24 = .ok (.imul, 1) := sorry
theorem dX12_sealOf_25 : decode cX12_sealOf 25 = .ok (.iadd, 1) := sorry
theorem dX12_sealOf_26 : decode cX12_sealOf 26 = .ok (.aload_n 0, 1) := sorry
theorem dX12_sealOf_27 : decode cX12_sealOf 27 = .ok (.getfield 13, 3) := sorry
theorem dX12_sealOf_30 : decode cX12_sealOf 30 = .ok (.iload_n 1, 1) := sorry
theorem dX12_sealOf_31 : decode cX12_sealOf 31 = .ok (.iaload, 1) := sorry
theorem dX12_sealOf_32 : decode cX12_sealOf 32 = .ok (.iadd, 1) := sorry
theorem dX12_sealOf_33 : decode cX12_sealOf 33 = .ok (.sipush 9973, 3) := sorry
theorem dX12_sealOf_36 : decode cX12_sealOf 36 = .ok (.irem, 1) := sorry
theorem dX12_sealOf_37 : decode cX12_sealOf 37 = .ok (.ireturn, 1) := sorry
theorem dX12_write_0 : decode cX12_write 0 = .ok (.aload_n 0, 1) := sorry
theorem dX12_write_1 : decode cX12_write 1 = .ok (.getfield 37, 3) := sorry
theorem dX12_write_4 : decode cX12_write 4 = .ok (.iload_n 1, 1) := sorry
theorem dX12_write_5 : decode cX12_write 5 = .ok (.iload_n 2, 1) := sorry
theorem dX12_write_6 : decode cX12_write 6 = .ok (.iastore, 1) := sorry
theorem dX12_write_7 : decode cX12_write 7 = .ok (.aload_n 0, 1) := sorry
theorem dX12_write_8 : decode cX12_write 8 = .ok (.getfield 40, 3) := sorry
theorem dX12_write_11 : decode cX12_write 11 = .ok (.iload_n 1, 1) := sorry
theorem dX12_write_12 : decode cX12_write 12 = .ok (.iload 4, 2) := sorry
theorem dX12_write_14 : decode cX12_write 14 = .ok (.iastore, 1) := sorry
theorem dX12_write_15 : decode cX12_write 15 = .ok (.aload_n 0, 1) := sorry
theorem dX12_write_16 : decode cX12_write 16 = .ok (.getfield 43, 3) := sorry
theorem dX12_write_19 : decode cX12_write 19 = .ok (.iload_n 1, 1) := sorry
theorem dX12_write_20 : decode cX12_write 20 = .ok (.iload 5, 2) := sorry
theorem dX12_write_22 : decode cX12_write 22 = .ok (.iastore, 1) := sorry
theorem dX12_write_23 : decode cX12_write 23 = .ok (.aload_n 0, 1) := sorry
theorem dX12_write_24 : decode cX12_write 24 = .ok (.getfield 49, 3) := sorry
theorem dX12_write_27 : decode cX12_write 27 = .ok (.iload_n 1, 1) := sorry
theorem dX12_write_28 : decode cX12_write 28 = .ok (.iload_n 3, 1) := sorry
theorem dX12_write_29 : decode cX12_write 29 = .ok (.iastore, 1) := sorry
theorem dX12_write_30 : decode cX12_write 30 = .ok (.aload_n 0, 1) := sorry
theorem dX12_write_31 : decode cX12_write 31 = .ok (.getfield 46, 3) := sorry
theorem dX12_write_34 : decode cX12_write 34 = .ok (.iload_n 1, 1) := sorry
theorem dX12_write_35 : decode cX12_write 35 = .ok (.aload_n 0, 1) := sorry
theorem dX12_write_36 : decode cX12_write 36 = .ok (.iload_n 1, 1) := sorry
theorem dX12_write_37 : decode cX12_write 37 = .ok (.iload 4, 2) := sorry
theorem dX12_write_39 : decode cX12_write 39 = .ok (.iload 5, 2) := sorry
theorem dX12_write_41 : decode cX12_write 41 = .ok (.invokevirtual 221, 3) := sorry
theorem dX12_write_44 : decode cX12_write 44 = .ok (.iastore, 1) := sorry
theorem dX12_write_45 : decode cX12_write 45 = .ok (.aload_n 0, 1) := sorry
theorem dX12_write_46 : decode cX12_write 46 = .ok (.getfield 52, 3) := sorry
theorem dX12_write_49 : decode cX12_write 49 = .ok (.iload_n 1, 1) := sorry
theorem dX12_write_50 : decode cX12_write 50 = .ok (.iconst 0, 1) := sorry
theorem dX12_write_51 : decode cX12_write 51 = .ok (.iastore, 1) := sorry
theorem dX12_write_52 : decode cX12_write 52 = .ok (.aload_n 0, 1) := sorry
theorem dX12_write_53 : decode cX12_write 53 = .ok (.getfield 46, 3) := sorry
theorem dX12_write_56 : decode cX12_write 56 = .ok (.iload_n 1, 1) := sorry
theorem dX12_write_57 : decode cX12_write 57 = .ok (.iaload, 1) := sorry
theorem dX12_write_58 : decode cX12_write 58 = .ok (.ireturn, 1) := sorry
theorem dX12_take_0 : decode cX12_take 0 = .ok (.aload_n 0, 1) := sorry
theorem dX12_take_1 : decode cX12_take 1 = .ok (.iload_n 1, 1) := sorry
theorem dX12_take_2 : decode cX12_take 2 = .ok (.invokevirtual 146, 3) := sorry
theorem dX12_take_5 : decode cX12_take 5 = .ok (.ifCond .ne 11, 3) := sorry
theorem dX12_take_8 : decode cX12_take 8 = .ok (.aload_n 0, 1) := sorry
theorem dX12_take_9 : decode cX12_take 9 = .ok (.iload_n 2, 1) := sorry
theorem dX12_take_10 : decode cX12_take 10 = .ok (.invokevirtual 216, 3) := sorry
theorem dX12_take_13 : decode cX12_take 13 = .ok (.ifCond .eq 5, 3) := sorry
theorem dX12_take_16 : decode cX12_take 16 = .ok (.iconst (-1), 1) := sorry
theorem dX12_take_17 : decode cX12_take 17 = .ok (.ireturn, 1) := sorry
theorem dX12_take_18 : decode cX12_take 18 = .ok (.iload_n 3, 1) := sorry
theorem dX12_take_19 : decode cX12_take 19 = .ok (.invokestatic 224, 3) := sorry
theorem dX12_take_22 : decode cX12_take 22 = .ok (.ifCond .ne 6, 3) := sorry
theorem dX12_take_25 : decode cX12_take 25 = .ok (.bipush (-2), 2) := sorry
theorem dX12_take_27 : decode cX12_take 27 = .ok (.ireturn, 1) := sorry
theorem dX12_take_28 : decode cX12_take 28 = .ok (.aload_n 0, 1) := sorry
theorem dX12_take_29 : decode cX12_take 29 = .ok (.iload_n 1, 1) := sorry
theorem dX12_take_30 : decode cX12_take 30 = .ok (.invokevirtual 227, 3) := sorry
theorem dX12_take_33 : decode cX12_take 33 = .ok (.ifCond .eq 16, 3) := sorry
theorem dX12_take_36 : decode cX12_take 36 = .ok (.aload_n 0, 1) := sorry
theorem dX12_take_37 : decode cX12_take 37 = .ok (.iload_n 1, 1) := sorry
theorem dX12_take_38 : decode cX12_take 38 = .ok (.iconst 0, 1) := sorry
theorem dX12_take_39 : decode cX12_take 39 = .ok (.bipush (-9), 2) := sorry
theorem dX12_take_41 : decode cX12_take 41 = .ok (.iload_n 2, 1) := sorry
theorem dX12_take_42 : decode cX12_take 42 = .ok (.iload_n 3, 1) := sorry
theorem dX12_take_43 : decode cX12_take 43 = .ok (.invokevirtual 230, 3) := sorry
theorem dX12_take_46 : decode cX12_take 46 = .ok (.goto 5, 3) := sorry
theorem dX12_take_49 : decode cX12_take 49 = .ok (.bipush (-3), 2) := sorry
theorem dX12_take_51 : decode cX12_take 51 = .ok (.ireturn, 1) := sorry
theorem dX12_hush_0 : decode cX12_hush 0 = .ok (.aload_n 0, 1) := sorry
theorem dX12_hush_1 : decode cX12_hush 1 = .ok (.iload_n 1, 1) := sorry
theorem dX12_hush_2 : decode cX12_hush 2 = .ok (.invokevirtual 146, 3) := sorry
theorem dX12_hush_5 : decode cX12_hush 5 = .ok (.ifCond .ne 19, 3) := sorry
theorem dX12_hush_8 : decode cX12_hush 8 = .ok (.aload_n 0, 1) := sorry
theorem dX12_hush_9 : decode cX12_hush 9 = .ok (.iload_n 2, 1) := sorry
theorem dX12_hush_10 : decode cX12_hush 10 = .ok (.invokevirtual 146, 3) := sorry
theorem dX12_hush_13 : decode cX12_hush 13 = .ok (.ifCond .ne 11, 3) := sorry
theorem dX12_hush_16 : decode cX12_hush 16 = .ok (.aload_n 0, 1) := sorry
theorem dX12_hush_17 : decode cX12_hush 17 = .ok (.iload_n 3, 1) := sorry
theorem dX12_hush_18 : decode cX12_hush 18 = .ok (.invokevirtual 216, 3) := sorry
theorem dX12_hush_21 : decode cX12_hush 21 = .ok (.ifCond .eq 5, 3) := sorry
theorem dX12_hush_24 : decode cX12_hush 24 = .ok (.iconst (-1), 1) := sorry
theorem dX12_hush_25 : decode cX12_hush 25 = .ok (.ireturn, 1) := sorry
theorem dX12_hush_26 : decode cX12_hush 26 = .ok (.iload 4, 2) := sorry
theorem dX12_hush_28 : decode cX12_hush 28 = .ok (.invokestatic 224, 3) := sorry
theorem dX12_hush_31 : decode cX12_hush 31 = .ok (.ifCond .ne 6, 3) := sorry
theorem dX12_hush_34 : decode cX12_hush 34 = .ok (.bipush (-2), 2) := sorry
theorem dX12_hush_36 : decode cX12_hush 36 = .ok (.ireturn, 1) := sorry
theorem dX12_hush_37 : decode cX12_hush 37 = .ok (.aload_n 0, 1) := sorry
theorem dX12_hush_38 : decode cX12_hush 38 = .ok (.iload_n 1, 1) := sorry
theorem dX12_hush_39 : decode cX12_hush 39 = .ok (.invokevirtual 227, 3) := sorry
theorem dX12_hush_42 : decode cX12_hush 42 = .ok (.ifCond .eq 21, 3) := sorry
theorem dX12_hush_45 : decode cX12_hush 45 = .ok (.iload_n 2, 1) := sorry
theorem dX12_hush_46 : decode cX12_hush 46 = .ok (.iload_n 1, 1) := sorry
theorem dX12_hush_47 : decode cX12_hush 47 = .ok (.if_icmp .ge 16, 3) := sorry
theorem dX12_hush_50 : decode cX12_hush 50 = .ok (.aload_n 0, 1) := sorry
theorem dX12_hush_51 : decode cX12_hush 51 = .ok (.iload_n 1, 1) := sorry
theorem dX12_hush_52 : decode cX12_hush 52 = .ok (.iconst 2, 1) := sorry
theorem dX12_hush_53 : decode cX12_hush 53 = .ok (.iload_n 2, 1) := sorry
theorem dX12_hush_54 : decode cX12_hush 54 = .ok (.iload_n 3, 1) := sorry
theorem dX12_hush_55 : decode cX12_hush 55 = .ok (.iload 4, 2) := sorry
theorem dX12_hush_57 : decode cX12_hush 57 = .ok (.invokevirtual 230, 3) := sorry
theorem dX12_hush_60 : decode cX12_hush 60 = .ok (.goto 5, 3) := sorry
theorem dX12_hush_63 : decode cX12_hush 63 = .ok (.bipush (-3), 2) := sorry
theorem dX12_hush_65 : decode cX12_hush 65 = .ok (.ireturn, 1) := sorry
theorem dX12_change_0 : decode cX12_change 0 = .ok (.aload_n 0, 1) := sorry
theorem dX12_change_1 : decode cX12_change 1 = .ok (.iload_n 1, 1) := sorry
theorem dX12_change_2 : decode cX12_change 2 = .ok (.invokevirtual 146, 3) := sorry
theorem dX12_change_5 : decode cX12_change 5 = .ok (.ifCond .ne 27, 3) := sorry
theorem dX12_change_8 : decode cX12_change 8 = .ok (.aload_n 0, 1) := sorry
theorem dX12_change_9 : decode cX12_change 9 = .ok (.iload_n 2, 1) := sorry
theorem dX12_change_10 : decode cX12_change 10 = .ok (.invokevirtual 146, 3) := sorry
theorem dX12_change_13 : decode cX12_change 13 = .ok (.ifCond .ne 19, 3) := sorry
theorem dX12_change_16 : decode cX12_change 16 = .ok (.aload_n 0, 1) := sorry
theorem dX12_change_17 : decode cX12_change 17 = .ok (.iload_n 3, 1) := sorry
theorem dX12_change_18 : decode cX12_change 18 = .ok (.invokevirtual 216, 3) := sorry
theorem dX12_change_21 : decode cX12_change 21 = .ok (.ifCond .ne 11, 3) := sorry
theorem dX12_change_24 : decode cX12_change 24 = .ok (.iload 5, 2) := sorry
theorem dX12_change_26 : decode cX12_change 26 = .ok (.invokestatic 110, 3) := sorry
theorem dX12_change_29 : decode cX12_change 29 = .ok (.ifCond .eq 9, 3) := sorry
theorem dX12_change_32 : decode cX12_change 32 = .ok (.aload_n 0, 1) := sorry
theorem dX12_change_33 : decode cX12_change 33 = .ok (.iconst (-1), 1) := sorry
theorem dX12_change_34 : decode cX12_change 34 = .ok (.invokevirtual 114, 3) := sorry
theorem dX12_change_37 : decode cX12_change 37 = .ok (.ireturn, 1) := sorry
theorem dX12_change_38 : decode cX12_change 38 = .ok (.iload 4, 2) := sorry
theorem dX12_change_40 : decode cX12_change 40 = .ok (.invokestatic 224, 3) := sorry
theorem dX12_change_43 : decode cX12_change 43 = .ok (.ifCond .eq 11, 3) := sorry
theorem dX12_change_46 : decode cX12_change 46 = .ok (.iload 6, 2) := sorry
theorem dX12_change_48 : decode cX12_change 48 = .ok (.invokestatic 119, 3) := sorry
theorem dX12_change_51 : decode cX12_change 51 = .ok (.ifCond .ne 10, 3) := sorry
theorem dX12_change_54 : decode cX12_change 54 = .ok (.aload_n 0, 1) := sorry
theorem dX12_change_55 : decode cX12_change 55 = .ok (.bipush (-2), 2) := sorry
theorem dX12_change_57 : decode cX12_change 57 = .ok (.invokevirtual 114, 3) := sorry
theorem dX12_change_60 : decode cX12_change 60 = .ok (.ireturn, 1) := sorry
theorem dX12_change_61 : decode cX12_change 61 = .ok (.aload_n 0, 1) := sorry
theorem dX12_change_62 : decode cX12_change 62 = .ok (.iload 5, 2) := sorry
theorem dX12_change_64 : decode cX12_change 64 = .ok (.iload 6, 2) := sorry
theorem dX12_change_66 : decode cX12_change 66 = .ok (.iload 7, 2) := sorry
theorem dX12_change_68 : decode cX12_change 68 = .ok (.iload 8, 2) := sorry
theorem dX12_change_70 : decode cX12_change 70 = .ok (.i2l, 1) := sorry
theorem dX12_change_71 : decode cX12_change 71 = .ok (.invokevirtual 122, 3) := sorry
theorem dX12_change_74 : decode cX12_change 74 = .ok (.istore 9, 2) := sorry
theorem dX12_change_76 : decode cX12_change 76 = .ok (.iload 9, 2) := sorry
theorem dX12_change_78 : decode cX12_change 78 = .ok (.ifCond .ge 6, 3) := sorry
theorem dX12_change_81 : decode cX12_change 81 = .ok (.iload 9, 2) := sorry
theorem dX12_change_83 : decode cX12_change 83 = .ok (.ireturn, 1) := sorry
theorem dX12_change_84 : decode cX12_change 84 = .ok (.aload_n 0, 1) := sorry
theorem dX12_change_85 : decode cX12_change 85 = .ok (.bipush 60, 2) := sorry
theorem dX12_change_87 : decode cX12_change 87 = .ok (.iload 5, 2) := sorry
theorem dX12_change_89 : decode cX12_change 89 = .ok (.imul, 1) := sorry
theorem dX12_change_90 : decode cX12_change 90 = .ok (.iload 7, 2) := sorry
theorem dX12_change_92 : decode cX12_change 92 = .ok (.iadd, 1) := sorry
theorem dX12_change_93 : decode cX12_change 93 = .ok (.iload 8, 2) := sorry
theorem dX12_change_95 : decode cX12_change 95 = .ok (.invokevirtual 201, 3) := sorry
theorem dX12_change_98 : decode cX12_change 98 = .ok (.istore 10, 2) := sorry
theorem dX12_change_100 : decode cX12_change 100 = .ok (.iload 10, 2) := sorry
theorem dX12_change_102 : decode cX12_change 102 = .ok (.ifCond .lt 13, 3) := sorry
theorem dX12_change_105 : decode cX12_change 105 = .ok (.aload_n 0, 1) := sorry
theorem dX12_change_106 : decode cX12_change 106 = .ok (.bipush (-100), 2) := sorry
theorem dX12_change_108 : decode cX12_change 108 = .ok (.iload 10, 2) := sorry
theorem dX12_change_110 : decode cX12_change 110 = .ok (.isub, 1) := sorry
theorem dX12_change_111 : decode cX12_change 111 = .ok (.invokevirtual 114, 3) := sorry
theorem dX12_change_114 : decode cX12_change 114 = .ok (.ireturn, 1) := sorry
theorem dX12_change_115 : decode cX12_change 115 = .ok (.aload_n 0, 1) := sorry
theorem dX12_change_116 : decode cX12_change 116 = .ok (.iload_n 1, 1) := sorry
theorem dX12_change_117 : decode cX12_change 117 = .ok (.invokevirtual 227, 3) := sorry
theorem dX12_change_120 : decode cX12_change 120 = .ok (.ifCond .eq 8, 3) := sorry
theorem dX12_change_123 : decode cX12_change 123 = .ok (.iload_n 2, 1) := sorry
theorem dX12_change_124 : decode cX12_change 124 = .ok (.iload_n 1, 1) := sorry
theorem dX12_change_125 : decode cX12_change 125 = .ok (.if_icmp .lt 10, 3) := sorry
theorem dX12_change_128 : decode cX12_change 128 = .ok (.aload_n 0, 1) := sorry
theorem dX12_change_129 : decode cX12_change 129 = .ok (.bipush (-3), 2) := sorry
theorem dX12_change_131 : decode cX12_change 131 = .ok (.invokevirtual 114, 3) := sorry
theorem dX12_change_134 : decode cX12_change 134 = .ok (.ireturn, 1) := sorry
theorem dX12_change_135 : decode cX12_change 135 = .ok (.aload_n 0, 1) := sorry
theorem dX12_change_136 : decode cX12_change 136 = .ok (.iload_n 1, 1) := sorry
theorem dX12_change_137 : decode cX12_change 137 = .ok (.iconst 1, 1) := sorry
theorem dX12_change_138 : decode cX12_change 138 = .ok (.iload_n 2, 1) := sorry
theorem dX12_change_139 : decode cX12_change 139 = .ok (.iload_n 3, 1) := sorry
theorem dX12_change_140 : decode cX12_change 140 = .ok (.iload 4, 2) := sorry
theorem dX12_change_142 : decode cX12_change 142 = .ok (.invokevirtual 230, 3) := sorry
theorem dX12_change_145 : decode cX12_change 145 = .ok (.istore 11, 2) := sorry
theorem dX12_change_147 : decode cX12_change 147 = .ok (.aload_n 0, 1) := sorry
theorem dX12_change_148 : decode cX12_change 148 = .ok (.getfield 52, 3) := sorry
theorem dX12_change_151 : decode cX12_change 151 = .ok (.iload_n 1, 1) := sorry
theorem dX12_change_152 : decode cX12_change 152 = .ok (.aload_n 0, 1) := sorry
theorem dX12_change_153 : decode cX12_change 153 = .ok (.getfield 166, 3) := sorry
theorem dX12_change_156 : decode cX12_change 156 = .ok (.iastore, 1) := sorry
theorem dX12_change_157 : decode cX12_change 157 = .ok (.iconst 0, 1) := sorry
theorem dX12_change_158 : decode cX12_change 158 = .ok (.istore 12, 2) := sorry
theorem dX12_change_160 : decode cX12_change 160 = .ok (.iload 12, 2) := sorry
theorem dX12_change_162 : decode cX12_change 162 = .ok (.iconst 5, 1) := sorry
theorem dX12_change_163 : decode cX12_change 163 = .ok (.aload_n 0, 1) := sorry
theorem dX12_change_164 : decode cX12_change 164 = .ok (.getfield 166, 3) := sorry
theorem dX12_change_167 : decode cX12_change 167 = .ok (.imul, 1) := sorry
theorem dX12_change_168 : decode cX12_change 168 = .ok (.if_icmp .ge 28, 3) := sorry
theorem dX12_change_171 : decode cX12_change 171 = .ok (.aload_n 0, 1) := sorry
theorem dX12_change_172 : decode cX12_change 172 = .ok (.getfield 55, 3) := sorry
theorem dX12_change_175 : decode cX12_change 175 = .ok (.bipush 25, 2) := sorry
theorem dX12_change_177 : decode cX12_change 177 = .ok (.iload_n 1, 1) := sorry
theorem dX12_change_178 : decode cX12_change 178 = .ok (.imul, 1) := sorry
theorem dX12_change_179 : decode cX12_change 179 = .ok (.iload 12, 2) := sorry
theorem dX12_change_181 : decode cX12_change 181 = .ok (.iadd, 1) := sorry
theorem dX12_change_182 : decode cX12_change 182 = .ok (.aload_n 0, 1) := sorry
theorem dX12_change_183 : decode cX12_change 183 = .ok (.getfield 22, 3) := sorry
theorem dX12_change_186 : decode cX12_change 186 = .ok (.iload 12, 2) := sorry
theorem dX12_change_188 : decode cX12_change 188 = .ok (.iaload, 1) := sorry
theorem dX12_change_189 : decode cX12_change 189 = .ok (.iastore, 1) := sorry
theorem dX12_change_190 : decode cX12_change 190 = .ok (.iinc 12 1, 3) := sorry
theorem dX12_change_193 : decode cX12_change 193 = .ok (.goto (-33), 3) := sorry
theorem dX12_change_196 : decode cX12_change 196 = .ok (.aload_n 0, 1) := sorry
theorem dX12_change_197 : decode cX12_change 197 = .ok (.iload 11, 2) := sorry
theorem dX12_change_199 : decode cX12_change 199 = .ok (.invokevirtual 114, 3) := sorry
theorem dX12_change_202 : decode cX12_change 202 = .ok (.ireturn, 1) := sorry
theorem dX12_tear_0 : decode cX12_tear 0 = .ok (.aload_n 0, 1) := sorry
theorem dX12_tear_1 : decode cX12_tear 1 = .ok (.iload_n 1, 1) := sorry
theorem dX12_tear_2 : decode cX12_tear 2 = .ok (.invokevirtual 146, 3) := sorry
theorem dX12_tear_5 : decode cX12_tear 5 = .ok (.ifCond .eq 5, 3) := sorry
theorem dX12_tear_8 : decode cX12_tear 8 = .ok (.iconst (-1), 1) := sorry
theorem dX12_tear_9 : decode cX12_tear 9 = .ok (.ireturn, 1) := sorry
theorem dX12_tear_10 : decode cX12_tear 10 = .ok (.aload_n 0, 1) := sorry
theorem dX12_tear_11 : decode cX12_tear 11 = .ok (.iload_n 1, 1) := sorry
theorem dX12_tear_12 : decode cX12_tear 12 = .ok (.invokevirtual 227, 3) := sorry
theorem dX12_tear_15 : decode cX12_tear 15 = .ok (.ifCond .eq 7, 3) := sorry
theorem dX12_tear_18 : decode cX12_tear 18 = .ok (.iconst 0, 1) := sorry
theorem dX12_tear_19 : decode cX12_tear 19 = .ok (.goto 4, 3) := sorry
theorem dX12_tear_22 : decode cX12_tear 22 = .ok (.iconst 1, 1) := sorry
theorem dX12_tear_23 : decode cX12_tear 23 = .ok (.istore_n 2, 1) := sorry
theorem dX12_tear_24 : decode cX12_tear 24 = .ok (.aload_n 0, 1) := sorry
theorem dX12_tear_25 : decode cX12_tear 25 = .ok (.getfield 37, 3) := sorry
theorem dX12_tear_28 : decode cX12_tear 28 = .ok (.iload_n 1, 1) := sorry
theorem dX12_tear_29 : decode cX12_tear 29 = .ok (.bipush (-9), 2) := sorry
theorem dX12_tear_31 : decode cX12_tear 31 = .ok (.iastore, 1) := sorry
theorem dX12_tear_32 : decode cX12_tear 32 = .ok (.iload_n 2, 1) := sorry
theorem dX12_tear_33 : decode cX12_tear 33 = .ok (.ireturn, 1) := sorry
theorem dX12_line_0 : decode cX12_line 0 = .ok (.aload_n 0, 1) := sorry
theorem dX12_line_1 : decode cX12_line 1 = .ok (.iload_n 1, 1) := sorry
theorem dX12_line_2 : decode cX12_line 2 = .ok (.invokevirtual 146, 3) := sorry
theorem dX12_line_5 : decode cX12_line 5 = .ok (.ifCond .eq 5, 3) := sorry
theorem dX12_line_8 : decode cX12_line 8 = .ok (.iconst (-1), 1) := sorry
theorem dX12_line_9 : decode cX12_line 9 = .ok (.ireturn, 1) := sorry
theorem dX12_line_10 : decode cX12_line 10 = .ok (.iload_n 2, 1) := sorry
theorem dX12_line_11 : decode cX12_line 11 = .ok (.i2l, 1) := sorry
theorem dX12_line_12 : decode cX12_line 12 = .ok (.lconst 0, 1) := sorry
theorem dX12_line_13 : decode cX12_line 13 = .ok (.ldc2_w 234, 3) := sorry
theorem dX12_line_16 : decode cX12_line 16 = .ok (.invokestatic 99, 3) := sorry
theorem dX12_line_19 : decode cX12_line 19 = .ok (.ifCond .ne 6, 3) := sorry
theorem dX12_line_22 : decode cX12_line 22 = .ok (.bipush (-2), 2) := sorry
theorem dX12_line_24 : decode cX12_line 24 = .ok (.ireturn, 1) := sorry
theorem dX12_line_25 : decode cX12_line 25 = .ok (.aload_n 0, 1) := sorry
theorem dX12_line_26 : decode cX12_line 26 = .ok (.iload_n 1, 1) := sorry
theorem dX12_line_27 : decode cX12_line 27 = .ok (.invokevirtual 227, 3) := sorry
theorem dX12_line_30 : decode cX12_line 30 = .ok (.ifCond .eq 6, 3) := sorry
theorem dX12_line_33 : decode cX12_line 33 = .ok (.bipush (-3), 2) := sorry
theorem dX12_line_35 : decode cX12_line 35 = .ok (.ireturn, 1) := sorry
theorem dX12_line_36 : decode cX12_line 36 = .ok (.iload_n 2, 1) := sorry
theorem dX12_line_37 : decode cX12_line 37 = .ok (.tableswitch 70 0 4 #[35, 42, 49, 56, 63], 35) := sorry
theorem dX12_line_72 : decode cX12_line 72 = .ok (.aload_n 0, 1) := sorry
theorem dX12_line_73 : decode cX12_line 73 = .ok (.getfield 37, 3) := sorry
theorem dX12_line_76 : decode cX12_line 76 = .ok (.iload_n 1, 1) := sorry
theorem dX12_line_77 : decode cX12_line 77 = .ok (.iaload, 1) := sorry
theorem dX12_line_78 : decode cX12_line 78 = .ok (.ireturn, 1) := sorry
theorem dX12_line_79 : decode cX12_line 79 = .ok (.aload_n 0, 1) := sorry
theorem dX12_line_80 : decode cX12_line 80 = .ok (.getfield 40, 3) := sorry
theorem dX12_line_83 : decode cX12_line 83 = .ok (.iload_n 1, 1) := sorry
theorem dX12_line_84 : decode cX12_line 84 = .ok (.iaload, 1) := sorry
theorem dX12_line_85 : decode cX12_line 85 = .ok (.ireturn, 1) := sorry
theorem dX12_line_86 : decode cX12_line 86 = .ok (.aload_n 0, 1) := sorry
theorem dX12_line_87 : decode cX12_line 87 = .ok (.getfield 43, 3) := sorry
theorem dX12_line_90 : decode cX12_line 90 = .ok (.iload_n 1, 1) := sorry
theorem dX12_line_91 : decode cX12_line 91 = .ok (.iaload, 1) := sorry
theorem dX12_line_92 : decode cX12_line 92 = .ok (.ireturn, 1) := sorry
theorem dX12_line_93 : decode cX12_line 93 = .ok (.aload_n 0, 1) := sorry
theorem dX12_line_94 : decode cX12_line 94 = .ok (.getfield 46, 3) := sorry
theorem dX12_line_97 : decode cX12_line 97 = .ok (.iload_n 1, 1) := sorry
theorem dX12_line_98 : decode cX12_line 98 = .ok (.iaload, 1) := sorry
theorem dX12_line_99 : decode cX12_line 99 = .ok (.ireturn, 1) := sorry
theorem dX12_line_100 : decode cX12_line 100 = .ok (.aload_n 0, 1) := sorry
theorem dX12_line_101 : decode cX12_line 101 = .ok (.getfield 49, 3) := sorry
theorem dX12_line_104 : decode cX12_line 104 = .ok (.iload_n 1, 1) := sorry
theorem dX12_line_105 : decode cX12_line 105 = .ok (.iaload, 1) := sorry
theorem dX12_line_106 : decode cX12_line 106 = .ok (.ireturn, 1) := sorry
theorem dX12_line_107 : decode cX12_line 107 = .ok (.aload_n 0, 1) := sorry
theorem dX12_line_108 : decode cX12_line 108 = .ok (.getfield 52, 3) := sorry
theorem dX12_line_111 : decode cX12_line 111 = .ok (.iload_n 1, 1) := sorry
theorem dX12_line_112 : decode cX12_line 112 = .ok (.iaload, 1) := sorry
theorem dX12_line_113 : decode cX12_line 113 = .ok (.ireturn, 1) := sorry
theorem dX12_within_0 : decode cX12_within 0 = .ok (.iload_n 1, 1) := sorry
theorem dX12_within_1 : decode cX12_within 1 = .ok (.i2l, 1) := sorry
theorem dX12_within_2 : decode cX12_within 2 = .ok (.lconst 0, 1) := sorry
theorem dX12_within_3 : decode cX12_within 3 = .ok (.ldc2_w 236, 3) := sorry
theorem dX12_within_6 : decode cX12_within 6 = .ok (.invokestatic 99, 3) := sorry
theorem dX12_within_9 : decode cX12_within 9 = .ok (.ifCond .ne 6, 3) := sorry
theorem dX12_within_12 : decode cX12_within 12 = .ok (.bipush (-2), 2) := sorry
theorem dX12_within_14 : decode cX12_within 14 = .ok (.ireturn, 1) := sorry
theorem dX12_within_15 : decode cX12_within 15 = .ok (.aload_n 0, 1) := sorry
theorem dX12_within_16 : decode cX12_within 16 = .ok (.getfield 238, 3) := sorry
theorem dX12_within_19 : decode cX12_within 19 = .ok (.istore_n 2, 1) := sorry
theorem dX12_within_20 : decode cX12_within 20 = .ok (.aload_n 0, 1) := sorry
theorem dX12_within_21 : decode cX12_within 21 = .ok (.iload_n 1, 1) := sorry
theorem dX12_within_22 : decode cX12_within 22 = .ok (.putfield 238, 3) := sorry
theorem dX12_within_25 : decode cX12_within 25 = .ok (.iload_n 2, 1) := sorry
theorem dX12_within_26 : decode cX12_within 26 = .ok (.ireturn, 1) := sorry
theorem dX12_played_0 : decode cX12_played 0 = .ok (.aload_n 0, 1) := sorry
theorem dX12_played_1 : decode cX12_played 1 = .ok (.aload_n 0, 1) := sorry
theorem dX12_played_2 : decode cX12_played 2 = .ok (.getfield 49, 3) := sorry
theorem dX12_played_5 : decode cX12_played 5 = .ok (.iload_n 1, 1) := sorry
theorem dX12_played_6 : decode cX12_played 6 = .ok (.iaload, 1) := sorry
theorem dX12_played_7 : decode cX12_played 7 = .ok (.invokevirtual 204, 3) := sorry
theorem dX12_played_10 : decode cX12_played 10 = .ok (.aload_n 0, 1) := sorry
theorem dX12_played_11 : decode cX12_played 11 = .ok (.aload_n 0, 1) := sorry
theorem dX12_played_12 : decode cX12_played 12 = .ok (.getfield 55, 3) := sorry
theorem dX12_played_15 : decode cX12_played 15 = .ok (.bipush 25, 2) := sorry
theorem dX12_played_17 : decode cX12_played 17 = .ok (.iload_n 1, 1) := sorry
theorem dX12_played_18 : decode cX12_played 18 = .ok (.imul, 1) := sorry
theorem dX12_played_19 : decode cX12_played 19 = .ok (.aload_n 0, 1) := sorry
theorem dX12_played_20 : decode cX12_played 20 = .ok (.getfield 52, 3) := sorry
theorem dX12_played_23 : decode cX12_played 23 = .ok (.iload_n 1, 1) := sorry
theorem dX12_played_24 : decode cX12_played 24 = .ok (.iaload, 1) := sorry
theorem dX12_played_25 : decode cX12_played 25 = .ok (.invokevirtual 207, 3) := sorry
theorem dX12_played_28 : decode cX12_played 28 = .ok (.ifCond .ne 6, 3) := sorry
theorem dX12_played_31 : decode cX12_played 31 = .ok (.bipush (-20), 2) := sorry
theorem dX12_played_33 : decode cX12_played 33 = .ok (.ireturn, 1) := sorry
theorem dX12_played_34 : decode cX12_played 34 = .ok (.aload_n 0, 1) := sorry
theorem dX12_played_35 : decode cX12_played 35 = .ok (.getfield 178, 3) := sorry
theorem dX12_played_38 : decode cX12_played 38 = .ok (.aload_n 0, 1) := sorry
theorem dX12_played_39 : decode cX12_played 39 = .ok (.getfield 7, 3) := sorry
theorem dX12_played_42 : decode cX12_played 42 = .ok (.iload_n 1, 1) := sorry
theorem dX12_played_43 : decode cX12_played 43 = .ok (.iaload, 1) := sorry
theorem dX12_played_44 : decode cX12_played 44 = .ok (.if_icmp .ne 16, 3) := sorry
theorem dX12_played_47 : decode cX12_played 47 = .ok (.aload_n 0, 1) := sorry
theorem dX12_played_48 : decode cX12_played 48 = .ok (.getfield 181, 3) := sorry
theorem dX12_played_51 : decode cX12_played 51 = .ok (.aload_n 0, 1) := sorry
theorem dX12_played_52 : decode cX12_played 52 = .ok (.getfield 13, 3) := sorry
theorem dX12_played_55 : decode cX12_played 55 = .ok (.iload_n 1, 1) := sorry
theorem dX12_played_56 : decode cX12_played 56 = .ok (.iaload, 1) := sorry
theorem dX12_played_57 : decode cX12_played 57 = .ok (.if_icmp .eq 6, 3) := sorry
theorem dX12_played_60 : decode cX12_played 60 = .ok (.bipush (-21), 2) := sorry
theorem dX12_played_62 : decode cX12_played 62 = .ok (.ireturn, 1) := sorry
theorem dX12_played_63 : decode cX12_played 63 = .ok (.iconst 0, 1) := sorry
theorem dX12_played_64 : decode cX12_played 64 = .ok (.istore_n 2, 1) := sorry
theorem dX12_played_65 : decode cX12_played 65 = .ok (.iload_n 2, 1) := sorry
theorem dX12_played_66 : decode cX12_played 66 = .ok (.bipush 16, 2) := sorry
theorem dX12_played_68 : decode cX12_played 68 = .ok (.if_icmp .ge 48, 3) := sorry
theorem dX12_played_71 : decode cX12_played 71 = .ok (.aload_n 0, 1) := sorry
theorem dX12_played_72 : decode cX12_played 72 = .ok (.iload_n 1, 1) := sorry
theorem dX12_played_73 : decode cX12_played 73 = .ok (.iload_n 2, 1) := sorry
theorem dX12_played_74 : decode cX12_played 74 = .ok (.invokevirtual 135, 3) := sorry
theorem dX12_played_77 : decode cX12_played 77 = .ok (.ifCond .eq 33, 3) := sorry
theorem dX12_played_80 : decode cX12_played 80 = .ok (.aload_n 0, 1) := sorry
theorem dX12_played_81 : decode cX12_played 81 = .ok (.getfield 25, 3) := sorry
theorem dX12_played_84 : decode cX12_played 84 = .ok (.iload_n 2, 1) := sorry
theorem dX12_played_85 : decode cX12_played 85 = .ok (.iaload, 1) := sorry
theorem dX12_played_86 : decode cX12_played 86 = .ok (.aload_n 0, 1) := sorry
theorem dX12_played_87 : decode cX12_played 87 = .ok (.getfield 16, 3) := sorry
theorem dX12_played_90 : decode cX12_played 90 = .ok (.bipush 16, 2) := sorry
theorem dX12_played_92 : decode cX12_played 92 = .ok (.iload_n 1, 1) := sorry
theorem dX12_played_93 : decode cX12_played 93 = .ok (.imul, 1) := sorry
theorem dX12_played_94 : decode cX12_played 94 = .ok (.iload_n 2, 1) := sorry
theorem dX12_played_95 : decode cX12_played 95 = .ok (.iadd, 1) := sorry
theorem dX12_played_96 : decode cX12_played 96 = .ok (.iaload, 1) := sorry
theorem dX12_played_97 : decode cX12_played 97 = .ok (.isub, 1) := sorry
theorem dX12_played_98 : decode cX12_played 98 = .ok (.invokestatic 241, 3) := sorry
theorem dX12_played_101 : decode cX12_played 101 = .ok (.aload_n 0, 1) := sorry
theorem dX12_played_102 : decode cX12_played 102 = .ok (.getfield 238, 3) := sorry
theorem dX12_played_105 : decode cX12_played 105 = .ok (.if_icmp .le 5, 3) := sorry
theorem dX12_played_108 : decode cX12_played 108 = .ok (.iload_n 2, 1) := sorry
theorem dX12_played_109 : decode cX12_played 109 = .ok (.ireturn, 1) := sorry
theorem dX12_played_110 : decode cX12_played 110 = .ok (.iinc 2 1, 3) := sorry
theorem dX12_played_113 : decode cX12_played 113 = .ok (.goto (-48), 3) := sorry
theorem dX12_played_116 : decode cX12_played 116 = .ok (.bipush (-9), 2) := sorry
theorem dX12_played_118 : decode cX12_played 118 = .ok (.ireturn, 1) := sorry
theorem dX12_play_0 : decode cX12_play 0 = .ok (.aload_n 0, 1) := sorry
theorem dX12_play_1 : decode cX12_play 1 = .ok (.iload_n 1, 1) := sorry
theorem dX12_play_2 : decode cX12_play 2 = .ok (.invokevirtual 146, 3) := sorry
theorem dX12_play_5 : decode cX12_play 5 = .ok (.ifCond .eq 5, 3) := sorry
theorem dX12_play_8 : decode cX12_play 8 = .ok (.iconst (-1), 1) := sorry
theorem dX12_play_9 : decode cX12_play 9 = .ok (.ireturn, 1) := sorry
theorem dX12_play_10 : decode cX12_play 10 = .ok (.aload_n 0, 1) := sorry
theorem dX12_play_11 : decode cX12_play 11 = .ok (.getfield 37, 3) := sorry
theorem dX12_play_14 : decode cX12_play 14 = .ok (.iload_n 1, 1) := sorry
theorem dX12_play_15 : decode cX12_play 15 = .ok (.iaload, 1) := sorry
theorem dX12_play_16 : decode cX12_play 16 = .ok (.iconst 1, 1) := sorry
theorem dX12_play_17 : decode cX12_play 17 = .ok (.if_icmp .ne 11, 3) := sorry
theorem dX12_play_20 : decode cX12_play 20 = .ok (.aload_n 0, 1) := sorry
theorem dX12_play_21 : decode cX12_play 21 = .ok (.iload_n 1, 1) := sorry
theorem dX12_play_22 : decode cX12_play 22 = .ok (.invokevirtual 244, 3) := sorry
theorem dX12_play_25 : decode cX12_play 25 = .ok (.goto 5, 3) := sorry
theorem dX12_play_28 : decode cX12_play 28 = .ok (.bipush (-3), 2) := sorry
theorem dX12_play_30 : decode cX12_play 30 = .ok (.ireturn, 1) := sorry
theorem dX12_speaking_0 : decode cX12_speaking 0 = .ok (.aload_n 0, 1) := sorry
theorem dX12_speaking_1 : decode cX12_speaking 1 = .ok (.getfield 43, 3) := sorry
theorem dX12_speaking_4 : decode cX12_speaking 4 = .ok (.iload_n 1, 1) := sorry
theorem dX12_speaking_5 : decode cX12_speaking 5 = .ok (.iaload, 1) := sorry
theorem dX12_speaking_6 : decode cX12_speaking 6 = .ok (.aload_n 0, 1) := sorry
theorem dX12_speaking_7 : decode cX12_speaking 7 = .ok (.getfield 34, 3) := sorry
theorem dX12_speaking_10 : decode cX12_speaking 10 = .ok (.aload_n 0, 1) := sorry
theorem dX12_speaking_11 : decode cX12_speaking 11 = .ok (.getfield 40, 3) := sorry
theorem dX12_speaking_14 : decode cX12_speaking 14 = .ok (.iload_n 1, 1) := sorry
theorem dX12_speaking_15 : decode cX12_speaking 15 = .ok (.iaload, 1) := sorry
theorem dX12_speaking_16 : decode cX12_speaking 16 = .ok (.iaload, 1) := sorry
theorem dX12_speaking_17 : decode cX12_speaking 17 = .ok (.if_icmp .lt 5, 3) := sorry
theorem dX12_speaking_20 : decode cX12_speaking 20 = .ok (.iconst 3, 1) := sorry
theorem dX12_speaking_21 : decode cX12_speaking 21 = .ok (.ireturn, 1) := sorry
theorem dX12_speaking_22 : decode cX12_speaking 22 = .ok (.aload_n 0, 1) := sorry
theorem dX12_speaking_23 : decode cX12_speaking 23 = .ok (.iload_n 1, 1) := sorry
theorem dX12_speaking_24 : decode cX12_speaking 24 = .ok (.aload_n 0, 1) := sorry
theorem dX12_speaking_25 : decode cX12_speaking 25 = .ok (.getfield 40, 3) := sorry
theorem dX12_speaking_28 : decode cX12_speaking 28 = .ok (.iload_n 1, 1) := sorry
theorem dX12_speaking_29 : decode cX12_speaking 29 = .ok (.iaload, 1) := sorry
theorem dX12_speaking_30 : decode cX12_speaking 30 = .ok (.aload_n 0, 1) := sorry
theorem dX12_speaking_31 : decode cX12_speaking 31 = .ok (.getfield 43, 3) := sorry
theorem dX12_speaking_34 : decode cX12_speaking 34 = .ok (.iload_n 1, 1) := sorry
theorem dX12_speaking_35 : decode cX12_speaking 35 = .ok (.iaload, 1) := sorry
theorem dX12_speaking_36 : decode cX12_speaking 36 = .ok (.invokevirtual 221, 3) := sorry
theorem dX12_speaking_39 : decode cX12_speaking 39 = .ok (.aload_n 0, 1) := sorry
theorem dX12_speaking_40 : decode cX12_speaking 40 = .ok (.getfield 46, 3) := sorry
theorem dX12_speaking_43 : decode cX12_speaking 43 = .ok (.iload_n 1, 1) := sorry
theorem dX12_speaking_44 : decode cX12_speaking 44 = .ok (.iaload, 1) := sorry
theorem dX12_speaking_45 : decode cX12_speaking 45 = .ok (.if_icmp .eq 5, 3) := sorry
theorem dX12_speaking_48 : decode cX12_speaking 48 = .ok (.iconst 2, 1) := sorry
theorem dX12_speaking_49 : decode cX12_speaking 49 = .ok (.ireturn, 1) := sorry
theorem dX12_speaking_50 : decode cX12_speaking 50 = .ok (.aload_n 0, 1) := sorry
theorem dX12_speaking_51 : decode cX12_speaking 51 = .ok (.getfield 37, 3) := sorry
theorem dX12_speaking_54 : decode cX12_speaking 54 = .ok (.iload_n 1, 1) := sorry
theorem dX12_speaking_55 : decode cX12_speaking 55 = .ok (.iaload, 1) := sorry
theorem dX12_speaking_56 : decode cX12_speaking 56 = .ok (.iconst 1, 1) := sorry
theorem dX12_speaking_57 : decode cX12_speaking 57 = .ok (.if_icmp .ne 15, 3) := sorry
theorem dX12_speaking_60 : decode cX12_speaking 60 = .ok (.aload_n 0, 1) := sorry
theorem dX12_speaking_61 : decode cX12_speaking 61 = .ok (.iload_n 1, 1) := sorry
theorem dX12_speaking_62 : decode cX12_speaking 62 = .ok (.invokevirtual 244, 3) := sorry
theorem dX12_speaking_65 : decode cX12_speaking 65 = .ok (.bipush (-9), 2) := sorry
theorem dX12_speaking_67 : decode cX12_speaking 67 = .ok (.if_icmp .eq 5, 3) := sorry
theorem dX12_speaking_70 : decode cX12_speaking 70 = .ok (.iconst 4, 1) := sorry
theorem dX12_speaking_71 : decode cX12_speaking 71 = .ok (.ireturn, 1) := sorry
theorem dX12_speaking_72 : decode cX12_speaking 72 = .ok (.aload_n 0, 1) := sorry
theorem dX12_speaking_73 : decode cX12_speaking 73 = .ok (.getfield 37, 3) := sorry
theorem dX12_speaking_76 : decode cX12_speaking 76 = .ok (.iload_n 1, 1) := sorry
theorem dX12_speaking_77 : decode cX12_speaking 77 = .ok (.iaload, 1) := sorry
theorem dX12_speaking_78 : decode cX12_speaking 78 = .ok (.iconst 2, 1) := sorry
theorem dX12_speaking_79 : decode cX12_speaking 79 = .ok (.if_icmp .ne 7, 3) := sorry
theorem dX12_speaking_82 : decode cX12_speaking 82 = .ok (.iconst 1, 1) := sorry
theorem dX12_speaking_83 : decode cX12_speaking 83 = .ok (.goto 4, 3) := sorry
theorem dX12_speaking_86 : decode cX12_speaking 86 = .ok (.iconst 0, 1) := sorry
theorem dX12_speaking_87 : decode cX12_speaking 87 = .ok (.ireturn, 1) := sorry
theorem dX12_speaks_0 : decode cX12_speaks 0 = .ok (.aload_n 0, 1) := sorry
theorem dX12_speaks_1 : decode cX12_speaks 1 = .ok (.iload_n 1, 1) := sorry
theorem dX12_speaks_2 : decode cX12_speaks 2 = .ok (.invokevirtual 146, 3) := sorry
theorem dX12_speaks_5 : decode cX12_speaks 5 = .ok (.ifCond .eq 5, 3) := sorry
theorem dX12_speaks_8 : decode cX12_speaks 8 = .ok (.iconst (-1), 1) := sorry
theorem dX12_speaks_9 : decode cX12_speaks 9 = .ok (.ireturn, 1) := sorry
theorem dX12_speaks_10 : decode cX12_speaks 10 = .ok (.aload_n 0, 1) := sorry
theorem dX12_speaks_11 : decode cX12_speaks 11 = .ok (.iload_n 1, 1) := sorry
theorem dX12_speaks_12 : decode cX12_speaks 12 = .ok (.invokevirtual 227, 3) := sorry
theorem dX12_speaks_15 : decode cX12_speaks 15 = .ok (.ifCond .eq 8, 3) := sorry
theorem dX12_speaks_18 : decode cX12_speaks 18 = .ok (.bipush (-3), 2) := sorry
theorem dX12_speaks_20 : decode cX12_speaks 20 = .ok (.goto 8, 3) := sorry
theorem dX12_speaks_23 : decode cX12_speaks 23 = .ok (.aload_n 0, 1) := sorry
theorem dX12_speaks_24 : decode cX12_speaks 24 = .ok (.iload_n 1, 1) := sorry
theorem dX12_speaks_25 : decode cX12_speaks 25 = .ok (.invokevirtual 247, 3) := sorry
theorem dX12_speaks_28 : decode cX12_speaks 28 = .ok (.ireturn, 1) := sorry
theorem dX12_nextOn_0 : decode cX12_nextOn 0 = .ok (.aload_n 0, 1) := sorry
theorem dX12_nextOn_1 : decode cX12_nextOn 1 = .ok (.iload_n 1, 1) := sorry
theorem dX12_nextOn_2 : decode cX12_nextOn 2 = .ok (.invokevirtual 227, 3) := sorry
theorem dX12_nextOn_5 : decode cX12_nextOn 5 = .ok (.ifCond .ne 12, 3) := sorry
theorem dX12_nextOn_8 : decode cX12_nextOn 8 = .ok (.aload_n 0, 1) := sorry
theorem dX12_nextOn_9 : decode cX12_nextOn 9 = .ok (.getfield 37, 3) := sorry
theorem dX12_nextOn_12 : decode cX12_nextOn 12 = .ok (.iload_n 1, 1) := sorry
theorem dX12_nextOn_13 : decode cX12_nextOn 13 = .ok (.iaload, 1) := sorry
theorem dX12_nextOn_14 : decode cX12_nextOn 14 = .ok (.ifCond .ne 8, 3) := sorry
theorem dX12_nextOn_17 : decode cX12_nextOn 17 = .ok (.bipush (-9), 2) := sorry
theorem dX12_nextOn_19 : decode cX12_nextOn 19 = .ok (.goto 9, 3) := sorry
theorem dX12_nextOn_22 : decode cX12_nextOn 22 = .ok (.aload_n 0, 1) := sorry
theorem dX12_nextOn_23 : decode cX12_nextOn 23 = .ok (.getfield 49, 3) := sorry
theorem dX12_nextOn_26 : decode cX12_nextOn 26 = .ok (.iload_n 1, 1) := sorry
theorem dX12_nextOn_27 : decode cX12_nextOn 27 = .ok (.iaload, 1) := sorry
theorem dX12_nextOn_28 : decode cX12_nextOn 28 = .ok (.ireturn, 1) := sorry
theorem dX12_way_0 : decode cX12_way 0 = .ok (.aload_n 0, 1) := sorry
theorem dX12_way_1 : decode cX12_way 1 = .ok (.iload_n 1, 1) := sorry
theorem dX12_way_2 : decode cX12_way 2 = .ok (.invokevirtual 146, 3) := sorry
theorem dX12_way_5 : decode cX12_way 5 = .ok (.ifCond .ne 17, 3) := sorry
theorem dX12_way_8 : decode cX12_way 8 = .ok (.iload_n 2, 1) := sorry
theorem dX12_way_9 : decode cX12_way 9 = .ok (.i2l, 1) := sorry
theorem dX12_way_10 : decode cX12_way 10 = .ok (.ldc2_w 250, 3) := sorry
theorem dX12_way_13 : decode cX12_way 13 = .ok (.ldc2_w 252, 3) := sorry
theorem dX12_way_16 : decode cX12_way 16 = .ok (.invokestatic 99, 3) := sorry
theorem dX12_way_19 : decode cX12_way 19 = .ok (.ifCond .ne 5, 3) := sorry
theorem dX12_way_22 : decode cX12_way 22 = .ok (.iconst (-1), 1) := sorry
theorem dX12_way_23 : decode cX12_way 23 = .ok (.ireturn, 1) := sorry
theorem dX12_way_24 : decode cX12_way 24 = .ok (.iconst 0, 1) := sorry
theorem dX12_way_25 : decode cX12_way 25 = .ok (.istore_n 3, 1) := sorry
theorem dX12_way_26 : decode cX12_way 26 = .ok (.bipush (-9), 2) := sorry
theorem dX12_way_28 : decode cX12_way 28 = .ok (.istore 4, 2) := sorry
theorem dX12_way_30 : decode cX12_way 30 = .ok (.iload_n 1, 1) := sorry
theorem dX12_way_31 : decode cX12_way 31 = .ok (.istore 5, 2) := sorry
theorem dX12_way_33 : decode cX12_way 33 = .ok (.iload 5, 2) := sorry
theorem dX12_way_35 : decode cX12_way 35 = .ok (.ifCond .lt 31, 3) := sorry
theorem dX12_way_38 : decode cX12_way 38 = .ok (.iload_n 3, 1) := sorry
theorem dX12_way_39 : decode cX12_way 39 = .ok (.iload_n 2, 1) := sorry
theorem dX12_way_40 : decode cX12_way 40 = .ok (.if_icmp .ne 8, 3) := sorry
theorem dX12_way_43 : decode cX12_way 43 = .ok (.iload 5, 2) := sorry
theorem dX12_way_45 : decode cX12_way 45 = .ok (.goto 5, 3) := sorry
theorem dX12_way_48 : decode cX12_way 48 = .ok (.iload 4, 2) := sorry
theorem dX12_way_50 : decode cX12_way 50 = .ok (.istore 4, 2) := sorry
theorem dX12_way_52 : decode cX12_way 52 = .ok (.iinc 3 1, 3) := sorry
theorem dX12_way_55 : decode cX12_way 55 = .ok (.aload_n 0, 1) := sorry
theorem dX12_way_56 : decode cX12_way 56 = .ok (.iload 5, 2) := sorry
theorem dX12_way_58 : decode cX12_way 58 = .ok (.invokevirtual 254, 3) := sorry
theorem dX12_way_61 : decode cX12_way 61 = .ok (.istore 5, 2) := sorry
theorem dX12_way_63 : decode cX12_way 63 = .ok (.goto (-30), 3) := sorry
theorem dX12_way_66 : decode cX12_way 66 = .ok (.iload_n 2, 1) := sorry
theorem dX12_way_67 : decode cX12_way 67 = .ok (.ifCond .ge 7, 3) := sorry
theorem dX12_way_70 : decode cX12_way 70 = .ok (.iload_n 3, 1) := sorry
theorem dX12_way_71 : decode cX12_way 71 = .ok (.goto 5, 3) := sorry
theorem dX12_way_74 : decode cX12_way 74 = .ok (.iload 4, 2) := sorry
theorem dX12_way_76 : decode cX12_way 76 = .ok (.ireturn, 1) := sorry
theorem dX12_doubtOn_0 : decode cX12_doubtOn 0 = .ok (.iload_n 1, 1) := sorry
theorem dX12_doubtOn_1 : decode cX12_doubtOn 1 = .ok (.istore_n 2, 1) := sorry
theorem dX12_doubtOn_2 : decode cX12_doubtOn 2 = .ok (.iload_n 2, 1) := sorry
theorem dX12_doubtOn_3 : decode cX12_doubtOn 3 = .ok (.ifCond .lt 31, 3) := sorry
theorem dX12_doubtOn_6 : decode cX12_doubtOn 6 = .ok (.aload_n 0, 1) := sorry
theorem dX12_doubtOn_7 : decode cX12_doubtOn 7 = .ok (.iload_n 2, 1) := sorry
theorem dX12_doubtOn_8 : decode cX12_doubtOn 8 = .ok (.invokevirtual 227, 3) := sorry
theorem dX12_doubtOn_11 : decode cX12_doubtOn 11 = .ok (.ifCond .ne 12, 3) := sorry
theorem dX12_doubtOn_14 : decode cX12_doubtOn 14 = .ok (.aload_n 0, 1) := sorry
theorem dX12_doubtOn_15 : decode cX12_doubtOn 15 = .ok (.iload_n 2, 1) := sorry
theorem dX12_doubtOn_16 : decode cX12_doubtOn 16 = .ok (.invokevirtual 247, 3) := sorry
theorem dX12_doubtOn_19 : decode cX12_doubtOn 19 = .ok (.iconst 1, 1) := sorry
theorem dX12_doubtOn_20 : decode cX12_doubtOn 20 = .ok (.if_icmp .le 5, 3) := sorry
theorem dX12_doubtOn_23 : decode cX12_doubtOn 23 = .ok (.iload_n 2, 1) := sorry
theorem dX12_doubtOn_24 : decode cX12_doubtOn 24 = .ok (.ireturn, 1) := sorry
theorem dX12_doubtOn_25 : decode cX12_doubtOn 25 = .ok (.aload_n 0, 1) := sorry
theorem dX12_doubtOn_26 : decode cX12_doubtOn 26 = .ok (.iload_n 2, 1) := sorry
theorem dX12_doubtOn_27 : decode cX12_doubtOn 27 = .ok (.invokevirtual 254, 3) := sorry
theorem dX12_doubtOn_30 : decode cX12_doubtOn 30 = .ok (.istore_n 2, 1) := sorry
theorem dX12_doubtOn_31 : decode cX12_doubtOn 31 = .ok (.goto (-29), 3) := sorry
theorem dX12_doubtOn_34 : decode cX12_doubtOn 34 = .ok (.bipush (-9), 2) := sorry
theorem dX12_doubtOn_36 : decode cX12_doubtOn 36 = .ok (.ireturn, 1) := sorry
theorem dX12_doubt_0 : decode cX12_doubt 0 = .ok (.aload_n 0, 1) := sorry
theorem dX12_doubt_1 : decode cX12_doubt 1 = .ok (.iload_n 1, 1) := sorry
theorem dX12_doubt_2 : decode cX12_doubt 2 = .ok (.invokevirtual 146, 3) := sorry
theorem dX12_doubt_5 : decode cX12_doubt 5 = .ok (.ifCond .eq 7, 3) := sorry
theorem dX12_doubt_8 : decode cX12_doubt 8 = .ok (.iconst (-1), 1) := sorry
theorem dX12_doubt_9 : decode cX12_doubt 9 = .ok (.goto 8, 3) := sorry
theorem dX12_doubt_12 : decode cX12_doubt 12 = .ok (.aload_n 0, 1) := sorry
theorem dX12_doubt_13 : decode cX12_doubt 13 = .ok (.iload_n 1, 1) := sorry
theorem dX12_doubt_14 : decode cX12_doubt 14 = .ok (.invokevirtual 257, 3) := sorry
theorem dX12_doubt_17 : decode cX12_doubt 17 = .ok (.ireturn, 1) := sorry
theorem dX12_whole_0 : decode cX12_whole 0 = .ok (.aload_n 0, 1) := sorry
theorem dX12_whole_1 : decode cX12_whole 1 = .ok (.iload_n 1, 1) := sorry
theorem dX12_whole_2 : decode cX12_whole 2 = .ok (.invokevirtual 146, 3) := sorry
theorem dX12_whole_5 : decode cX12_whole 5 = .ok (.ifCond .eq 5, 3) := sorry
theorem dX12_whole_8 : decode cX12_whole 8 = .ok (.iconst (-1), 1) := sorry
theorem dX12_whole_9 : decode cX12_whole 9 = .ok (.ireturn, 1) := sorry
theorem dX12_whole_10 : decode cX12_whole 10 = .ok (.aload_n 0, 1) := sorry
theorem dX12_whole_11 : decode cX12_whole 11 = .ok (.iload_n 1, 1) := sorry
theorem dX12_whole_12 : decode cX12_whole 12 = .ok (.invokevirtual 257, 3) := sorry
theorem dX12_whole_15 : decode cX12_whole 15 = .ok (.ifCond .ge 7, 3) := sorry
theorem dX12_whole_18 : decode cX12_whole 18 = .ok (.iconst 1, 1) := sorry
theorem dX12_whole_19 : decode cX12_whole 19 = .ok (.goto 4, 3) := sorry
theorem dX12_whole_22 : decode cX12_whole 22 = .ok (.iconst 0, 1) := sorry
theorem dX12_whole_23 : decode cX12_whole 23 = .ok (.istore_n 2, 1) := sorry
theorem dX12_whole_24 : decode cX12_whole 24 = .ok (.iload_n 1, 1) := sorry
theorem dX12_whole_25 : decode cX12_whole 25 = .ok (.istore_n 3, 1) := sorry
theorem dX12_whole_26 : decode cX12_whole 26 = .ok (.iload_n 3, 1) := sorry
theorem dX12_whole_27 : decode cX12_whole 27 = .ok (.ifCond .lt 32, 3) := sorry
theorem dX12_whole_30 : decode cX12_whole 30 = .ok (.iload_n 2, 1) := sorry
theorem dX12_whole_31 : decode cX12_whole 31 = .ok (.ifCond .eq 17, 3) := sorry
theorem dX12_whole_34 : decode cX12_whole 34 = .ok (.aload_n 0, 1) := sorry
theorem dX12_whole_35 : decode cX12_whole 35 = .ok (.getfield 37, 3) := sorry
theorem dX12_whole_38 : decode cX12_whole 38 = .ok (.iload_n 3, 1) := sorry
theorem dX12_whole_39 : decode cX12_whole 39 = .ok (.iaload, 1) := sorry
theorem dX12_whole_40 : decode cX12_whole 40 = .ok (.iconst 2, 1) := sorry
theorem dX12_whole_41 : decode cX12_whole 41 = .ok (.if_icmp .eq 7, 3) := sorry
theorem dX12_whole_44 : decode cX12_whole 44 = .ok (.iconst 1, 1) := sorry
theorem dX12_whole_45 : decode cX12_whole 45 = .ok (.goto 4, 3) := sorry
theorem dX12_whole_48 : decode cX12_whole 48 = .ok (.iconst 0, 1) := sorry
theorem dX12_whole_49 : decode cX12_whole 49 = .ok (.istore_n 2, 1) := sorry
theorem dX12_whole_50 : decode cX12_whole 50 = .ok (.aload_n 0, 1) := sorry
theorem dX12_whole_51 : decode cX12_whole 51 = .ok (.iload_n 3, 1) := sorry
theorem dX12_whole_52 : decode cX12_whole 52 = .ok (.invokevirtual 254, 3) := sorry
theorem dX12_whole_55 : decode cX12_whole 55 = .ok (.istore_n 3, 1) := sorry
theorem dX12_whole_56 : decode cX12_whole 56 = .ok (.goto (-30), 3) := sorry
theorem dX12_whole_59 : decode cX12_whole 59 = .ok (.iload_n 2, 1) := sorry
theorem dX12_whole_60 : decode cX12_whole 60 = .ok (.ifCond .eq 7, 3) := sorry
theorem dX12_whole_63 : decode cX12_whole 63 = .ok (.iconst 1, 1) := sorry
theorem dX12_whole_64 : decode cX12_whole 64 = .ok (.goto 4, 3) := sorry
theorem dX12_whole_67 : decode cX12_whole 67 = .ok (.iconst 0, 1) := sorry
theorem dX12_whole_68 : decode cX12_whole 68 = .ok (.ireturn, 1) := sorry
theorem dX12_proof_0 : decode cX12_proof 0 = .ok (.aload_n 0, 1) := sorry
theorem dX12_proof_1 : decode cX12_proof 1 = .ok (.iload_n 1, 1) := sorry
theorem dX12_proof_2 : decode cX12_proof 2 = .ok (.invokevirtual 146, 3) := sorry
theorem dX12_proof_5 : decode cX12_proof 5 = .ok (.ifCond .ne 27, 3) := sorry
theorem dX12_proof_8 : decode cX12_proof 8 = .ok (.iload_n 2, 1) := sorry
theorem dX12_proof_9 : decode cX12_proof 9 = .ok (.i2l, 1) := sorry
theorem dX12_proof_10 : decode cX12_proof 10 = .ok (.lconst 0, 1) := sorry
theorem dX12_proof_11 : decode cX12_proof 11 = .ok (.ldc2_w 108, 3) := sorry
theorem dX12_proof_14 : decode cX12_proof 14 = .ok (.invokestatic 99, 3) := sorry
theorem dX12_proof_17 : decode cX12_proof 17 = .ok (.ifCond .eq 15, 3) := sorry
theorem dX12_proof_20 : decode cX12_proof 20 = .ok (.iload_n 3, 1) := sorry
theorem dX12_proof_21 : decode cX12_proof 21 = .ok (.i2l, 1) := sorry
theorem dX12_proof_22 : decode cX12_proof 22 = .ok (.lconst 0, 1) := sorry
theorem dX12_proof_23 : decode cX12_proof 23 = .ok (.ldc2_w 260, 3) := sorry
theorem dX12_proof_26 : decode cX12_proof 26 = .ok (.invokestatic 99, 3) := sorry
theorem dX12_proof_29 : decode cX12_proof 29 = .ok (.ifCond .ne 5, 3) := sorry
theorem dX12_proof_32 : decode cX12_proof 32 = .ok (.iconst (-1), 1) := sorry
theorem dX12_proof_33 : decode cX12_proof 33 = .ok (.ireturn, 1) := sorry
theorem dX12_proof_34 : decode cX12_proof 34 = .ok (.aload_n 0, 1) := sorry
theorem dX12_proof_35 : decode cX12_proof 35 = .ok (.iload_n 1, 1) := sorry
theorem dX12_proof_36 : decode cX12_proof 36 = .ok (.invokevirtual 142, 3) := sorry
theorem dX12_proof_39 : decode cX12_proof 39 = .ok (.aload_n 0, 1) := sorry
theorem dX12_proof_40 : decode cX12_proof 40 = .ok (.getfield 19, 3) := sorry
theorem dX12_proof_43 : decode cX12_proof 43 = .ok (.bipush 16, 2) := sorry
theorem dX12_proof_45 : decode cX12_proof 45 = .ok (.iload_n 2, 1) := sorry
theorem dX12_proof_46 : decode cX12_proof 46 = .ok (.iadd, 1) := sorry
theorem dX12_proof_47 : decode cX12_proof 47 = .ok (.iload_n 3, 1) := sorry
theorem dX12_proof_48 : decode cX12_proof 48 = .ok (.ishr, 1) := sorry
theorem dX12_proof_49 : decode cX12_proof 49 = .ok (.iconst 1, 1) := sorry
theorem dX12_proof_50 : decode cX12_proof 50 = .ok (.ixor, 1) := sorry
theorem dX12_proof_51 : decode cX12_proof 51 = .ok (.iaload, 1) := sorry
theorem dX12_proof_52 : decode cX12_proof 52 = .ok (.ireturn, 1) := sorry
theorem dX12_proves_0 : decode cX12_proves 0 = .ok (.iload 4, 2) := sorry
theorem dX12_proves_2 : decode cX12_proves 2 = .ok (.invokestatic 110, 3) := sorry
theorem dX12_proves_5 : decode cX12_proves 5 = .ok (.ifCond .ne 15, 3) := sorry
theorem dX12_proves_8 : decode cX12_proves 8 = .ok (.iload_n 1, 1) := sorry
theorem dX12_proves_9 : decode cX12_proves 9 = .ok (.i2l, 1) := sorry
theorem dX12_proves_10 : decode cX12_proves 10 = .ok (.lconst 0, 1) := sorry
theorem dX12_proves_11 : decode cX12_proves 11 = .ok (.ldc2_w 108, 3) := sorry
theorem dX12_proves_14 : decode cX12_proves 14 = .ok (.invokestatic 99, 3) := sorry
theorem dX12_proves_17 : decode cX12_proves 17 = .ok (.ifCond .ne 9, 3) := sorry
theorem dX12_proves_20 : decode cX12_proves 20 = .ok (.aload_n 0, 1) := sorry
theorem dX12_proves_21 : decode cX12_proves 21 = .ok (.iconst (-1), 1) := sorry
theorem dX12_proves_22 : decode cX12_proves 22 = .ok (.invokevirtual 114, 3) := sorry
theorem dX12_proves_25 : decode cX12_proves 25 = .ok (.ireturn, 1) := sorry
theorem dX12_proves_26 : decode cX12_proves 26 = .ok (.iload_n 2, 1) := sorry
theorem dX12_proves_27 : decode cX12_proves 27 = .ok (.i2l, 1) := sorry
theorem dX12_proves_28 : decode cX12_proves 28 = .ok (.ldc2_w 250, 3) := sorry
theorem dX12_proves_31 : decode cX12_proves 31 = .ok (.ldc2_w 126, 3) := sorry
theorem dX12_proves_34 : decode cX12_proves 34 = .ok (.invokestatic 99, 3) := sorry
theorem dX12_proves_37 : decode cX12_proves 37 = .ok (.ifCond .eq 11, 3) := sorry
theorem dX12_proves_40 : decode cX12_proves 40 = .ok (.iload 5, 2) := sorry
theorem dX12_proves_42 : decode cX12_proves 42 = .ok (.invokestatic 119, 3) := sorry
theorem dX12_proves_45 : decode cX12_proves 45 = .ok (.ifCond .ne 10, 3) := sorry
theorem dX12_proves_48 : decode cX12_proves 48 = .ok (.aload_n 0, 1) := sorry
theorem dX12_proves_49 : decode cX12_proves 49 = .ok (.bipush (-2), 2) := sorry
theorem dX12_proves_51 : decode cX12_proves 51 = .ok (.invokevirtual 114, 3) := sorry
theorem dX12_proves_54 : decode cX12_proves 54 = .ok (.ireturn, 1) := sorry
theorem dX12_proves_55 : decode cX12_proves 55 = .ok (.aload_n 0, 1) := sorry
theorem dX12_proves_56 : decode cX12_proves 56 = .ok (.iload 4, 2) := sorry
theorem dX12_proves_58 : decode cX12_proves 58 = .ok (.iload 5, 2) := sorry
theorem dX12_proves_60 : decode cX12_proves 60 = .ok (.iload 6, 2) := sorry
theorem dX12_proves_62 : decode cX12_proves 62 = .ok (.ldc2_w 117, 3) := sorry
theorem dX12_proves_65 : decode cX12_proves 65 = .ok (.invokevirtual 122, 3) := sorry
theorem dX12_proves_68 : decode cX12_proves 68 = .ok (.istore 7, 2) := sorry
theorem dX12_proves_70 : decode cX12_proves 70 = .ok (.iload 7, 2) := sorry
theorem dX12_proves_72 : decode cX12_proves 72 = .ok (.ifCond .ge 6, 3) := sorry
theorem dX12_proves_75 : decode cX12_proves 75 = .ok (.iload 7, 2) := sorry
theorem dX12_proves_77 : decode cX12_proves 77 = .ok (.ireturn, 1) := sorry
theorem dX12_proves_78 : decode cX12_proves 78 = .ok (.iload_n 2, 1) := sorry
theorem dX12_proves_79 : decode cX12_proves 79 = .ok (.iconst 1, 1) := sorry
theorem dX12_proves_80 : decode cX12_proves 80 = .ok (.iadd, 1) := sorry
theorem dX12_proves_81 : decode cX12_proves 81 = .ok (.istore 8, 2) := sorry
theorem dX12_proves_83 : decode cX12_proves 83 = .ok (.iconst 1, 1) := sorry
theorem dX12_proves_84 : decode cX12_proves 84 = .ok (.istore 9, 2) := sorry
theorem dX12_proves_86 : decode cX12_proves 86 = .ok (.iconst 0, 1) := sorry
theorem dX12_proves_87 : decode cX12_proves 87 = .ok (.istore 10, 2) := sorry
theorem dX12_proves_89 : decode cX12_proves 89 = .ok (.iload 10, 2) := sorry
theorem dX12_proves_91 : decode cX12_proves 91 = .ok (.iconst 4, 1) := sorry
theorem dX12_proves_92 : decode cX12_proves 92 = .ok (.if_icmp .ge 89, 3) := sorry
theorem dX12_proves_95 : decode cX12_proves 95 = .ok (.aload_n 0, 1) := sorry
theorem dX12_proves_96 : decode cX12_proves 96 = .ok (.getfield 73, 3) := sorry
theorem dX12_proves_99 : decode cX12_proves 99 = .ok (.bipush 60, 2) := sorry
theorem dX12_proves_101 : decode cX12_proves 101 = .ok (.iload 4, 2) := sorry
theorem dX12_proves_103 : decode cX12_proves 103 = .ok (.imul, 1) := sorry
theorem dX12_proves_104 : decode cX12_proves 104 = .ok (.iload 6, 2) := sorry
theorem dX12_proves_106 : decode cX12_proves 106 = .ok (.iadd, 1) := sorry
theorem dX12_proves_107 : decode cX12_proves 107 = .ok (.iload 10, 2) := sorry
theorem dX12_proves_109 : decode cX12_proves 109 = .ok (.iadd, 1) := sorry
theorem dX12_proves_110 : decode cX12_proves 110 = .ok (.iaload, 1) := sorry
theorem dX12_proves_111 : decode cX12_proves 111 = .ok (.istore 11, 2) := sorry
theorem dX12_proves_113 : decode cX12_proves 113 = .ok (.iload 9, 2) := sorry
theorem dX12_proves_115 : decode cX12_proves 115 = .ok (.ifCond .eq 20, 3) := sorry
theorem dX12_proves_118 : decode cX12_proves 118 = .ok (.iload 11, 2) := sorry
theorem dX12_proves_120 : decode cX12_proves 120 = .ok (.i2l, 1) := sorry
theorem dX12_proves_121 : decode cX12_proves 121 = .ok (.lconst 0, 1) := sorry
theorem dX12_proves_122 : decode cX12_proves 122 = .ok (.ldc2_w 214, 3) := sorry
theorem dX12_proves_125 : decode cX12_proves 125 = .ok (.invokestatic 99, 3) := sorry
theorem dX12_proves_128 : decode cX12_proves 128 = .ok (.ifCond .eq 7, 3) := sorry
theorem dX12_proves_131 : decode cX12_proves 131 = .ok (.iconst 1, 1) := sorry
theorem dX12_proves_132 : decode cX12_proves 132 = .ok (.goto 4, 3) := sorry
theorem dX12_proves_135 : decode cX12_proves 135 = .ok (.iconst 0, 1) := sorry
theorem dX12_proves_136 : decode cX12_proves 136 = .ok (.istore 9, 2) := sorry
theorem dX12_proves_138 : decode cX12_proves 138 = .ok (.iload 9, 2) := sorry
theorem dX12_proves_140 : decode cX12_proves 140 = .ok (.ifCond .ne 7, 3) := sorry
theorem dX12_proves_143 : decode cX12_proves 143 = .ok (.iconst 0, 1) := sorry
theorem dX12_proves_144 : decode cX12_proves 144 = .ok (.goto 29, 3) := sorry
theorem dX12_proves_147 : decode cX12_proves 147 = .ok (.iload_n 1, 1) := sorry
theorem dX12_proves_148 : decode cX12_proves 148 = .ok (.iload 10, 2) := sorry
theorem dX12_proves_150 : decode cX12_proves 150 = .ok (.invokestatic 262, 3) := sorry
theorem dX12_proves_153 : decode cX12_proves 153 = .ok (.ifCond .eq 13, 3) := sorry
theorem dX12_proves_156 : decode cX12_proves 156 = .ok (.iload 11, 2) := sorry
theorem dX12_proves_158 : decode cX12_proves 158 = .ok (.iload 8, 2) := sorry
theorem dX12_proves_160 : decode cX12_proves 160 = .ok (.invokestatic 139, 3) := sorry
theorem dX12_proves_163 : decode cX12_proves 163 = .ok (.goto 10, 3) := sorry
theorem dX12_proves_166 : decode cX12_proves 166 = .ok (.iload 8, 2) := sorry
theorem dX12_proves_168 : decode cX12_proves 168 = .ok (.iload 11, 2) := sorry
theorem dX12_proves_170 : decode cX12_proves 170 = .ok (.invokestatic 139, 3) := sorry
theorem dX12_proves_173 : decode cX12_proves 173 = .ok (.istore 8, 2) := sorry
theorem dX12_proves_175 : decode cX12_proves 175 = .ok (.iinc 10 1, 3) := sorry
theorem dX12_proves_178 : decode cX12_proves 178 = .ok (.goto (-89), 3) := sorry
theorem dX12_proves_181 : decode cX12_proves 181 = .ok (.aload_n 0, 1) := sorry
theorem dX12_proves_182 : decode cX12_proves 182 = .ok (.iload 9, 2) := sorry
theorem dX12_proves_184 : decode cX12_proves 184 = .ok (.ifCond .eq 13, 3) := sorry
theorem dX12_proves_187 : decode cX12_proves 187 = .ok (.iload 8, 2) := sorry
theorem dX12_proves_189 : decode cX12_proves 189 = .ok (.iload_n 3, 1) := sorry
theorem dX12_proves_190 : decode cX12_proves 190 = .ok (.if_icmp .ne 7, 3) := sorry
theorem dX12_proves_193 : decode cX12_proves 193 = .ok (.iconst 1, 1) := sorry
theorem dX12_proves_194 : decode cX12_proves 194 = .ok (.goto 4, 3) := sorry
theorem dX12_proves_197 : decode cX12_proves 197 = .ok (.iconst 0, 1) := sorry
theorem dX12_proves_198 : decode cX12_proves 198 = .ok (.invokevirtual 114, 3) := sorry
theorem dX12_proves_201 : decode cX12_proves 201 = .ok (.ireturn, 1) := sorry
theorem dX12_looked_0 : decode cX12_looked 0 = .ok (.bipush 8, 2) := sorry
theorem dX12_looked_2 : decode cX12_looked 2 = .ok (.aload_n 0, 1) := sorry
theorem dX12_looked_3 : decode cX12_looked 3 = .ok (.iload_n 1, 1) := sorry
theorem dX12_looked_4 : decode cX12_looked 4 = .ok (.invokevirtual 128, 3) := sorry
theorem dX12_looked_7 : decode cX12_looked 7 = .ok (.invokestatic 184, 3) := sorry
theorem dX12_looked_10 : decode cX12_looked 10 = .ok (.ireturn, 1) := sorry
theorem dX12_isMark_0 : decode cX12_isMark 0 = .ok (.iload_n 0, 1) := sorry
theorem dX12_isMark_1 : decode cX12_isMark 1 = .ok (.i2l, 1) := sorry
theorem dX12_isMark_2 : decode cX12_isMark 2 = .ok (.lconst 0, 1) := sorry
theorem dX12_isMark_3 : decode cX12_isMark 3 = .ok (.ldc2_w 265, 3) := sorry
theorem dX12_isMark_6 : decode cX12_isMark 6 = .ok (.invokestatic 99, 3) := sorry
theorem dX12_isMark_9 : decode cX12_isMark 9 = .ok (.ireturn, 1) := sorry
theorem dX12_isSo_0 : decode cX12_isSo 0 = .ok (.aload_n 0, 1) := sorry
theorem dX12_isSo_1 : decode cX12_isSo 1 = .ok (.getfield 16, 3) := sorry
theorem dX12_isSo_4 : decode cX12_isSo 4 = .ok (.bipush 16, 2) := sorry
theorem dX12_isSo_6 : decode cX12_isSo 6 = .ok (.iload_n 1, 1) := sorry
theorem dX12_isSo_7 : decode cX12_isSo 7 = .ok (.imul, 1) := sorry
theorem dX12_isSo_8 : decode cX12_isSo 8 = .ok (.aload_n 0, 1) := sorry
theorem dX12_isSo_9 : decode cX12_isSo 9 = .ok (.iload_n 1, 1) := sorry
theorem dX12_isSo_10 : decode cX12_isSo 10 = .ok (.iload_n 2, 1) := sorry
theorem dX12_isSo_11 : decode cX12_isSo 11 = .ok (.invokevirtual 131, 3) := sorry
theorem dX12_isSo_14 : decode cX12_isSo 14 = .ok (.iadd, 1) := sorry
theorem dX12_isSo_15 : decode cX12_isSo 15 = .ok (.iaload, 1) := sorry
theorem dX12_isSo_16 : decode cX12_isSo 16 = .ok (.iconst 2, 1) := sorry
theorem dX12_isSo_17 : decode cX12_isSo 17 = .ok (.irem, 1) := sorry
theorem dX12_isSo_18 : decode cX12_isSo 18 = .ok (.iload_n 3, 1) := sorry
theorem dX12_isSo_19 : decode cX12_isSo 19 = .ok (.iload_n 2, 1) := sorry
theorem dX12_isSo_20 : decode cX12_isSo 20 = .ok (.ishr, 1) := sorry
theorem dX12_isSo_21 : decode cX12_isSo 21 = .ok (.iconst 1, 1) := sorry
theorem dX12_isSo_22 : decode cX12_isSo 22 = .ok (.iand, 1) := sorry
theorem dX12_isSo_23 : decode cX12_isSo 23 = .ok (.if_icmp .ne 7, 3) := sorry
theorem dX12_isSo_26 : decode cX12_isSo 26 = .ok (.iconst 1, 1) := sorry
theorem dX12_isSo_27 : decode cX12_isSo 27 = .ok (.goto 4, 3) := sorry
theorem dX12_isSo_30 : decode cX12_isSo 30 = .ok (.iconst 0, 1) := sorry
theorem dX12_isSo_31 : decode cX12_isSo 31 = .ok (.ireturn, 1) := sorry
theorem dX12_hide_0 : decode cX12_hide 0 = .ok (.aload_n 0, 1) := sorry
theorem dX12_hide_1 : decode cX12_hide 1 = .ok (.iload_n 1, 1) := sorry
theorem dX12_hide_2 : decode cX12_hide 2 = .ok (.invokevirtual 146, 3) := sorry
theorem dX12_hide_5 : decode cX12_hide 5 = .ok (.ifCond .eq 5, 3) := sorry
theorem dX12_hide_8 : decode cX12_hide 8 = .ok (.iconst (-1), 1) := sorry
theorem dX12_hide_9 : decode cX12_hide 9 = .ok (.ireturn, 1) := sorry
theorem dX12_hide_10 : decode cX12_hide 10 = .ok (.iload_n 2, 1) := sorry
theorem dX12_hide_11 : decode cX12_hide 11 = .ok (.invokestatic 267, 3) := sorry
theorem dX12_hide_14 : decode cX12_hide 14 = .ok (.ifCond .ne 6, 3) := sorry
theorem dX12_hide_17 : decode cX12_hide 17 = .ok (.bipush (-2), 2) := sorry
theorem dX12_hide_19 : decode cX12_hide 19 = .ok (.ireturn, 1) := sorry
theorem dX12_hide_20 : decode cX12_hide 20 = .ok (.iconst 0, 1) := sorry
theorem dX12_hide_21 : decode cX12_hide 21 = .ok (.istore_n 3, 1) := sorry
theorem dX12_hide_22 : decode cX12_hide 22 = .ok (.iconst 0, 1) := sorry
theorem dX12_hide_23 : decode cX12_hide 23 = .ok (.istore 4, 2) := sorry
theorem dX12_hide_25 : decode cX12_hide 25 = .ok (.iload 4, 2) := sorry
theorem dX12_hide_27 : decode cX12_hide 27 = .ok (.aload_n 0, 1) := sorry
theorem dX12_hide_28 : decode cX12_hide 28 = .ok (.iload_n 1, 1) := sorry
theorem dX12_hide_29 : decode cX12_hide 29 = .ok (.invokevirtual 270, 3) := sorry
theorem dX12_hide_32 : decode cX12_hide 32 = .ok (.if_icmp .ge 67, 3) := sorry
theorem dX12_hide_35 : decode cX12_hide 35 = .ok (.aload_n 0, 1) := sorry
theorem dX12_hide_36 : decode cX12_hide 36 = .ok (.iload_n 1, 1) := sorry
theorem dX12_hide_37 : decode cX12_hide 37 = .ok (.iload 4, 2) := sorry
theorem dX12_hide_39 : decode cX12_hide 39 = .ok (.iload_n 2, 1) := sorry
theorem dX12_hide_40 : decode cX12_hide 40 = .ok (.invokevirtual 273, 3) := sorry
theorem dX12_hide_43 : decode cX12_hide 43 = .ok (.ifCond .ne 50, 3) := sorry
theorem dX12_hide_46 : decode cX12_hide 46 = .ok (.bipush 16, 2) := sorry
theorem dX12_hide_48 : decode cX12_hide 48 = .ok (.iload_n 1, 1) := sorry
theorem dX12_hide_49 : decode cX12_hide 49 = .ok (.imul, 1) := sorry
theorem dX12_hide_50 : decode cX12_hide 50 = .ok (.aload_n 0, 1) := sorry
theorem dX12_hide_51 : decode cX12_hide 51 = .ok (.iload_n 1, 1) := sorry
theorem dX12_hide_52 : decode cX12_hide 52 = .ok (.iload 4, 2) := sorry
theorem dX12_hide_54 : decode cX12_hide 54 = .ok (.invokevirtual 131, 3) := sorry
theorem dX12_hide_57 : decode cX12_hide 57 = .ok (.iadd, 1) := sorry
theorem dX12_hide_58 : decode cX12_hide 58 = .ok (.istore 5, 2) := sorry
theorem dX12_hide_60 : decode cX12_hide 60 = .ok (.aload_n 0, 1) := sorry
theorem dX12_hide_61 : decode cX12_hide 61 = .ok (.getfield 16, 3) := sorry
theorem dX12_hide_64 : decode cX12_hide 64 = .ok (.iload 5, 2) := sorry
theorem dX12_hide_66 : decode cX12_hide 66 = .ok (.aload_n 0, 1) := sorry
theorem dX12_hide_67 : decode cX12_hide 67 = .ok (.getfield 16, 3) := sorry
theorem dX12_hide_70 : decode cX12_hide 70 = .ok (.iload 5, 2) := sorry
theorem dX12_hide_72 : decode cX12_hide 72 = .ok (.iaload, 1) := sorry
theorem dX12_hide_73 : decode cX12_hide 73 = .ok (.ifCond .ne 7, 3) := sorry
theorem dX12_hide_76 : decode cX12_hide 76 = .ok (.iconst 1, 1) := sorry
theorem dX12_hide_77 : decode cX12_hide 77 = .ok (.goto 12, 3) := sorry
theorem dX12_hide_80 : decode cX12_hide 80 = .ok (.aload_n 0, 1) := sorry
theorem dX12_hide_81 : decode cX12_hide 81 = .ok (.getfield 16, 3) := sorry
theorem dX12_hide_84 : decode cX12_hide 84 = .ok (.iload 5, 2) := sorry
theorem dX12_hide_86 : decode cX12_hide 86 = .ok (.iaload, 1) := sorry
theorem dX12_hide_87 : decode cX12_hide 87 = .ok (.iconst 1, 1) := sorry
theorem dX12_hide_88 : decode cX12_hide 88 = .ok (.isub, 1) := sorry
theorem dX12_hide_89 : decode cX12_hide 89 = .ok (.iastore, 1) := sorry
theorem dX12_hide_90 : decode cX12_hide 90 = .ok (.iinc 3 1, 3) := sorry
theorem dX12_hide_93 : decode cX12_hide 93 = .ok (.iinc 4 1, 3) := sorry
theorem dX12_hide_96 : decode cX12_hide 96 = .ok (.goto (-71), 3) := sorry
theorem dX12_hide_99 : decode cX12_hide 99 = .ok (.iload_n 3, 1) := sorry
theorem dX12_hide_100 : decode cX12_hide 100 = .ok (.ireturn, 1) := sorry
theorem dX12_foundIn_0 : decode cX12_foundIn 0 = .ok (.iconst 0, 1) := sorry
theorem dX12_foundIn_1 : decode cX12_foundIn 1 = .ok (.istore_n 3, 1) := sorry
theorem dX12_foundIn_2 : decode cX12_foundIn 2 = .ok (.iconst 0, 1) := sorry
theorem dX12_foundIn_3 : decode cX12_foundIn 3 = .ok (.istore 4, 2) := sorry
theorem dX12_foundIn_5 : decode cX12_foundIn 5 = .ok (.iload 4, 2) := sorry
theorem dX12_foundIn_7 : decode cX12_foundIn 7 = .ok (.aload_n 0, 1) := sorry
theorem dX12_foundIn_8 : decode cX12_foundIn 8 = .ok (.iload_n 1, 1) := sorry
theorem dX12_foundIn_9 : decode cX12_foundIn 9 = .ok (.invokevirtual 270, 3) := sorry
theorem dX12_foundIn_12 : decode cX12_foundIn 12 = .ok (.if_icmp .ge 28, 3) := sorry
theorem dX12_foundIn_15 : decode cX12_foundIn 15 = .ok (.iload_n 3, 1) := sorry
theorem dX12_foundIn_16 : decode cX12_foundIn 16 = .ok (.aload_n 0, 1) := sorry
theorem dX12_foundIn_17 : decode cX12_foundIn 17 = .ok (.iload_n 1, 1) := sorry
theorem dX12_foundIn_18 : decode cX12_foundIn 18 = .ok (.iload 4, 2) := sorry
theorem dX12_foundIn_20 : decode cX12_foundIn 20 = .ok (.iload_n 2, 1) := sorry
theorem dX12_foundIn_21 : decode cX12_foundIn 21 = .ok (.invokevirtual 273, 3) := sorry
theorem dX12_foundIn_24 : decode cX12_foundIn 24 = .ok (.ifCond .eq 7, 3) := sorry
theorem dX12_foundIn_27 : decode cX12_foundIn 27 = .ok (.iconst 1, 1) := sorry
theorem dX12_foundIn_28 : decode cX12_foundIn 28 = .ok (.goto 4, 3) := sorry
theorem dX12_foundIn_31 : decode cX12_foundIn 31 = .ok (.iconst 0, 1) := sorry
theorem dX12_foundIn_32 : decode cX12_foundIn 32 = .ok (.iadd, 1) := sorry
theorem dX12_foundIn_33 : decode cX12_foundIn 33 = .ok (.istore_n 3, 1) := sorry
theorem dX12_foundIn_34 : decode cX12_foundIn 34 = .ok (.iinc 4 1, 3) := sorry
theorem dX12_foundIn_37 : decode cX12_foundIn 37 = .ok (.goto (-32), 3) := sorry
theorem dX12_foundIn_40 : decode cX12_foundIn 40 = .ok (.iload_n 3, 1) := sorry
theorem dX12_foundIn_41 : decode cX12_foundIn 41 = .ok (.ireturn, 1) := sorry
theorem dX12_found_0 : decode cX12_found 0 = .ok (.aload_n 0, 1) := sorry
theorem dX12_found_1 : decode cX12_found 1 = .ok (.iload_n 1, 1) := sorry
theorem dX12_found_2 : decode cX12_found 2 = .ok (.invokevirtual 146, 3) := sorry
theorem dX12_found_5 : decode cX12_found 5 = .ok (.ifCond .eq 5, 3) := sorry
theorem dX12_found_8 : decode cX12_found 8 = .ok (.iconst (-1), 1) := sorry
theorem dX12_found_9 : decode cX12_found 9 = .ok (.ireturn, 1) := sorry
theorem dX12_found_10 : decode cX12_found 10 = .ok (.iload_n 2, 1) := sorry
theorem dX12_found_11 : decode cX12_found 11 = .ok (.invokestatic 267, 3) := sorry
theorem dX12_found_14 : decode cX12_found 14 = .ok (.ifCond .eq 12, 3) := sorry
theorem dX12_found_17 : decode cX12_found 17 = .ok (.aload_n 0, 1) := sorry
theorem dX12_found_18 : decode cX12_found 18 = .ok (.iload_n 1, 1) := sorry
theorem dX12_found_19 : decode cX12_found 19 = .ok (.iload_n 2, 1) := sorry
theorem dX12_found_20 : decode cX12_found 20 = .ok (.invokevirtual 276, 3) := sorry
theorem dX12_found_23 : decode cX12_found 23 = .ok (.goto 5, 3) := sorry
theorem dX12_found_26 : decode cX12_found 26 = .ok (.bipush (-2), 2) := sorry
theorem dX12_found_28 : decode cX12_found 28 = .ok (.ireturn, 1) := sorry
theorem dX12_falsely_0 : decode cX12_falsely 0 = .ok (.aload_n 0, 1) := sorry
theorem dX12_falsely_1 : decode cX12_falsely 1 = .ok (.iload_n 1, 1) := sorry
theorem dX12_falsely_2 : decode cX12_falsely 2 = .ok (.invokevirtual 146, 3) := sorry
theorem dX12_falsely_5 : decode cX12_falsely 5 = .ok (.ifCond .ne 20, 3) := sorry
theorem dX12_falsely_8 : decode cX12_falsely 8 = .ok (.iload_n 2, 1) := sorry
theorem dX12_falsely_9 : decode cX12_falsely 9 = .ok (.invokestatic 267, 3) := sorry
theorem dX12_falsely_12 : decode cX12_falsely 12 = .ok (.ifCond .eq 13, 3) := sorry
theorem dX12_falsely_15 : decode cX12_falsely 15 = .ok (.iload_n 3, 1) := sorry
theorem dX12_falsely_16 : decode cX12_falsely 16 = .ok (.i2l, 1) := sorry
theorem dX12_falsely_17 : decode cX12_falsely 17 = .ok (.lconst 0, 1) := sorry
theorem dX12_falsely_18 : decode cX12_falsely 18 = .ok (.lconst 1, 1) := sorry
theorem dX12_falsely_19 : decode cX12_falsely 19 = .ok (.invokestatic 99, 3) := sorry
theorem dX12_falsely_22 : decode cX12_falsely 22 = .ok (.ifCond .ne 7, 3) := sorry
theorem dX12_falsely_25 : decode cX12_falsely 25 = .ok (.invokestatic 85, 3) := sorry
theorem dX12_falsely_28 : decode cX12_falsely 28 = .ok (.lreturn, 1) := sorry
theorem dX12_falsely_29 : decode cX12_falsely 29 = .ok (.aload_n 0, 1) := sorry
theorem dX12_falsely_30 : decode cX12_falsely 30 = .ok (.iload_n 1, 1) := sorry
theorem dX12_falsely_31 : decode cX12_falsely 31 = .ok (.invokevirtual 270, 3) := sorry
theorem dX12_falsely_34 : decode cX12_falsely 34 = .ok (.istore 4, 2) := sorry
theorem dX12_falsely_36 : decode cX12_falsely 36 = .ok (.lconst 0, 1) := sorry
theorem dX12_falsely_37 : decode cX12_falsely 37 = .ok (.lstore 5, 2) := sorry
theorem dX12_falsely_39 : decode cX12_falsely 39 = .ok (.lconst 1, 1) := sorry
theorem dX12_falsely_40 : decode cX12_falsely 40 = .ok (.lstore 7, 2) := sorry
theorem dX12_falsely_42 : decode cX12_falsely 42 = .ok (.iconst 0, 1) := sorry
theorem dX12_falsely_43 : decode cX12_falsely 43 = .ok (.istore 9, 2) := sorry
theorem dX12_falsely_45 : decode cX12_falsely 45 = .ok (.iload 9, 2) := sorry
theorem dX12_falsely_47 : decode cX12_falsely 47 = .ok (.iload 4, 2) := sorry
theorem dX12_falsely_49 : decode cX12_falsely 49 = .ok (.if_icmp .gt 48, 3) := sorry
theorem dX12_falsely_52 : decode cX12_falsely 52 = .ok (.lload 5, 2) := sorry
theorem dX12_falsely_54 : decode cX12_falsely 54 = .ok (.iload 9, 2) := sorry
theorem dX12_falsely_56 : decode cX12_falsely 56 = .ok (.aload_n 0, 1) := sorry
theorem dX12_falsely_57 : decode cX12_falsely 57 = .ok (.iload_n 1, 1) := sorry
theorem dX12_falsely_58 : decode cX12_falsely 58 = .ok (.iload_n 2, 1) := sorry
theorem dX12_falsely_59 : decode cX12_falsely 59 = .ok (.invokevirtual 276, 3) := sorry
theorem dX12_falsely_62 : decode cX12_falsely 62 = .ok (.if_icmp .lt 8, 3) := sorry
theorem dX12_falsely_65 : decode cX12_falsely 65 = .ok (.lload 7, 2) := sorry
theorem dX12_falsely_67 : decode cX12_falsely 67 = .ok (.goto 4, 3) := sorry
theorem dX12_falsely_70 : decode cX12_falsely 70 = .ok (.lconst 0, 1) := sorry
theorem dX12_falsely_71 : decode cX12_falsely 71 = .ok (.ladd, 1) := sorry
theorem dX12_falsely_72 : decode cX12_falsely 72 = .ok (.lstore 5, 2) := sorry
theorem dX12_falsely_74 : decode cX12_falsely 74 = .ok (.lload 7, 2) := sorry
theorem dX12_falsely_76 : decode cX12_falsely 76 = .ok (.iload 4, 2) := sorry
theorem dX12_falsely_78 : decode cX12_falsely 78 = .ok (.iload 9, 2) := sorry
theorem dX12_falsely_80 : decode cX12_falsely 80 = .ok (.isub, 1) := sorry
theorem dX12_falsely_81 : decode cX12_falsely 81 = .ok (.i2l, 1) := sorry
theorem dX12_falsely_82 : decode cX12_falsely 82 = .ok (.lmul, 1) := sorry
theorem dX12_falsely_83 : decode cX12_falsely 83 = .ok (.iload 9, 2) := sorry
theorem dX12_falsely_85 : decode cX12_falsely 85 = .ok (.iconst 1, 1) := sorry
theorem dX12_falsely_86 : decode cX12_falsely 86 = .ok (.iadd, 1) := sorry
theorem dX12_falsely_87 : decode cX12_falsely 87 = .ok (.i2l, 1) := sorry
theorem dX12_falsely_88 : decode cX12_falsely 88 = .ok (.ldiv, 1) := sorry
theorem dX12_falsely_89 : decode cX12_falsely 89 = .ok (.lstore 7, 2) := sorry
theorem dX12_falsely_91 : decode cX12_falsely 91 = .ok (.iinc 9 1, 3) := sorry
theorem dX12_falsely_94 : decode cX12_falsely 94 = .ok (.goto (-49), 3) := sorry
theorem dX12_falsely_97 : decode cX12_falsely 97 = .ok (.lload 5, 2) := sorry
theorem dX12_falsely_99 : decode cX12_falsely 99 = .ok (.iconst 1, 1) := sorry
theorem dX12_falsely_100 : decode cX12_falsely 100 = .ok (.iload 4, 2) := sorry
theorem dX12_falsely_102 : decode cX12_falsely 102 = .ok (.ishl, 1) := sorry
theorem dX12_falsely_103 : decode cX12_falsely 103 = .ok (.i2l, 1) := sorry
theorem dX12_falsely_104 : decode cX12_falsely 104 = .ok (.iload_n 3, 1) := sorry
theorem dX12_falsely_105 : decode cX12_falsely 105 = .ok (.invokestatic 279, 3) := sorry
theorem dX12_falsely_108 : decode cX12_falsely 108 = .ok (.lreturn, 1) := sorry
theorem dX12_extreme_0 : decode cX12_extreme 0 = .ok (.aload_n 0, 1) := sorry
theorem dX12_extreme_1 : decode cX12_extreme 1 = .ok (.getfield 16, 3) := sorry
theorem dX12_extreme_4 : decode cX12_extreme 4 = .ok (.bipush 16, 2) := sorry
theorem dX12_extreme_6 : decode cX12_extreme 6 = .ok (.iload_n 1, 1) := sorry
theorem dX12_extreme_7 : decode cX12_extreme 7 = .ok (.imul, 1) := sorry
theorem dX12_extreme_8 : decode cX12_extreme 8 = .ok (.iaload, 1) := sorry
theorem dX12_extreme_9 : decode cX12_extreme 9 = .ok (.istore_n 3, 1) := sorry
theorem dX12_extreme_10 : decode cX12_extreme 10 = .ok (.iconst 0, 1) := sorry
theorem dX12_extreme_11 : decode cX12_extreme 11 = .ok (.istore 4, 2) := sorry
theorem dX12_extreme_13 : decode cX12_extreme 13 = .ok (.iload 4, 2) := sorry
theorem dX12_extreme_15 : decode cX12_extreme 15 = .ok (.aload_n 0, 1) := sorry
theorem dX12_extreme_16 : decode cX12_extreme 16 = .ok (.iload_n 1, 1) := sorry
theorem dX12_extreme_17 : decode cX12_extreme 17 = .ok (.invokevirtual 128, 3) := sorry
theorem dX12_extreme_20 : decode cX12_extreme 20 = .ok (.if_icmp .ge 48, 3) := sorry
theorem dX12_extreme_23 : decode cX12_extreme 23 = .ok (.aload_n 0, 1) := sorry
theorem dX12_extreme_24 : decode cX12_extreme 24 = .ok (.getfield 16, 3) := sorry
theorem dX12_extreme_27 : decode cX12_extreme 27 = .ok (.bipush 16, 2) := sorry
theorem dX12_extreme_29 : decode cX12_extreme 29 = .ok (.iload_n 1, 1) := sorry
theorem dX12_extreme_30 : decode cX12_extreme 30 = .ok (.imul, 1) := sorry
theorem dX12_extreme_31 : decode cX12_extreme 31 = .ok (.aload_n 0, 1) := sorry
theorem dX12_extreme_32 : decode cX12_extreme 32 = .ok (.iload_n 1, 1) := sorry
theorem dX12_extreme_33 : decode cX12_extreme 33 = .ok (.iload 4, 2) := sorry
theorem dX12_extreme_35 : decode cX12_extreme 35 = .ok (.invokevirtual 131, 3) := sorry
theorem dX12_extreme_38 : decode cX12_extreme 38 = .ok (.iadd, 1) := sorry
theorem dX12_extreme_39 : decode cX12_extreme 39 = .ok (.iaload, 1) := sorry
theorem dX12_extreme_40 : decode cX12_extreme 40 = .ok (.istore 5, 2) := sorry
theorem dX12_extreme_42 : decode cX12_extreme 42 = .ok (.iload_n 2, 1) := sorry
theorem dX12_extreme_43 : decode cX12_extreme 43 = .ok (.ifCond .ne 12, 3) := sorry
theorem dX12_extreme_46 : decode cX12_extreme 46 = .ok (.iload_n 3, 1) := sorry
theorem dX12_extreme_47 : decode cX12_extreme 47 = .ok (.iload 5, 2) := sorry
theorem dX12_extreme_49 : decode cX12_extreme 49 = .ok (.invokestatic 184, 3) := sorry
theorem dX12_extreme_52 : decode cX12_extreme 52 = .ok (.goto 9, 3) := sorry
theorem dX12_extreme_55 : decode cX12_extreme 55 = .ok (.iload_n 3, 1) := sorry
theorem dX12_extreme_56 : decode cX12_extreme 56 = .ok (.iload 5, 2) := sorry
theorem dX12_extreme_58 : decode cX12_extreme 58 = .ok (.invokestatic 187, 3) := sorry
theorem dX12_extreme_61 : decode cX12_extreme 61 = .ok (.istore_n 3, 1) := sorry
theorem dX12_extreme_62 : decode cX12_extreme 62 = .ok (.iinc 4 1, 3) := sorry
theorem dX12_extreme_65 : decode cX12_extreme 65 = .ok (.goto (-52), 3) := sorry
theorem dX12_extreme_68 : decode cX12_extreme 68 = .ok (.iload_n 3, 1) := sorry
theorem dX12_extreme_69 : decode cX12_extreme 69 = .ok (.ireturn, 1) := sorry
theorem dX12_likeness_0 : decode cX12_likeness 0 = .ok (.aload_n 0, 1) := sorry
theorem dX12_likeness_1 : decode cX12_likeness 1 = .ok (.iload_n 1, 1) := sorry
theorem dX12_likeness_2 : decode cX12_likeness 2 = .ok (.invokevirtual 149, 3) := sorry
theorem dX12_likeness_5 : decode cX12_likeness 5 = .ok (.aload_n 0, 1) := sorry
theorem dX12_likeness_6 : decode cX12_likeness 6 = .ok (.iload_n 1, 1) := sorry
theorem dX12_likeness_7 : decode cX12_likeness 7 = .ok (.invokevirtual 128, 3) := sorry
theorem dX12_likeness_10 : decode cX12_likeness 10 = .ok (.idiv, 1) := sorry
theorem dX12_likeness_11 : decode cX12_likeness 11 = .ok (.aload_n 0, 1) := sorry
theorem dX12_likeness_12 : decode cX12_likeness 12 = .ok (.iload_n 2, 1) := sorry
theorem dX12_likeness_13 : decode cX12_likeness 13 = .ok (.invokevirtual 149, 3) := sorry
theorem dX12_likeness_16 : decode cX12_likeness 16 = .ok (.aload_n 0, 1) := sorry
theorem dX12_likeness_17 : decode cX12_likeness 17 = .ok (.iload_n 2, 1) := sorry
theorem dX12_likeness_18 : decode cX12_likeness 18 = .ok (.invokevirtual 128, 3) := sorry
theorem dX12_likeness_21 : decode cX12_likeness 21 = .ok (.idiv, 1) := sorry
theorem dX12_likeness_22 : decode cX12_likeness 22 = .ok (.isub, 1) := sorry
theorem dX12_likeness_23 : decode cX12_likeness 23 = .ok (.invokestatic 241, 3) := sorry
theorem dX12_likeness_26 : decode cX12_likeness 26 = .ok (.istore_n 3, 1) := sorry
theorem dX12_likeness_27 : decode cX12_likeness 27 = .ok (.iload_n 3, 1) := sorry
theorem dX12_likeness_28 : decode cX12_likeness 28 = .ok (.aload_n 0, 1) := sorry
theorem dX12_likeness_29 : decode cX12_likeness 29 = .ok (.iload_n 1, 1) := sorry
theorem dX12_likeness_30 : decode cX12_likeness 30 = .ok (.iconst 0, 1) := sorry
theorem dX12_likeness_31 : decode cX12_likeness 31 = .ok (.invokevirtual 283, 3) := sorry
theorem dX12_likeness_34 : decode cX12_likeness 34 = .ok (.aload_n 0, 1) := sorry
theorem dX12_likeness_35 : decode cX12_likeness 35 = .ok (.iload_n 2, 1) := sorry
theorem dX12_likeness_36 : decode cX12_likeness 36 = .ok (.iconst 0, 1) := sorry
theorem dX12_likeness_37 : decode cX12_likeness 37 = .ok (.invokevirtual 283, 3) := sorry
theorem dX12_likeness_40 : decode cX12_likeness 40 = .ok (.isub, 1) := sorry
theorem dX12_likeness_41 : decode cX12_likeness 41 = .ok (.invokestatic 241, 3) := sorry
theorem dX12_likeness_44 : decode cX12_likeness 44 = .ok (.iadd, 1) := sorry
theorem dX12_likeness_45 : decode cX12_likeness 45 = .ok (.aload_n 0, 1) := sorry
theorem dX12_likeness_46 : decode cX12_likeness 46 = .ok (.iload_n 1, 1) := sorry
theorem dX12_likeness_47 : decode cX12_likeness 47 = .ok (.iconst 1, 1) := sorry
theorem dX12_likeness_48 : decode cX12_likeness 48 = .ok (.invokevirtual 283, 3) := sorry
theorem dX12_likeness_51 : decode cX12_likeness 51 = .ok (.aload_n 0, 1) := sorry
theorem dX12_likeness_52 : decode cX12_likeness 52 = .ok (.iload_n 2, 1) := sorry
theorem dX12_likeness_53 : decode cX12_likeness 53 = .ok (.iconst 1, 1) := sorry
theorem dX12_likeness_54 : decode cX12_likeness 54 = .ok (.invokevirtual 283, 3) := sorry
theorem dX12_likeness_57 : decode cX12_likeness 57 = .ok (.isub, 1) := sorry
theorem dX12_likeness_58 : decode cX12_likeness 58 = .ok (.invokestatic 241, 3) := sorry
theorem dX12_likeness_61 : decode cX12_likeness 61 = .ok (.iadd, 1) := sorry
theorem dX12_likeness_62 : decode cX12_likeness 62 = .ok (.ireturn, 1) := sorry
theorem dX12_like_0 : decode cX12_like 0 = .ok (.aload_n 0, 1) := sorry
theorem dX12_like_1 : decode cX12_like 1 = .ok (.iload_n 1, 1) := sorry
theorem dX12_like_2 : decode cX12_like 2 = .ok (.invokevirtual 146, 3) := sorry
theorem dX12_like_5 : decode cX12_like 5 = .ok (.ifCond .ne 11, 3) := sorry
theorem dX12_like_8 : decode cX12_like 8 = .ok (.aload_n 0, 1) := sorry
theorem dX12_like_9 : decode cX12_like 9 = .ok (.iload_n 2, 1) := sorry
theorem dX12_like_10 : decode cX12_like 10 = .ok (.invokevirtual 146, 3) := sorry
theorem dX12_like_13 : decode cX12_like 13 = .ok (.ifCond .eq 7, 3) := sorry
theorem dX12_like_16 : decode cX12_like 16 = .ok (.iconst (-1), 1) := sorry
theorem dX12_like_17 : decode cX12_like 17 = .ok (.goto 9, 3) := sorry
theorem dX12_like_20 : decode cX12_like 20 = .ok (.aload_n 0, 1) := sorry
theorem dX12_like_21 : decode cX12_like 21 = .ok (.iload_n 1, 1) := sorry
theorem dX12_like_22 : decode cX12_like 22 = .ok (.iload_n 2, 1) := sorry
theorem dX12_like_23 : decode cX12_like 23 = .ok (.invokevirtual 286, 3) := sorry
theorem dX12_like_26 : decode cX12_like 26 = .ok (.ireturn, 1) := sorry
theorem dX12_nearest_0 : decode cX12_nearest 0 = .ok (.aload_n 0, 1) := sorry
theorem dX12_nearest_1 : decode cX12_nearest 1 = .ok (.iload_n 1, 1) := sorry
theorem dX12_nearest_2 : decode cX12_nearest 2 = .ok (.invokevirtual 146, 3) := sorry
theorem dX12_nearest_5 : decode cX12_nearest 5 = .ok (.ifCond .ne 15, 3) := sorry
theorem dX12_nearest_8 : decode cX12_nearest 8 = .ok (.iload_n 2, 1) := sorry
theorem dX12_nearest_9 : decode cX12_nearest 9 = .ok (.i2l, 1) := sorry
theorem dX12_nearest_10 : decode cX12_nearest 10 = .ok (.lconst 0, 1) := sorry
theorem dX12_nearest_11 : decode cX12_nearest 11 = .ok (.ldc2_w 155, 3) := sorry
theorem dX12_nearest_14 : decode cX12_nearest 14 = .ok (.invokestatic 99, 3) := sorry
theorem dX12_nearest_17 : decode cX12_nearest 17 = .ok (.ifCond .ne 5, 3) := sorry
theorem dX12_nearest_20 : decode cX12_nearest 20 = .ok (.iconst (-1), 1) := sorry
theorem dX12_nearest_21 : decode cX12_nearest 21 = .ok (.ireturn, 1) := sorry
theorem dX12_nearest_22 : decode cX12_nearest 22 = .ok (.iconst 1, 1) := sorry
theorem dX12_nearest_23 : decode cX12_nearest 23 = .ok (.iload_n 1, 1) := sorry
theorem dX12_nearest_24 : decode cX12_nearest 24 = .ok (.ishl, 1) := sorry
theorem dX12_nearest_25 : decode cX12_nearest 25 = .ok (.istore_n 3, 1) := sorry
theorem dX12_nearest_26 : decode cX12_nearest 26 = .ok (.bipush (-9), 2) := sorry
theorem dX12_nearest_28 : decode cX12_nearest 28 = .ok (.istore 4, 2) := sorry
theorem dX12_nearest_30 : decode cX12_nearest 30 = .ok (.iconst 0, 1) := sorry
theorem dX12_nearest_31 : decode cX12_nearest 31 = .ok (.istore 5, 2) := sorry
theorem dX12_nearest_33 : decode cX12_nearest 33 = .ok (.iload 5, 2) := sorry
theorem dX12_nearest_35 : decode cX12_nearest 35 = .ok (.iload_n 2, 1) := sorry
theorem dX12_nearest_36 : decode cX12_nearest 36 = .ok (.if_icmp .gt 86, 3) := sorry
theorem dX12_nearest_39 : decode cX12_nearest 39 = .ok (.bipush (-9), 2) := sorry
theorem dX12_nearest_41 : decode cX12_nearest 41 = .ok (.istore 4, 2) := sorry
theorem dX12_nearest_43 : decode cX12_nearest 43 = .ok (.iconst 0, 1) := sorry
theorem dX12_nearest_44 : decode cX12_nearest 44 = .ok (.istore 6, 2) := sorry
theorem dX12_nearest_46 : decode cX12_nearest 46 = .ok (.iload 6, 2) := sorry
theorem dX12_nearest_48 : decode cX12_nearest 48 = .ok (.aload_n 0, 1) := sorry
theorem dX12_nearest_49 : decode cX12_nearest 49 = .ok (.getfield 105, 3) := sorry
theorem dX12_nearest_52 : decode cX12_nearest 52 = .ok (.if_icmp .ge 49, 3) := sorry
theorem dX12_nearest_55 : decode cX12_nearest 55 = .ok (.iload_n 3, 1) := sorry
theorem dX12_nearest_56 : decode cX12_nearest 56 = .ok (.iload 6, 2) := sorry
theorem dX12_nearest_58 : decode cX12_nearest 58 = .ok (.invokestatic 262, 3) := sorry
theorem dX12_nearest_61 : decode cX12_nearest 61 = .ok (.ifCond .ne 30, 3) := sorry
theorem dX12_nearest_64 : decode cX12_nearest 64 = .ok (.iload 4, 2) := sorry
theorem dX12_nearest_66 : decode cX12_nearest 66 = .ok (.ifCond .lt 20, 3) := sorry
theorem dX12_nearest_69 : decode cX12_nearest 69 = .ok (.aload_n 0, 1) := sorry
theorem dX12_nearest_70 : decode cX12_nearest 70 = .ok (.iload_n 1, 1) := sorry
theorem dX12_nearest_71 : decode cX12_nearest 71 = .ok (.iload 6, 2) := sorry
theorem dX12_nearest_73 : decode cX12_nearest 73 = .ok (.invokevirtual 286, 3) := sorry
theorem dX12_nearest_76 : decode cX12_nearest 76 = .ok (.aload_n 0, 1) := sorry
theorem dX12_nearest_77 : decode cX12_nearest 77 = .ok (.iload_n 1, 1) := sorry
theorem dX12_nearest_78 : decode cX12_nearest 78 = .ok (.iload 4, 2) := sorry
theorem dX12_nearest_80 : decode cX12_nearest 80 = .ok (.invokevirtual 286, 3) := sorry
theorem dX12_nearest_83 : decode cX12_nearest 83 = .ok (.if_icmp .ge 8, 3) := sorry
theorem dX12_nearest_86 : decode cX12_nearest 86 = .ok (.iload 6, 2) := sorry
theorem dX12_nearest_88 : decode cX12_nearest 88 = .ok (.goto 5, 3) := sorry
theorem dX12_nearest_91 : decode cX12_nearest 91 = .ok (.iload 4, 2) := sorry
theorem dX12_nearest_93 : decode cX12_nearest 93 = .ok (.istore 4, 2) := sorry
theorem dX12_nearest_95 : decode cX12_nearest 95 = .ok (.iinc 6 1, 3) := sorry
theorem dX12_nearest_98 : decode cX12_nearest 98 = .ok (.goto (-52), 3) := sorry
theorem dX12_nearest_101 : decode cX12_nearest 101 = .ok (.iload 4, 2) := sorry
theorem dX12_nearest_103 : decode cX12_nearest 103 = .ok (.ifCond .ge 6, 3) := sorry
theorem dX12_nearest_106 : decode cX12_nearest 106 = .ok (.bipush (-9), 2) := sorry
theorem dX12_nearest_108 : decode cX12_nearest 108 = .ok (.ireturn, 1) := sorry
theorem dX12_nearest_109 : decode cX12_nearest 109 = .ok (.iload_n 3, 1) := sorry
theorem dX12_nearest_110 : decode cX12_nearest 110 = .ok (.iconst 1, 1) := sorry
theorem dX12_nearest_111 : decode cX12_nearest 111 = .ok (.iload 4, 2) := sorry
theorem dX12_nearest_113 : decode cX12_nearest 113 = .ok (.ishl, 1) := sorry
theorem dX12_nearest_114 : decode cX12_nearest 114 = .ok (.ior, 1) := sorry
theorem dX12_nearest_115 : decode cX12_nearest 115 = .ok (.istore_n 3, 1) := sorry
theorem dX12_nearest_116 : decode cX12_nearest 116 = .ok (.iinc 5 1, 3) := sorry
theorem dX12_nearest_119 : decode cX12_nearest 119 = .ok (.goto (-86), 3) := sorry
theorem dX12_nearest_122 : decode cX12_nearest 122 = .ok (.iload 4, 2) := sorry
theorem dX12_nearest_124 : decode cX12_nearest 124 = .ok (.ireturn, 1) := sorry
theorem dX12_coarse_0 : decode cX12_coarse 0 = .ok (.aload_n 0, 1) := sorry
theorem dX12_coarse_1 : decode cX12_coarse 1 = .ok (.iload_n 1, 1) := sorry
theorem dX12_coarse_2 : decode cX12_coarse 2 = .ok (.invokevirtual 146, 3) := sorry
theorem dX12_coarse_5 : decode cX12_coarse 5 = .ok (.ifCond .eq 5, 3) := sorry
theorem dX12_coarse_8 : decode cX12_coarse 8 = .ok (.iconst (-1), 1) := sorry
theorem dX12_coarse_9 : decode cX12_coarse 9 = .ok (.ireturn, 1) := sorry
theorem dX12_coarse_10 : decode cX12_coarse 10 = .ok (.iload_n 2, 1) := sorry
theorem dX12_coarse_11 : decode cX12_coarse 11 = .ok (.i2l, 1) := sorry
theorem dX12_coarse_12 : decode cX12_coarse 12 = .ok (.lconst 1, 1) := sorry
theorem dX12_coarse_13 : decode cX12_coarse 13 = .ok (.ldc2_w 289, 3) := sorry
theorem dX12_coarse_16 : decode cX12_coarse 16 = .ok (.invokestatic 99, 3) := sorry
theorem dX12_coarse_19 : decode cX12_coarse 19 = .ok (.ifCond .ne 6, 3) := sorry
theorem dX12_coarse_22 : decode cX12_coarse 22 = .ok (.bipush (-2), 2) := sorry
theorem dX12_coarse_24 : decode cX12_coarse 24 = .ok (.ireturn, 1) := sorry
theorem dX12_coarse_25 : decode cX12_coarse 25 = .ok (.aload_n 0, 1) := sorry
theorem dX12_coarse_26 : decode cX12_coarse 26 = .ok (.iload_n 1, 1) := sorry
theorem dX12_coarse_27 : decode cX12_coarse 27 = .ok (.invokevirtual 227, 3) := sorry
theorem dX12_coarse_30 : decode cX12_coarse 30 = .ok (.ifCond .eq 8, 3) := sorry
theorem dX12_coarse_33 : decode cX12_coarse 33 = .ok (.bipush (-3), 2) := sorry
theorem dX12_coarse_35 : decode cX12_coarse 35 = .ok (.goto 13, 3) := sorry
theorem dX12_coarse_38 : decode cX12_coarse 38 = .ok (.aload_n 0, 1) := sorry
theorem dX12_coarse_39 : decode cX12_coarse 39 = .ok (.getfield 43, 3) := sorry
theorem dX12_coarse_42 : decode cX12_coarse 42 = .ok (.iload_n 1, 1) := sorry
theorem dX12_coarse_43 : decode cX12_coarse 43 = .ok (.iaload, 1) := sorry
theorem dX12_coarse_44 : decode cX12_coarse 44 = .ok (.iload_n 2, 1) := sorry
theorem dX12_coarse_45 : decode cX12_coarse 45 = .ok (.idiv, 1) := sorry
theorem dX12_coarse_46 : decode cX12_coarse 46 = .ok (.iload_n 2, 1) := sorry
theorem dX12_coarse_47 : decode cX12_coarse 47 = .ok (.imul, 1) := sorry
theorem dX12_coarse_48 : decode cX12_coarse 48 = .ok (.ireturn, 1) := sorry
theorem dX12_look_0 : decode cX12_look 0 = .ok (.aload_n 0, 1) := sorry
theorem dX12_look_1 : decode cX12_look 1 = .ok (.iload_n 1, 1) := sorry
theorem dX12_look_2 : decode cX12_look 2 = .ok (.invokevirtual 146, 3) := sorry
theorem dX12_look_5 : decode cX12_look 5 = .ok (.ifCond .eq 5, 3) := sorry
theorem dX12_look_8 : decode cX12_look 8 = .ok (.iconst (-1), 1) := sorry
theorem dX12_look_9 : decode cX12_look 9 = .ok (.ireturn, 1) := sorry
theorem dX12_look_10 : decode cX12_look 10 = .ok (.iload_n 2, 1) := sorry
theorem dX12_look_11 : decode cX12_look 11 = .ok (.i2l, 1) := sorry
theorem dX12_look_12 : decode cX12_look 12 = .ok (.lconst 1, 1) := sorry
theorem dX12_look_13 : decode cX12_look 13 = .ok (.ldc2_w 172, 3) := sorry
theorem dX12_look_16 : decode cX12_look 16 = .ok (.invokestatic 99, 3) := sorry
theorem dX12_look_19 : decode cX12_look 19 = .ok (.ifCond .eq 15, 3) := sorry
theorem dX12_look_22 : decode cX12_look 22 = .ok (.iload_n 3, 1) := sorry
theorem dX12_look_23 : decode cX12_look 23 = .ok (.i2l, 1) := sorry
theorem dX12_look_24 : decode cX12_look 24 = .ok (.lconst 0, 1) := sorry
theorem dX12_look_25 : decode cX12_look 25 = .ok (.ldc2_w 126, 3) := sorry
theorem dX12_look_28 : decode cX12_look 28 = .ok (.invokestatic 99, 3) := sorry
theorem dX12_look_31 : decode cX12_look 31 = .ok (.ifCond .ne 6, 3) := sorry
theorem dX12_look_34 : decode cX12_look 34 = .ok (.bipush (-2), 2) := sorry
theorem dX12_look_36 : decode cX12_look 36 = .ok (.ireturn, 1) := sorry
theorem dX12_look_37 : decode cX12_look 37 = .ok (.aload_n 0, 1) := sorry
theorem dX12_look_38 : decode cX12_look 38 = .ok (.getfield 291, 3) := sorry
theorem dX12_look_41 : decode cX12_look 41 = .ok (.bipush 9, 2) := sorry
theorem dX12_look_43 : decode cX12_look 43 = .ok (.if_icmp .ne 6, 3) := sorry
theorem dX12_look_46 : decode cX12_look 46 = .ok (.bipush (-4), 2) := sorry
theorem dX12_look_48 : decode cX12_look 48 = .ok (.ireturn, 1) := sorry
theorem dX12_look_49 : decode cX12_look 49 = .ok (.aload_n 0, 1) := sorry
theorem dX12_look_50 : decode cX12_look 50 = .ok (.getfield 58, 3) := sorry
theorem dX12_look_53 : decode cX12_look 53 = .ok (.aload_n 0, 1) := sorry
theorem dX12_look_54 : decode cX12_look 54 = .ok (.getfield 291, 3) := sorry
theorem dX12_look_57 : decode cX12_look 57 = .ok (.iload_n 1, 1) := sorry
theorem dX12_look_58 : decode cX12_look 58 = .ok (.iastore, 1) := sorry
theorem dX12_look_59 : decode cX12_look 59 = .ok (.aload_n 0, 1) := sorry
theorem dX12_look_60 : decode cX12_look 60 = .ok (.getfield 61, 3) := sorry
theorem dX12_look_63 : decode cX12_look 63 = .ok (.aload_n 0, 1) := sorry
theorem dX12_look_64 : decode cX12_look 64 = .ok (.getfield 291, 3) := sorry
theorem dX12_look_67 : decode cX12_look 67 = .ok (.iload_n 2, 1) := sorry
theorem dX12_look_68 : decode cX12_look 68 = .ok (.iastore, 1) := sorry
theorem dX12_look_69 : decode cX12_look 69 = .ok (.aload_n 0, 1) := sorry
theorem dX12_look_70 : decode cX12_look 70 = .ok (.getfield 64, 3) := sorry
theorem dX12_look_73 : decode cX12_look 73 = .ok (.aload_n 0, 1) := sorry
theorem dX12_look_74 : decode cX12_look 74 = .ok (.getfield 291, 3) := sorry
theorem dX12_look_77 : decode cX12_look 77 = .ok (.iload_n 3, 1) := sorry
theorem dX12_look_78 : decode cX12_look 78 = .ok (.iastore, 1) := sorry
theorem dX12_look_79 : decode cX12_look 79 = .ok (.aload_n 0, 1) := sorry
theorem dX12_look_80 : decode cX12_look 80 = .ok (.dup, 1) := sorry
theorem dX12_look_81 : decode cX12_look 81 = .ok (.getfield 291, 3) := sorry
theorem dX12_look_84 : decode cX12_look 84 = .ok (.iconst 1, 1) := sorry
theorem dX12_look_85 : decode cX12_look 85 = .ok (.iadd, 1) := sorry
theorem dX12_look_86 : decode cX12_look 86 = .ok (.putfield 291, 3) := sorry
theorem dX12_look_89 : decode cX12_look 89 = .ok (.aload_n 0, 1) := sorry
theorem dX12_look_90 : decode cX12_look 90 = .ok (.getfield 291, 3) := sorry
theorem dX12_look_93 : decode cX12_look 93 = .ok (.iconst 1, 1) := sorry
theorem dX12_look_94 : decode cX12_look 94 = .ok (.isub, 1) := sorry
theorem dX12_look_95 : decode cX12_look 95 = .ok (.ireturn, 1) := sorry
theorem dX12_ofLooks_0 : decode cX12_ofLooks 0 = .ok (.iconst 0, 1) := sorry
theorem dX12_ofLooks_1 : decode cX12_ofLooks 1 = .ok (.istore_n 3, 1) := sorry
theorem dX12_ofLooks_2 : decode cX12_ofLooks 2 = .ok (.iconst 0, 1) := sorry
theorem dX12_ofLooks_3 : decode cX12_ofLooks 3 = .ok (.istore 4, 2) := sorry
theorem dX12_ofLooks_5 : decode cX12_ofLooks 5 = .ok (.iload 4, 2) := sorry
theorem dX12_ofLooks_7 : decode cX12_ofLooks 7 = .ok (.aload_n 0, 1) := sorry
theorem dX12_ofLooks_8 : decode cX12_ofLooks 8 = .ok (.getfield 291, 3) := sorry
theorem dX12_ofLooks_11 : decode cX12_ofLooks 11 = .ok (.if_icmp .ge 47, 3) := sorry
theorem dX12_ofLooks_14 : decode cX12_ofLooks 14 = .ok (.iload_n 3, 1) := sorry
theorem dX12_ofLooks_15 : decode cX12_ofLooks 15 = .ok (.iload_n 1, 1) := sorry
theorem dX12_ofLooks_16 : decode cX12_ofLooks 16 = .ok (.iload 4, 2) := sorry
theorem dX12_ofLooks_18 : decode cX12_ofLooks 18 = .ok (.invokestatic 262, 3) := sorry
theorem dX12_ofLooks_21 : decode cX12_ofLooks 21 = .ok (.ifCond .ne 7, 3) := sorry
theorem dX12_ofLooks_24 : decode cX12_ofLooks 24 = .ok (.iconst 0, 1) := sorry
theorem dX12_ofLooks_25 : decode cX12_ofLooks 25 = .ok (.goto 25, 3) := sorry
theorem dX12_ofLooks_28 : decode cX12_ofLooks 28 = .ok (.iload_n 2, 1) := sorry
theorem dX12_ofLooks_29 : decode cX12_ofLooks 29 = .ok (.iconst 1, 1) := sorry
theorem dX12_ofLooks_30 : decode cX12_ofLooks 30 = .ok (.if_icmp .ne 13, 3) := sorry
theorem dX12_ofLooks_33 : decode cX12_ofLooks 33 = .ok (.aload_n 0, 1) := sorry
theorem dX12_ofLooks_34 : decode cX12_ofLooks 34 = .ok (.getfield 64, 3) := sorry
theorem dX12_ofLooks_37 : decode cX12_ofLooks 37 = .ok (.iload 4, 2) := sorry
theorem dX12_ofLooks_39 : decode cX12_ofLooks 39 = .ok (.iaload, 1) := sorry
theorem dX12_ofLooks_40 : decode cX12_ofLooks 40 = .ok (.goto 10, 3) := sorry
theorem dX12_ofLooks_43 : decode cX12_ofLooks 43 = .ok (.aload_n 0, 1) := sorry
theorem dX12_ofLooks_44 : decode cX12_ofLooks 44 = .ok (.getfield 61, 3) := sorry
theorem dX12_ofLooks_47 : decode cX12_ofLooks 47 = .ok (.iload 4, 2) := sorry
theorem dX12_ofLooks_49 : decode cX12_ofLooks 49 = .ok (.iaload, 1) := sorry
theorem dX12_ofLooks_50 : decode cX12_ofLooks 50 = .ok (.iadd, 1) := sorry
theorem dX12_ofLooks_51 : decode cX12_ofLooks 51 = .ok (.istore_n 3, 1) := sorry
theorem dX12_ofLooks_52 : decode cX12_ofLooks 52 = .ok (.iinc 4 1, 3) := sorry
theorem dX12_ofLooks_55 : decode cX12_ofLooks 55 = .ok (.goto (-50), 3) := sorry
theorem dX12_ofLooks_58 : decode cX12_ofLooks 58 = .ok (.iload_n 3, 1) := sorry
theorem dX12_ofLooks_59 : decode cX12_ofLooks 59 = .ok (.ireturn, 1) := sorry
theorem dX12_best_0 : decode cX12_best 0 = .ok (.iload_n 1, 1) := sorry
theorem dX12_best_1 : decode cX12_best 1 = .ok (.i2l, 1) := sorry
theorem dX12_best_2 : decode cX12_best 2 = .ok (.lconst 0, 1) := sorry
theorem dX12_best_3 : decode cX12_best 3 = .ok (.ldc2_w 126, 3) := sorry
theorem dX12_best_6 : decode cX12_best 6 = .ok (.invokestatic 99, 3) := sorry
theorem dX12_best_9 : decode cX12_best 9 = .ok (.ifCond .eq 15, 3) := sorry
theorem dX12_best_12 : decode cX12_best 12 = .ok (.iload_n 2, 1) := sorry
theorem dX12_best_13 : decode cX12_best 13 = .ok (.i2l, 1) := sorry
theorem dX12_best_14 : decode cX12_best 14 = .ok (.lconst 0, 1) := sorry
theorem dX12_best_15 : decode cX12_best 15 = .ok (.ldc2_w 97, 3) := sorry
theorem dX12_best_18 : decode cX12_best 18 = .ok (.invokestatic 99, 3) := sorry
theorem dX12_best_21 : decode cX12_best 21 = .ok (.ifCond .ne 6, 3) := sorry
theorem dX12_best_24 : decode cX12_best 24 = .ok (.bipush (-2), 2) := sorry
theorem dX12_best_26 : decode cX12_best 26 = .ok (.ireturn, 1) := sorry
theorem dX12_best_27 : decode cX12_best 27 = .ok (.iconst 0, 1) := sorry
theorem dX12_best_28 : decode cX12_best 28 = .ok (.istore_n 3, 1) := sorry
theorem dX12_best_29 : decode cX12_best 29 = .ok (.iconst 1, 1) := sorry
theorem dX12_best_30 : decode cX12_best 30 = .ok (.istore 4, 2) := sorry
theorem dX12_best_32 : decode cX12_best 32 = .ok (.iload 4, 2) := sorry
theorem dX12_best_34 : decode cX12_best 34 = .ok (.iconst 1, 1) := sorry
theorem dX12_best_35 : decode cX12_best 35 = .ok (.aload_n 0, 1) := sorry
theorem dX12_best_36 : decode cX12_best 36 = .ok (.getfield 291, 3) := sorry
theorem dX12_best_39 : decode cX12_best 39 = .ok (.ishl, 1) := sorry
theorem dX12_best_40 : decode cX12_best 40 = .ok (.if_icmp .ge 81, 3) := sorry
theorem dX12_best_43 : decode cX12_best 43 = .ok (.aload_n 0, 1) := sorry
theorem dX12_best_44 : decode cX12_best 44 = .ok (.iload 4, 2) := sorry
theorem dX12_best_46 : decode cX12_best 46 = .ok (.iconst 1, 1) := sorry
theorem dX12_best_47 : decode cX12_best 47 = .ok (.invokevirtual 294, 3) := sorry
theorem dX12_best_50 : decode cX12_best 50 = .ok (.aload_n 0, 1) := sorry
theorem dX12_best_51 : decode cX12_best 51 = .ok (.iload_n 3, 1) := sorry
theorem dX12_best_52 : decode cX12_best 52 = .ok (.iconst 1, 1) := sorry
theorem dX12_best_53 : decode cX12_best 53 = .ok (.invokevirtual 294, 3) := sorry
theorem dX12_best_56 : decode cX12_best 56 = .ok (.isub, 1) := sorry
theorem dX12_best_57 : decode cX12_best 57 = .ok (.istore 5, 2) := sorry
theorem dX12_best_59 : decode cX12_best 59 = .ok (.iload 5, 2) := sorry
theorem dX12_best_61 : decode cX12_best 61 = .ok (.ifCond .gt 24, 3) := sorry
theorem dX12_best_64 : decode cX12_best 64 = .ok (.iload 5, 2) := sorry
theorem dX12_best_66 : decode cX12_best 66 = .ok (.ifCond .ne 23, 3) := sorry
theorem dX12_best_69 : decode cX12_best 69 = .ok (.aload_n 0, 1) := sorry
theorem dX12_best_70 : decode cX12_best 70 = .ok (.iload 4, 2) := sorry
theorem dX12_best_72 : decode cX12_best 72 = .ok (.iconst 2, 1) := sorry
theorem dX12_best_73 : decode cX12_best 73 = .ok (.invokevirtual 294, 3) := sorry
theorem dX12_best_76 : decode cX12_best 76 = .ok (.aload_n 0, 1) := sorry
theorem dX12_best_77 : decode cX12_best 77 = .ok (.iload_n 3, 1) := sorry
theorem dX12_best_78 : decode cX12_best 78 = .ok (.iconst 2, 1) := sorry
theorem dX12_best_79 : decode cX12_best 79 = .ok (.invokevirtual 294, 3) := sorry
theorem dX12_best_82 : decode cX12_best 82 = .ok (.if_icmp .ge 7, 3) := sorry
theorem dX12_best_85 : decode cX12_best 85 = .ok (.iconst 1, 1) := sorry
theorem dX12_best_86 : decode cX12_best 86 = .ok (.goto 4, 3) := sorry
theorem dX12_best_89 : decode cX12_best 89 = .ok (.iconst 0, 1) := sorry
theorem dX12_best_90 : decode cX12_best 90 = .ok (.istore 6, 2) := sorry
theorem dX12_best_92 : decode cX12_best 92 = .ok (.aload_n 0, 1) := sorry
theorem dX12_best_93 : decode cX12_best 93 = .ok (.iload 4, 2) := sorry
theorem dX12_best_95 : decode cX12_best 95 = .ok (.iconst 2, 1) := sorry
theorem dX12_best_96 : decode cX12_best 96 = .ok (.invokevirtual 294, 3) := sorry
theorem dX12_best_99 : decode cX12_best 99 = .ok (.iload_n 1, 1) := sorry
theorem dX12_best_100 : decode cX12_best 100 = .ok (.if_icmp .gt 13, 3) := sorry
theorem dX12_best_103 : decode cX12_best 103 = .ok (.iload 6, 2) := sorry
theorem dX12_best_105 : decode cX12_best 105 = .ok (.ifCond .eq 8, 3) := sorry
theorem dX12_best_108 : decode cX12_best 108 = .ok (.iload 4, 2) := sorry
theorem dX12_best_110 : decode cX12_best 110 = .ok (.goto 4, 3) := sorry
theorem dX12_best_113 : decode cX12_best 113 = .ok (.iload_n 3, 1) := sorry
theorem dX12_best_114 : decode cX12_best 114 = .ok (.istore_n 3, 1) := sorry
theorem dX12_best_115 : decode cX12_best 115 = .ok (.iinc 4 1, 3) := sorry
theorem dX12_best_118 : decode cX12_best 118 = .ok (.goto (-86), 3) := sorry
theorem dX12_best_121 : decode cX12_best 121 = .ok (.iload_n 2, 1) := sorry
theorem dX12_best_122 : decode cX12_best 122 = .ok (.ifCond .ne 7, 3) := sorry
theorem dX12_best_125 : decode cX12_best 125 = .ok (.iload_n 3, 1) := sorry
theorem dX12_best_126 : decode cX12_best 126 = .ok (.goto 9, 3) := sorry
theorem dX12_best_129 : decode cX12_best 129 = .ok (.aload_n 0, 1) := sorry
theorem dX12_best_130 : decode cX12_best 130 = .ok (.iload_n 3, 1) := sorry
theorem dX12_best_131 : decode cX12_best 131 = .ok (.iload_n 2, 1) := sorry
theorem dX12_best_132 : decode cX12_best 132 = .ok (.invokevirtual 294, 3) := sorry
theorem dX12_best_135 : decode cX12_best 135 = .ok (.ireturn, 1) := sorry
theorem dX12_doubtful_0 : decode cX12_doubtful 0 = .ok (.iconst 0, 1) := sorry
theorem dX12_doubtful_1 : decode cX12_doubtful 1 = .ok (.istore_n 1, 1) := sorry
theorem dX12_doubtful_2 : decode cX12_doubtful 2 = .ok (.iconst 0, 1) := sorry
theorem dX12_doubtful_3 : decode cX12_doubtful 3 = .ok (.istore_n 2, 1) := sorry
theorem dX12_doubtful_4 : decode cX12_doubtful 4 = .ok (.iload_n 2, 1) := sorry
theorem dX12_doubtful_5 : decode cX12_doubtful 5 = .ok (.aload_n 0, 1) := sorry
theorem dX12_doubtful_6 : decode cX12_doubtful 6 = .ok (.getfield 291, 3) := sorry
theorem dX12_doubtful_9 : decode cX12_doubtful 9 = .ok (.if_icmp .ge 32, 3) := sorry
theorem dX12_doubtful_12 : decode cX12_doubtful 12 = .ok (.iload_n 1, 1) := sorry
theorem dX12_doubtful_13 : decode cX12_doubtful 13 = .ok (.aload_n 0, 1) := sorry
theorem dX12_doubtful_14 : decode cX12_doubtful 14 = .ok (.aload_n 0, 1) := sorry
theorem dX12_doubtful_15 : decode cX12_doubtful 15 = .ok (.getfield 58, 3) := sorry
theorem dX12_doubtful_18 : decode cX12_doubtful 18 = .ok (.iload_n 2, 1) := sorry
theorem dX12_doubtful_19 : decode cX12_doubtful 19 = .ok (.iaload, 1) := sorry
theorem dX12_doubtful_20 : decode cX12_doubtful 20 = .ok (.invokevirtual 257, 3) := sorry
theorem dX12_doubtful_23 : decode cX12_doubtful 23 = .ok (.ifCond .ge 7, 3) := sorry
theorem dX12_doubtful_26 : decode cX12_doubtful 26 = .ok (.iconst 0, 1) := sorry
theorem dX12_doubtful_27 : decode cX12_doubtful 27 = .ok (.goto 6, 3) := sorry
theorem dX12_doubtful_30 : decode cX12_doubtful 30 = .ok (.iconst 1, 1) := sorry
theorem dX12_doubtful_31 : decode cX12_doubtful 31 = .ok (.iload_n 2, 1) := sorry
theorem dX12_doubtful_32 : decode cX12_doubtful 32 = .ok (.ishl, 1) := sorry
theorem dX12_doubtful_33 : decode cX12_doubtful 33 = .ok (.ior, 1) := sorry
theorem dX12_doubtful_34 : decode cX12_doubtful 34 = .ok (.istore_n 1, 1) := sorry
theorem dX12_doubtful_35 : decode cX12_doubtful 35 = .ok (.iinc 2 1, 3) := sorry
theorem dX12_doubtful_38 : decode cX12_doubtful 38 = .ok (.goto (-34), 3) := sorry
theorem dX12_doubtful_41 : decode cX12_doubtful 41 = .ok (.iload_n 1, 1) := sorry
theorem dX12_doubtful_42 : decode cX12_doubtful 42 = .ok (.ireturn, 1) := sorry
theorem dX12_noSheet_0 : decode cX12_noSheet 0 = .ok (.iload_n 0, 1) := sorry
theorem dX12_noSheet_1 : decode cX12_noSheet 1 = .ok (.i2l, 1) := sorry
theorem dX12_noSheet_2 : decode cX12_noSheet 2 = .ok (.lconst 0, 1) := sorry
theorem dX12_noSheet_3 : decode cX12_noSheet 3 = .ok (.ldc2_w 260, 3) := sorry
theorem dX12_noSheet_6 : decode cX12_noSheet 6 = .ok (.invokestatic 99, 3) := sorry
theorem dX12_noSheet_9 : decode cX12_noSheet 9 = .ok (.ifCond .ne 7, 3) := sorry
theorem dX12_noSheet_12 : decode cX12_noSheet 12 = .ok (.iconst 1, 1) := sorry
theorem dX12_noSheet_13 : decode cX12_noSheet 13 = .ok (.goto 4, 3) := sorry
theorem dX12_noSheet_16 : decode cX12_noSheet 16 = .ok (.iconst 0, 1) := sorry
theorem dX12_noSheet_17 : decode cX12_noSheet 17 = .ok (.ireturn, 1) := sorry
theorem dX12_sheet_0 : decode cX12_sheet 0 = .ok (.iload_n 1, 1) := sorry
theorem dX12_sheet_1 : decode cX12_sheet 1 = .ok (.invokestatic 110, 3) := sorry
theorem dX12_sheet_4 : decode cX12_sheet 4 = .ok (.ifCond .eq 9, 3) := sorry
theorem dX12_sheet_7 : decode cX12_sheet 7 = .ok (.aload_n 0, 1) := sorry
theorem dX12_sheet_8 : decode cX12_sheet 8 = .ok (.iconst (-1), 1) := sorry
theorem dX12_sheet_9 : decode cX12_sheet 9 = .ok (.invokevirtual 114, 3) := sorry
theorem dX12_sheet_12 : decode cX12_sheet 12 = .ok (.ireturn, 1) := sorry
theorem dX12_sheet_13 : decode cX12_sheet 13 = .ok (.iload_n 2, 1) := sorry
theorem dX12_sheet_14 : decode cX12_sheet 14 = .ok (.invokestatic 119, 3) := sorry
theorem dX12_sheet_17 : decode cX12_sheet 17 = .ok (.ifCond .eq 9, 3) := sorry
theorem dX12_sheet_20 : decode cX12_sheet 20 = .ok (.iload_n 3, 1) := sorry
theorem dX12_sheet_21 : decode cX12_sheet 21 = .ok (.bipush 60, 2) := sorry
theorem dX12_sheet_23 : decode cX12_sheet 23 = .ok (.if_icmp .le 10, 3) := sorry
theorem dX12_sheet_26 : decode cX12_sheet 26 = .ok (.aload_n 0, 1) := sorry
theorem dX12_sheet_27 : decode cX12_sheet 27 = .ok (.bipush (-2), 2) := sorry
theorem dX12_sheet_29 : decode cX12_sheet 29 = .ok (.invokevirtual 114, 3) := sorry
theorem dX12_sheet_32 : decode cX12_sheet 32 = .ok (.ireturn, 1) := sorry
theorem dX12_sheet_33 : decode cX12_sheet 33 = .ok (.iload_n 3, 1) := sorry
theorem dX12_sheet_34 : decode cX12_sheet 34 = .ok (.ifCond .ge 9, 3) := sorry
theorem dX12_sheet_37 : decode cX12_sheet 37 = .ok (.aload_n 0, 1) := sorry
theorem dX12_sheet_38 : decode cX12_sheet 38 = .ok (.iconst 4, 1) := sorry
theorem dX12_sheet_39 : decode cX12_sheet 39 = .ok (.invokevirtual 89, 3) := sorry
theorem dX12_sheet_42 : decode cX12_sheet 42 = .ok (.ireturn, 1) := sorry
theorem dX12_sheet_43 : decode cX12_sheet 43 = .ok (.aload_n 0, 1) := sorry
theorem dX12_sheet_44 : decode cX12_sheet 44 = .ok (.getfield 67, 3) := sorry
theorem dX12_sheet_47 : decode cX12_sheet 47 = .ok (.iload_n 1, 1) := sorry
theorem dX12_sheet_48 : decode cX12_sheet 48 = .ok (.iload_n 3, 1) := sorry
theorem dX12_sheet_49 : decode cX12_sheet 49 = .ok (.iastore, 1) := sorry
theorem dX12_sheet_50 : decode cX12_sheet 50 = .ok (.aload_n 0, 1) := sorry
theorem dX12_sheet_51 : decode cX12_sheet 51 = .ok (.getfield 70, 3) := sorry
theorem dX12_sheet_54 : decode cX12_sheet 54 = .ok (.iload_n 1, 1) := sorry
theorem dX12_sheet_55 : decode cX12_sheet 55 = .ok (.iload_n 2, 1) := sorry
theorem dX12_sheet_56 : decode cX12_sheet 56 = .ok (.iastore, 1) := sorry
theorem dX12_sheet_57 : decode cX12_sheet 57 = .ok (.iconst 0, 1) := sorry
theorem dX12_sheet_58 : decode cX12_sheet 58 = .ok (.istore 4, 2) := sorry
theorem dX12_sheet_60 : decode cX12_sheet 60 = .ok (.iload 4, 2) := sorry
theorem dX12_sheet_62 : decode cX12_sheet 62 = .ok (.iload_n 3, 1) := sorry
theorem dX12_sheet_63 : decode cX12_sheet 63 = .ok (.if_icmp .ge 22, 3) := sorry
theorem dX12_sheet_66 : decode cX12_sheet 66 = .ok (.aload_n 0, 1) := sorry
theorem dX12_sheet_67 : decode cX12_sheet 67 = .ok (.getfield 73, 3) := sorry
theorem dX12_sheet_70 : decode cX12_sheet 70 = .ok (.bipush 60, 2) := sorry
theorem dX12_sheet_72 : decode cX12_sheet 72 = .ok (.iload_n 1, 1) := sorry
theorem dX12_sheet_73 : decode cX12_sheet 73 = .ok (.imul, 1) := sorry
theorem dX12_sheet_74 : decode cX12_sheet 74 = .ok (.iload 4, 2) := sorry
theorem dX12_sheet_76 : decode cX12_sheet 76 = .ok (.iadd, 1) := sorry
theorem dX12_sheet_77 : decode cX12_sheet 77 = .ok (.iconst 0, 1) := sorry
theorem dX12_sheet_78 : decode cX12_sheet 78 = .ok (.iastore, 1) := sorry
theorem dX12_sheet_79 : decode cX12_sheet 79 = .ok (.iinc 4 1, 3) := sorry
theorem dX12_sheet_82 : decode cX12_sheet 82 = .ok (.goto (-22), 3) := sorry
theorem dX12_sheet_85 : decode cX12_sheet 85 = .ok (.aload_n 0, 1) := sorry
theorem dX12_sheet_86 : decode cX12_sheet 86 = .ok (.iconst 1, 1) := sorry
theorem dX12_sheet_87 : decode cX12_sheet 87 = .ok (.invokevirtual 114, 3) := sorry
theorem dX12_sheet_90 : decode cX12_sheet 90 = .ok (.ireturn, 1) := sorry
theorem dX12_lose_0 : decode cX12_lose 0 = .ok (.iload_n 1, 1) := sorry
theorem dX12_lose_1 : decode cX12_lose 1 = .ok (.invokestatic 110, 3) := sorry
theorem dX12_lose_4 : decode cX12_lose 4 = .ok (.ifCond .eq 5, 3) := sorry
theorem dX12_lose_7 : decode cX12_lose 7 = .ok (.iconst (-1), 1) := sorry
theorem dX12_lose_8 : decode cX12_lose 8 = .ok (.ireturn, 1) := sorry
theorem dX12_lose_9 : decode cX12_lose 9 = .ok (.aload_n 0, 1) := sorry
theorem dX12_lose_10 : decode cX12_lose 10 = .ok (.getfield 67, 3) := sorry
theorem dX12_lose_13 : decode cX12_lose 13 = .ok (.iload_n 1, 1) := sorry
theorem dX12_lose_14 : decode cX12_lose 14 = .ok (.iaload, 1) := sorry
theorem dX12_lose_15 : decode cX12_lose 15 = .ok (.ifCond .ge 7, 3) := sorry
theorem dX12_lose_18 : decode cX12_lose 18 = .ok (.iconst 0, 1) := sorry
theorem dX12_lose_19 : decode cX12_lose 19 = .ok (.goto 4, 3) := sorry
theorem dX12_lose_22 : decode cX12_lose 22 = .ok (.iconst 1, 1) := sorry
theorem dX12_lose_23 : decode cX12_lose 23 = .ok (.istore_n 2, 1) := sorry
theorem dX12_lose_24 : decode cX12_lose 24 = .ok (.aload_n 0, 1) := sorry
theorem dX12_lose_25 : decode cX12_lose 25 = .ok (.getfield 67, 3) := sorry
theorem dX12_lose_28 : decode cX12_lose 28 = .ok (.iload_n 1, 1) := sorry
theorem dX12_lose_29 : decode cX12_lose 29 = .ok (.iconst (-1), 1) := sorry
theorem dX12_lose_30 : decode cX12_lose 30 = .ok (.iastore, 1) := sorry
theorem dX12_lose_31 : decode cX12_lose 31 = .ok (.iload_n 2, 1) := sorry
theorem dX12_lose_32 : decode cX12_lose 32 = .ok (.ireturn, 1) := sorry
theorem dX12_noCell_0 : decode cX12_noCell 0 = .ok (.aload_n 0, 1) := sorry
theorem dX12_noCell_1 : decode cX12_noCell 1 = .ok (.getfield 67, 3) := sorry
theorem dX12_noCell_4 : decode cX12_noCell 4 = .ok (.iload_n 1, 1) := sorry
theorem dX12_noCell_5 : decode cX12_noCell 5 = .ok (.iaload, 1) := sorry
theorem dX12_noCell_6 : decode cX12_noCell 6 = .ok (.ifCond .ge 7, 3) := sorry
theorem dX12_noCell_9 : decode cX12_noCell 9 = .ok (.iconst 1, 1) := sorry
theorem dX12_noCell_10 : decode cX12_noCell 10 = .ok (.goto 26, 3) := sorry
theorem dX12_noCell_13 : decode cX12_noCell 13 = .ok (.iload_n 2, 1) := sorry
theorem dX12_noCell_14 : decode cX12_noCell 14 = .ok (.i2l, 1) := sorry
theorem dX12_noCell_15 : decode cX12_noCell 15 = .ok (.lconst 0, 1) := sorry
theorem dX12_noCell_16 : decode cX12_noCell 16 = .ok (.aload_n 0, 1) := sorry
theorem dX12_noCell_17 : decode cX12_noCell 17 = .ok (.getfield 67, 3) := sorry
theorem dX12_noCell_20 : decode cX12_noCell 20 = .ok (.iload_n 1, 1) := sorry
theorem dX12_noCell_21 : decode cX12_noCell 21 = .ok (.iaload, 1) := sorry
theorem dX12_noCell_22 : decode cX12_noCell 22 = .ok (.i2l, 1) := sorry
theorem dX12_noCell_23 : decode cX12_noCell 23 = .ok (.lconst 1, 1) := sorry
theorem dX12_noCell_24 : decode cX12_noCell 24 = .ok (.lsub, 1) := sorry
theorem dX12_noCell_25 : decode cX12_noCell 25 = .ok (.invokestatic 99, 3) := sorry
theorem dX12_noCell_28 : decode cX12_noCell 28 = .ok (.ifCond .eq 7, 3) := sorry
theorem dX12_noCell_31 : decode cX12_noCell 31 = .ok (.iconst 0, 1) := sorry
theorem dX12_noCell_32 : decode cX12_noCell 32 = .ok (.goto 4, 3) := sorry
theorem dX12_noCell_35 : decode cX12_noCell 35 = .ok (.iconst 3, 1) := sorry
theorem dX12_noCell_36 : decode cX12_noCell 36 = .ok (.ireturn, 1) := sorry
theorem dX12_put_0 : decode cX12_put 0 = .ok (.iload_n 1, 1) := sorry
theorem dX12_put_1 : decode cX12_put 1 = .ok (.invokestatic 110, 3) := sorry
theorem dX12_put_4 : decode cX12_put 4 = .ok (.ifCond .eq 9, 3) := sorry
theorem dX12_put_7 : decode cX12_put 7 = .ok (.aload_n 0, 1) := sorry
theorem dX12_put_8 : decode cX12_put 8 = .ok (.iconst (-1), 1) := sorry
theorem dX12_put_9 : decode cX12_put 9 = .ok (.invokevirtual 114, 3) := sorry
theorem dX12_put_12 : decode cX12_put 12 = .ok (.ireturn, 1) := sorry
theorem dX12_put_13 : decode cX12_put 13 = .ok (.aload_n 0, 1) := sorry
theorem dX12_put_14 : decode cX12_put 14 = .ok (.iload_n 1, 1) := sorry
theorem dX12_put_15 : decode cX12_put 15 = .ok (.iload_n 2, 1) := sorry
theorem dX12_put_16 : decode cX12_put 16 = .ok (.invokevirtual 297, 3) := sorry
theorem dX12_put_19 : decode cX12_put 19 = .ok (.ifCond .le 14, 3) := sorry
theorem dX12_put_22 : decode cX12_put 22 = .ok (.aload_n 0, 1) := sorry
theorem dX12_put_23 : decode cX12_put 23 = .ok (.aload_n 0, 1) := sorry
theorem dX12_put_24 : decode cX12_put 24 = .ok (.iload_n 1, 1) := sorry
theorem dX12_put_25 : decode cX12_put 25 = .ok (.iload_n 2, 1) := sorry
theorem dX12_put_26 : decode cX12_put 26 = .ok (.invokevirtual 297, 3) := sorry
theorem dX12_put_29 : decode cX12_put 29 = .ok (.invokevirtual 89, 3) := sorry
theorem dX12_put_32 : decode cX12_put 32 = .ok (.ireturn, 1) := sorry
theorem dX12_put_33 : decode cX12_put 33 = .ok (.aload_n 0, 1) := sorry
theorem dX12_put_34 : decode cX12_put 34 = .ok (.getfield 73, 3) := sorry
theorem dX12_put_37 : decode cX12_put 37 = .ok (.bipush 60, 2) := sorry
theorem dX12_put_39 : decode cX12_put 39 = .ok (.iload_n 1, 1) := sorry
theorem dX12_put_40 : decode cX12_put 40 = .ok (.imul, 1) := sorry
theorem dX12_put_41 : decode cX12_put 41 = .ok (.iload_n 2, 1) := sorry
theorem dX12_put_42 : decode cX12_put 42 = .ok (.iadd, 1) := sorry
theorem dX12_put_43 : decode cX12_put 43 = .ok (.aload_n 0, 1) := sorry
theorem dX12_put_44 : decode cX12_put 44 = .ok (.getfield 70, 3) := sorry
theorem dX12_put_47 : decode cX12_put 47 = .ok (.iload_n 1, 1) := sorry
theorem dX12_put_48 : decode cX12_put 48 = .ok (.iaload, 1) := sorry
theorem dX12_put_49 : decode cX12_put 49 = .ok (.ifCond .ne 8, 3) := sorry
theorem dX12_put_52 : decode cX12_put 52 = .ok (.iload_n 3, 1) := sorry
theorem dX12_put_53 : decode cX12_put 53 = .ok (.i2b, 1) := sorry
theorem dX12_put_54 : decode cX12_put 54 = .ok (.goto 19, 3) := sorry
theorem dX12_put_57 : decode cX12_put 57 = .ok (.aload_n 0, 1) := sorry
theorem dX12_put_58 : decode cX12_put 58 = .ok (.getfield 70, 3) := sorry
theorem dX12_put_61 : decode cX12_put 61 = .ok (.iload_n 1, 1) := sorry
theorem dX12_put_62 : decode cX12_put 62 = .ok (.iaload, 1) := sorry
theorem dX12_put_63 : decode cX12_put 63 = .ok (.iconst 1, 1) := sorry
theorem dX12_put_64 : decode cX12_put 64 = .ok (.if_icmp .ne 8, 3) := sorry
theorem dX12_put_67 : decode cX12_put 67 = .ok (.iload_n 3, 1) := sorry
theorem dX12_put_68 : decode cX12_put 68 = .ok (.i2s, 1) := sorry
theorem dX12_put_69 : decode cX12_put 69 = .ok (.goto 4, 3) := sorry
theorem dX12_put_72 : decode cX12_put 72 = .ok (.iload_n 3, 1) := sorry
theorem dX12_put_73 : decode cX12_put 73 = .ok (.iastore, 1) := sorry
theorem dX12_put_74 : decode cX12_put 74 = .ok (.aload_n 0, 1) := sorry
theorem dX12_put_75 : decode cX12_put 75 = .ok (.iconst 1, 1) := sorry
theorem dX12_put_76 : decode cX12_put 76 = .ok (.invokevirtual 114, 3) := sorry
theorem dX12_put_79 : decode cX12_put 79 = .ok (.ireturn, 1) := sorry
theorem dX12_cell_0 : decode cX12_cell 0 = .ok (.aload_n 0, 1) := sorry
theorem dX12_cell_1 : decode cX12_cell 1 = .ok (.iconst 0, 1) := sorry
theorem dX12_cell_2 : decode cX12_cell 2 = .ok (.putfield 81, 3) := sorry
theorem dX12_cell_5 : decode cX12_cell 5 = .ok (.iload_n 1, 1) := sorry
theorem dX12_cell_6 : decode cX12_cell 6 = .ok (.invokestatic 110, 3) := sorry
theorem dX12_cell_9 : decode cX12_cell 9 = .ok (.ifCond .ne 10, 3) := sorry
theorem dX12_cell_12 : decode cX12_cell 12 = .ok (.iload_n 3, 1) := sorry
theorem dX12_cell_13 : decode cX12_cell 13 = .ok (.invokestatic 119, 3) := sorry
theorem dX12_cell_16 : decode cX12_cell 16 = .ok (.ifCond .ne 7, 3) := sorry
theorem dX12_cell_19 : decode cX12_cell 19 = .ok (.invokestatic 85, 3) := sorry
theorem dX12_cell_22 : decode cX12_cell 22 = .ok (.lreturn, 1) := sorry
theorem dX12_cell_23 : decode cX12_cell 23 = .ok (.aload_n 0, 1) := sorry
theorem dX12_cell_24 : decode cX12_cell 24 = .ok (.getfield 67, 3) := sorry
theorem dX12_cell_27 : decode cX12_cell 27 = .ok (.iload_n 1, 1) := sorry
theorem dX12_cell_28 : decode cX12_cell 28 = .ok (.iaload, 1) := sorry
theorem dX12_cell_29 : decode cX12_cell 29 = .ok (.ifCond .lt 19, 3) := sorry
theorem dX12_cell_32 : decode cX12_cell 32 = .ok (.aload_n 0, 1) := sorry
theorem dX12_cell_33 : decode cX12_cell 33 = .ok (.getfield 70, 3) := sorry
theorem dX12_cell_36 : decode cX12_cell 36 = .ok (.iload_n 1, 1) := sorry
theorem dX12_cell_37 : decode cX12_cell 37 = .ok (.iaload, 1) := sorry
theorem dX12_cell_38 : decode cX12_cell 38 = .ok (.iload_n 3, 1) := sorry
theorem dX12_cell_39 : decode cX12_cell 39 = .ok (.if_icmp .eq 9, 3) := sorry
theorem dX12_cell_42 : decode cX12_cell 42 = .ok (.aload_n 0, 1) := sorry
theorem dX12_cell_43 : decode cX12_cell 43 = .ok (.iconst 2, 1) := sorry
theorem dX12_cell_44 : decode cX12_cell 44 = .ok (.invokevirtual 300, 3) := sorry
theorem dX12_cell_47 : decode cX12_cell 47 = .ok (.lreturn, 1) := sorry
theorem dX12_cell_48 : decode cX12_cell 48 = .ok (.aload_n 0, 1) := sorry
theorem dX12_cell_49 : decode cX12_cell 49 = .ok (.iload_n 1, 1) := sorry
theorem dX12_cell_50 : decode cX12_cell 50 = .ok (.iload_n 2, 1) := sorry
theorem dX12_cell_51 : decode cX12_cell 51 = .ok (.invokevirtual 297, 3) := sorry
theorem dX12_cell_54 : decode cX12_cell 54 = .ok (.ifCond .le 16, 3) := sorry
theorem dX12_cell_57 : decode cX12_cell 57 = .ok (.aload_n 0, 1) := sorry
theorem dX12_cell_58 : decode cX12_cell 58 = .ok (.aload_n 0, 1) := sorry
theorem dX12_cell_59 : decode cX12_cell 59 = .ok (.iload_n 1, 1) := sorry
theorem dX12_cell_60 : decode cX12_cell 60 = .ok (.iload_n 2, 1) := sorry
theorem dX12_cell_61 : decode cX12_cell 61 = .ok (.invokevirtual 297, 3) := sorry
theorem dX12_cell_64 : decode cX12_cell 64 = .ok (.invokevirtual 300, 3) := sorry
theorem dX12_cell_67 : decode cX12_cell 67 = .ok (.goto 15, 3) := sorry
theorem dX12_cell_70 : decode cX12_cell 70 = .ok (.aload_n 0, 1) := sorry
theorem dX12_cell_71 : decode cX12_cell 71 = .ok (.getfield 73, 3) := sorry
theorem dX12_cell_74 : decode cX12_cell 74 = .ok (.bipush 60, 2) := sorry
theorem dX12_cell_76 : decode cX12_cell 76 = .ok (.iload_n 1, 1) := sorry
theorem dX12_cell_77 : decode cX12_cell 77 = .ok (.imul, 1) := sorry
theorem dX12_cell_78 : decode cX12_cell 78 = .ok (.iload_n 2, 1) := sorry
theorem dX12_cell_79 : decode cX12_cell 79 = .ok (.iadd, 1) := sorry
theorem dX12_cell_80 : decode cX12_cell 80 = .ok (.iaload, 1) := sorry
theorem dX12_cell_81 : decode cX12_cell 81 = .ok (.i2l, 1) := sorry
theorem dX12_cell_82 : decode cX12_cell 82 = .ok (.lreturn, 1) := sorry
theorem dX12_isBeyond_0 : decode cX12_isBeyond 0 = .ok (.iload_n 0, 1) := sorry
theorem dX12_isBeyond_1 : decode cX12_isBeyond 1 = .ok (.ifCond .lt 19, 3) := sorry
theorem dX12_isBeyond_4 : decode cX12_isBeyond 4 = .ok (.lload_n 1, 1) := sorry
theorem dX12_isBeyond_5 : decode cX12_isBeyond 5 = .ok (.lconst 0, 1) := sorry
theorem dX12_isBeyond_6 : decode cX12_isBeyond 6 = .ok (.lcmp, 1) := sorry
theorem dX12_isBeyond_7 : decode cX12_isBeyond 7 = .ok (.ifCond .lt 13, 3) := sorry
theorem dX12_isBeyond_10 : decode cX12_isBeyond 10 = .ok (.iload_n 0, 1) := sorry
theorem dX12_isBeyond_11 : decode cX12_isBeyond 11 = .ok (.i2l, 1) := sorry
theorem dX12_isBeyond_12 : decode cX12_isBeyond 12 = .ok (.lload_n 1, 1) := sorry
theorem dX12_isBeyond_13 : decode cX12_isBeyond 13 = .ok (.ladd, 1) := sorry
theorem dX12_isBeyond_14 : decode cX12_isBeyond 14 = .ok (.iload_n 3, 1) := sorry
theorem dX12_isBeyond_15 : decode cX12_isBeyond 15 = .ok (.i2l, 1) := sorry
theorem dX12_isBeyond_16 : decode cX12_isBeyond 16 = .ok (.lcmp, 1) := sorry
theorem dX12_isBeyond_17 : decode cX12_isBeyond 17 = .ok (.ifCond .le 7, 3) := sorry
theorem dX12_isBeyond_20 : decode cX12_isBeyond 20 = .ok (.iconst 1, 1) := sorry
theorem dX12_isBeyond_21 : decode cX12_isBeyond 21 = .ok (.goto 4, 3) := sorry
theorem dX12_isBeyond_24 : decode cX12_isBeyond 24 = .ok (.iconst 0, 1) := sorry
theorem dX12_isBeyond_25 : decode cX12_isBeyond 25 = .ok (.ireturn, 1) := sorry
theorem dX12_copy_0 : decode cX12_copy 0 = .ok (.iload_n 1, 1) := sorry
theorem dX12_copy_1 : decode cX12_copy 1 = .ok (.invokestatic 110, 3) := sorry
theorem dX12_copy_4 : decode cX12_copy 4 = .ok (.ifCond .ne 10, 3) := sorry
theorem dX12_copy_7 : decode cX12_copy 7 = .ok (.iload_n 3, 1) := sorry
theorem dX12_copy_8 : decode cX12_copy 8 = .ok (.invokestatic 110, 3) := sorry
theorem dX12_copy_11 : decode cX12_copy 11 = .ok (.ifCond .eq 9, 3) := sorry
theorem dX12_copy_14 : decode cX12_copy 14 = .ok (.aload_n 0, 1) := sorry
theorem dX12_copy_15 : decode cX12_copy 15 = .ok (.iconst (-1), 1) := sorry
theorem dX12_copy_16 : decode cX12_copy 16 = .ok (.invokevirtual 114, 3) := sorry
theorem dX12_copy_19 : decode cX12_copy 19 = .ok (.ireturn, 1) := sorry
theorem dX12_copy_20 : decode cX12_copy 20 = .ok (.aload_n 0, 1) := sorry
theorem dX12_copy_21 : decode cX12_copy 21 = .ok (.getfield 67, 3) := sorry
theorem dX12_copy_24 : decode cX12_copy 24 = .ok (.iload_n 1, 1) := sorry
theorem dX12_copy_25 : decode cX12_copy 25 = .ok (.iaload, 1) := sorry
theorem dX12_copy_26 : decode cX12_copy 26 = .ok (.ifCond .lt 12, 3) := sorry
theorem dX12_copy_29 : decode cX12_copy 29 = .ok (.aload_n 0, 1) := sorry
theorem dX12_copy_30 : decode cX12_copy 30 = .ok (.getfield 67, 3) := sorry
theorem dX12_copy_33 : decode cX12_copy 33 = .ok (.iload_n 3, 1) := sorry
theorem dX12_copy_34 : decode cX12_copy 34 = .ok (.iaload, 1) := sorry
theorem dX12_copy_35 : decode cX12_copy 35 = .ok (.ifCond .ge 9, 3) := sorry
theorem dX12_copy_38 : decode cX12_copy 38 = .ok (.aload_n 0, 1) := sorry
theorem dX12_copy_39 : decode cX12_copy 39 = .ok (.iconst 1, 1) := sorry
theorem dX12_copy_40 : decode cX12_copy 40 = .ok (.invokevirtual 89, 3) := sorry
theorem dX12_copy_43 : decode cX12_copy 43 = .ok (.ireturn, 1) := sorry
theorem dX12_copy_44 : decode cX12_copy 44 = .ok (.aload_n 0, 1) := sorry
theorem dX12_copy_45 : decode cX12_copy 45 = .ok (.getfield 70, 3) := sorry
theorem dX12_copy_48 : decode cX12_copy 48 = .ok (.iload_n 1, 1) := sorry
theorem dX12_copy_49 : decode cX12_copy 49 = .ok (.iaload, 1) := sorry
theorem dX12_copy_50 : decode cX12_copy 50 = .ok (.aload_n 0, 1) := sorry
theorem dX12_copy_51 : decode cX12_copy 51 = .ok (.getfield 70, 3) := sorry
theorem dX12_copy_54 : decode cX12_copy 54 = .ok (.iload_n 3, 1) := sorry
theorem dX12_copy_55 : decode cX12_copy 55 = .ok (.iaload, 1) := sorry
theorem dX12_copy_56 : decode cX12_copy 56 = .ok (.if_icmp .eq 9, 3) := sorry
theorem dX12_copy_59 : decode cX12_copy 59 = .ok (.aload_n 0, 1) := sorry
theorem dX12_copy_60 : decode cX12_copy 60 = .ok (.iconst 2, 1) := sorry
theorem dX12_copy_61 : decode cX12_copy 61 = .ok (.invokevirtual 89, 3) := sorry
theorem dX12_copy_64 : decode cX12_copy 64 = .ok (.ireturn, 1) := sorry
theorem dX12_copy_65 : decode cX12_copy 65 = .ok (.iload_n 2, 1) := sorry
theorem dX12_copy_66 : decode cX12_copy 66 = .ok (.iload 5, 2) := sorry
theorem dX12_copy_68 : decode cX12_copy 68 = .ok (.i2l, 1) := sorry
theorem dX12_copy_69 : decode cX12_copy 69 = .ok (.aload_n 0, 1) := sorry
theorem dX12_copy_70 : decode cX12_copy 70 = .ok (.getfield 67, 3) := sorry
theorem dX12_copy_73 : decode cX12_copy 73 = .ok (.iload_n 1, 1) := sorry
theorem dX12_copy_74 : decode cX12_copy 74 = .ok (.iaload, 1) := sorry
theorem dX12_copy_75 : decode cX12_copy 75 = .ok (.invokestatic 93, 3) := sorry
theorem dX12_copy_78 : decode cX12_copy 78 = .ok (.ifCond .ne 20, 3) := sorry
theorem dX12_copy_81 : decode cX12_copy 81 = .ok (.iload 4, 2) := sorry
theorem dX12_copy_83 : decode cX12_copy 83 = .ok (.iload 5, 2) := sorry
theorem dX12_copy_85 : decode cX12_copy 85 = .ok (.i2l, 1) := sorry
theorem dX12_copy_86 : decode cX12_copy 86 = .ok (.aload_n 0, 1) := sorry
theorem dX12_copy_87 : decode cX12_copy 87 = .ok (.getfield 67, 3) := sorry
theorem dX12_copy_90 : decode cX12_copy 90 = .ok (.iload_n 3, 1) := sorry
theorem dX12_copy_91 : decode cX12_copy 91 = .ok (.iaload, 1) := sorry
theorem dX12_copy_92 : decode cX12_copy 92 = .ok (.invokestatic 93, 3) := sorry
theorem dX12_copy_95 : decode cX12_copy 95 = .ok (.ifCond .eq 9, 3) := sorry
theorem dX12_copy_98 : decode cX12_copy 98 = .ok (.aload_n 0, 1) := sorry
theorem dX12_copy_99 : decode cX12_copy 99 = .ok (.iconst 3, 1) := sorry
theorem dX12_copy_100 : decode cX12_copy 100 = .ok (.invokevirtual 89, 3) := sorry
theorem dX12_copy_103 : decode cX12_copy 103 = .ok (.ireturn, 1) := sorry
theorem dX12_copy_104 : decode cX12_copy 104 = .ok (.iconst 0, 1) := sorry
theorem dX12_copy_105 : decode cX12_copy 105 = .ok (.istore 6, 2) := sorry
theorem dX12_copy_107 : decode cX12_copy 107 = .ok (.iload 6, 2) := sorry
theorem dX12_copy_109 : decode cX12_copy 109 = .ok (.iload 5, 2) := sorry
theorem dX12_copy_111 : decode cX12_copy 111 = .ok (.if_icmp .ge 30, 3) := sorry
theorem dX12_copy_114 : decode cX12_copy 114 = .ok (.aload_n 0, 1) := sorry
theorem dX12_copy_115 : decode cX12_copy 115 = .ok (.getfield 76, 3) := sorry
theorem dX12_copy_118 : decode cX12_copy 118 = .ok (.iload 6, 2) := sorry
theorem dX12_copy_120 : decode cX12_copy 120 = .ok (.aload_n 0, 1) := sorry
theorem dX12_copy_121 : decode cX12_copy 121 = .ok (.getfield 73, 3) := sorry
theorem dX12_copy_124 : decode cX12_copy 124 = .ok (.bipush 60, 2) := sorry
theorem dX12_copy_126 : decode cX12_copy 126 = .ok (.iload_n 1, 1) := sorry
theorem dX12_copy_127 : decode cX12_copy 127 = .ok (.imul, 1) := sorry
theorem dX12_copy_128 : decode cX12_copy 128 = .ok (.iload_n 2, 1) := sorry
theorem dX12_copy_129 : decode cX12_copy 129 = .ok (.iadd, 1) := sorry
theorem dX12_copy_130 : decode cX12_copy 130 = .ok (.iload 6, 2) := sorry
theorem dX12_copy_132 : decode cX12_copy 132 = .ok (.iadd, 1) := sorry
theorem dX12_copy_133 : decode cX12_copy 133 = .ok (.iaload, 1) := sorry
theorem dX12_copy_134 : decode cX12_copy 134 = .ok (.iastore, 1) := sorry
theorem dX12_copy_135 : decode cX12_copy 135 = .ok (.iinc 6 1, 3) := sorry
theorem dX12_copy_138 : decode cX12_copy 138 = .ok (.goto (-31), 3) := sorry
theorem dX12_copy_141 : decode cX12_copy 141 = .ok (.iconst 0, 1) := sorry
theorem dX12_copy_142 : decode cX12_copy 142 = .ok (.istore 6, 2) := sorry
theorem dX12_copy_144 : decode cX12_copy 144 = .ok (.iload 6, 2) := sorry
theorem dX12_copy_146 : decode cX12_copy 146 = .ok (.iload 5, 2) := sorry
theorem dX12_copy_148 : decode cX12_copy 148 = .ok (.if_icmp .ge 31, 3) := sorry
theorem dX12_copy_151 : decode cX12_copy 151 = .ok (.aload_n 0, 1) := sorry
theorem dX12_copy_152 : decode cX12_copy 152 = .ok (.getfield 73, 3) := sorry
theorem dX12_copy_155 : decode cX12_copy 155 = .ok (.bipush 60, 2) := sorry
theorem dX12_copy_157 : decode cX12_copy 157 = .ok (.iload_n 3, 1) := sorry
theorem dX12_copy_158 : decode cX12_copy 158 = .ok (.imul, 1) := sorry
theorem dX12_copy_159 : decode cX12_copy 159 = .ok (.iload 4, 2) := sorry
theorem dX12_copy_161 : decode cX12_copy 161 = .ok (.iadd, 1) := sorry
theorem dX12_copy_162 : decode cX12_copy 162 = .ok (.iload 6, 2) := sorry
theorem dX12_copy_164 : decode cX12_copy 164 = .ok (.iadd, 1) := sorry
theorem dX12_copy_165 : decode cX12_copy 165 = .ok (.aload_n 0, 1) := sorry
theorem dX12_copy_166 : decode cX12_copy 166 = .ok (.getfield 76, 3) := sorry
theorem dX12_copy_169 : decode cX12_copy 169 = .ok (.iload 6, 2) := sorry
theorem dX12_copy_171 : decode cX12_copy 171 = .ok (.iaload, 1) := sorry
theorem dX12_copy_172 : decode cX12_copy 172 = .ok (.iastore, 1) := sorry
theorem dX12_copy_173 : decode cX12_copy 173 = .ok (.iinc 6 1, 3) := sorry
theorem dX12_copy_176 : decode cX12_copy 176 = .ok (.goto (-32), 3) := sorry
theorem dX12_copy_179 : decode cX12_copy 179 = .ok (.aload_n 0, 1) := sorry
theorem dX12_copy_180 : decode cX12_copy 180 = .ok (.iload 5, 2) := sorry
theorem dX12_copy_182 : decode cX12_copy 182 = .ok (.invokevirtual 114, 3) := sorry
theorem dX12_copy_185 : decode cX12_copy 185 = .ok (.ireturn, 1) := sorry
theorem dX12_traced_0 : decode cX12_traced 0 = .ok (.aload_n 0, 1) := sorry
theorem dX12_traced_1 : decode cX12_traced 1 = .ok (.bipush 31, 2) := sorry
theorem dX12_traced_3 : decode cX12_traced 3 = .ok (.aload_n 0, 1) := sorry
theorem dX12_traced_4 : decode cX12_traced 4 = .ok (.getfield 304, 3) := sorry
theorem dX12_traced_7 : decode cX12_traced 7 = .ok (.imul, 1) := sorry
theorem dX12_traced_8 : decode cX12_traced 8 = .ok (.iload_n 1, 1) := sorry
theorem dX12_traced_9 : decode cX12_traced 9 = .ok (.iadd, 1) := sorry
theorem dX12_traced_10 : decode cX12_traced 10 = .ok (.putfield 304, 3) := sorry
theorem dX12_traced_13 : decode cX12_traced 13 = .ok (.return_, 1) := sorry
theorem dX12_tell_0 : decode cX12_tell 0 = .ok (.aload_n 0, 1) := sorry
theorem dX12_tell_1 : decode cX12_tell 1 = .ok (.iload_n 1, 1) := sorry
theorem dX12_tell_2 : decode cX12_tell 2 = .ok (.invokevirtual 146, 3) := sorry
theorem dX12_tell_5 : decode cX12_tell 5 = .ok (.ifCond .eq 5, 3) := sorry
theorem dX12_tell_8 : decode cX12_tell 8 = .ok (.iconst (-1), 1) := sorry
theorem dX12_tell_9 : decode cX12_tell 9 = .ok (.ireturn, 1) := sorry
theorem dX12_tell_10 : decode cX12_tell 10 = .ok (.aload_n 0, 1) := sorry
theorem dX12_tell_11 : decode cX12_tell 11 = .ok (.iload_n 1, 1) := sorry
theorem dX12_tell_12 : decode cX12_tell 12 = .ok (.invokevirtual 227, 3) := sorry
theorem dX12_tell_15 : decode cX12_tell 15 = .ok (.ifCond .eq 6, 3) := sorry
theorem dX12_tell_18 : decode cX12_tell 18 = .ok (.bipush (-3), 2) := sorry
theorem dX12_tell_20 : decode cX12_tell 20 = .ok (.ireturn, 1) := sorry
theorem dX12_tell_21 : decode cX12_tell 21 = .ok (.aload_n 0, 1) := sorry
theorem dX12_tell_22 : decode cX12_tell 22 = .ok (.getfield 37, 3) := sorry
theorem dX12_tell_25 : decode cX12_tell 25 = .ok (.iload_n 1, 1) := sorry
theorem dX12_tell_26 : decode cX12_tell 26 = .ok (.iaload, 1) := sorry
theorem dX12_tell_27 : decode cX12_tell 27 = .ok (.istore_n 2, 1) := sorry
theorem dX12_tell_28 : decode cX12_tell 28 = .ok (.iload_n 2, 1) := sorry
theorem dX12_tell_29 : decode cX12_tell 29 = .ok (.iconst 2, 1) := sorry
theorem dX12_tell_30 : decode cX12_tell 30 = .ok (.if_icmp .ne 8, 3) := sorry
theorem dX12_tell_33 : decode cX12_tell 33 = .ok (.aload_n 0, 1) := sorry
theorem dX12_tell_34 : decode cX12_tell 34 = .ok (.iconst 3, 1) := sorry
theorem dX12_tell_35 : decode cX12_tell 35 = .ok (.invokevirtual 307, 3) := sorry
theorem dX12_tell_38 : decode cX12_tell 38 = .ok (.iload_n 2, 1) := sorry
theorem dX12_tell_39 : decode cX12_tell 39 = .ok (.ifCond .le 8, 3) := sorry
theorem dX12_tell_42 : decode cX12_tell 42 = .ok (.aload_n 0, 1) := sorry
theorem dX12_tell_43 : decode cX12_tell 43 = .ok (.iconst 2, 1) := sorry
theorem dX12_tell_44 : decode cX12_tell 44 = .ok (.invokevirtual 307, 3) := sorry
theorem dX12_tell_47 : decode cX12_tell 47 = .ok (.aload_n 0, 1) := sorry
theorem dX12_tell_48 : decode cX12_tell 48 = .ok (.iconst 1, 1) := sorry
theorem dX12_tell_49 : decode cX12_tell 49 = .ok (.invokevirtual 307, 3) := sorry
theorem dX12_tell_52 : decode cX12_tell 52 = .ok (.iload_n 2, 1) := sorry
theorem dX12_tell_53 : decode cX12_tell 53 = .ok (.iconst 2, 1) := sorry
theorem dX12_tell_54 : decode cX12_tell 54 = .ok (.if_icmp .ne 8, 3) := sorry
theorem dX12_tell_57 : decode cX12_tell 57 = .ok (.aload_n 0, 1) := sorry
theorem dX12_tell_58 : decode cX12_tell 58 = .ok (.iconst 1, 1) := sorry
theorem dX12_tell_59 : decode cX12_tell 59 = .ok (.invokevirtual 307, 3) := sorry
theorem dX12_tell_62 : decode cX12_tell 62 = .ok (.iload_n 2, 1) := sorry
theorem dX12_tell_63 : decode cX12_tell 63 = .ok (.ifCond .ne 12, 3) := sorry
theorem dX12_tell_66 : decode cX12_tell 66 = .ok (.aload_n 0, 1) := sorry
theorem dX12_tell_67 : decode cX12_tell 67 = .ok (.getfield 43, 3) := sorry
theorem dX12_tell_70 : decode cX12_tell 70 = .ok (.iload_n 1, 1) := sorry
theorem dX12_tell_71 : decode cX12_tell 71 = .ok (.iaload, 1) := sorry
theorem dX12_tell_72 : decode cX12_tell 72 = .ok (.goto 33, 3) := sorry
theorem dX12_tell_75 : decode cX12_tell 75 = .ok (.iload_n 2, 1) := sorry
theorem dX12_tell_76 : decode cX12_tell 76 = .ok (.iconst 1, 1) := sorry
theorem dX12_tell_77 : decode cX12_tell 77 = .ok (.if_icmp .ne 16, 3) := sorry
theorem dX12_tell_80 : decode cX12_tell 80 = .ok (.aload_n 0, 1) := sorry
theorem dX12_tell_81 : decode cX12_tell 81 = .ok (.getfield 43, 3) := sorry
theorem dX12_tell_84 : decode cX12_tell 84 = .ok (.iload_n 1, 1) := sorry
theorem dX12_tell_85 : decode cX12_tell 85 = .ok (.iaload, 1) := sorry
theorem dX12_tell_86 : decode cX12_tell 86 = .ok (.sipush 1000, 3) := sorry
theorem dX12_tell_89 : decode cX12_tell 89 = .ok (.iadd, 1) := sorry
theorem dX12_tell_90 : decode cX12_tell 90 = .ok (.goto 15, 3) := sorry
theorem dX12_tell_93 : decode cX12_tell 93 = .ok (.iconst 2, 1) := sorry
theorem dX12_tell_94 : decode cX12_tell 94 = .ok (.aload_n 0, 1) := sorry
theorem dX12_tell_95 : decode cX12_tell 95 = .ok (.getfield 43, 3) := sorry
theorem dX12_tell_98 : decode cX12_tell 98 = .ok (.iload_n 1, 1) := sorry
theorem dX12_tell_99 : decode cX12_tell 99 = .ok (.iaload, 1) := sorry
theorem dX12_tell_100 : decode cX12_tell 100 = .ok (.imul, 1) := sorry
theorem dX12_tell_101 : decode cX12_tell 101 = .ok (.sipush 1000, 3) := sorry
theorem dX12_tell_104 : decode cX12_tell 104 = .ok (.iadd, 1) := sorry
theorem dX12_tell_105 : decode cX12_tell 105 = .ok (.ireturn, 1) := sorry
theorem dX12_show_0 : decode cX12_show 0 = .ok (.aload_n 0, 1) := sorry
theorem dX12_show_1 : decode cX12_show 1 = .ok (.iload_n 1, 1) := sorry
theorem dX12_show_2 : decode cX12_show 2 = .ok (.invokevirtual 146, 3) := sorry
theorem dX12_show_5 : decode cX12_show 5 = .ok (.ifCond .eq 5, 3) := sorry
theorem dX12_show_8 : decode cX12_show 8 = .ok (.iconst (-1), 1) := sorry
theorem dX12_show_9 : decode cX12_show 9 = .ok (.ireturn, 1) := sorry
theorem dX12_show_10 : decode cX12_show 10 = .ok (.aload_n 0, 1) := sorry
theorem dX12_show_11 : decode cX12_show 11 = .ok (.iload_n 1, 1) := sorry
theorem dX12_show_12 : decode cX12_show 12 = .ok (.invokevirtual 227, 3) := sorry
theorem dX12_show_15 : decode cX12_show 15 = .ok (.ifCond .eq 6, 3) := sorry
theorem dX12_show_18 : decode cX12_show 18 = .ok (.bipush (-3), 2) := sorry
theorem dX12_show_20 : decode cX12_show 20 = .ok (.ireturn, 1) := sorry
theorem dX12_show_21 : decode cX12_show 21 = .ok (.aload_n 0, 1) := sorry
theorem dX12_show_22 : decode cX12_show 22 = .ok (.aload_n 0, 1) := sorry
theorem dX12_show_23 : decode cX12_show 23 = .ok (.getfield 37, 3) := sorry
theorem dX12_show_26 : decode cX12_show 26 = .ok (.iload_n 1, 1) := sorry
theorem dX12_show_27 : decode cX12_show 27 = .ok (.iaload, 1) := sorry
theorem dX12_show_28 : decode cX12_show 28 = .ok (.iconst 2, 1) := sorry
theorem dX12_show_29 : decode cX12_show 29 = .ok (.if_icmp .ne 7, 3) := sorry
theorem dX12_show_32 : decode cX12_show 32 = .ok (.iconst 5, 1) := sorry
theorem dX12_show_33 : decode cX12_show 33 = .ok (.goto 4, 3) := sorry
theorem dX12_show_36 : decode cX12_show 36 = .ok (.iconst 4, 1) := sorry
theorem dX12_show_37 : decode cX12_show 37 = .ok (.invokevirtual 307, 3) := sorry
theorem dX12_show_40 : decode cX12_show 40 = .ok (.aload_n 0, 1) := sorry
theorem dX12_show_41 : decode cX12_show 41 = .ok (.getfield 37, 3) := sorry
theorem dX12_show_44 : decode cX12_show 44 = .ok (.iload_n 1, 1) := sorry
theorem dX12_show_45 : decode cX12_show 45 = .ok (.iaload, 1) := sorry
theorem dX12_show_46 : decode cX12_show 46 = .ok (.iconst 2, 1) := sorry
theorem dX12_show_47 : decode cX12_show 47 = .ok (.if_icmp .ne 8, 3) := sorry
theorem dX12_show_50 : decode cX12_show 50 = .ok (.bipush 33, 2) := sorry
theorem dX12_show_52 : decode cX12_show 52 = .ok (.goto 9, 3) := sorry
theorem dX12_show_55 : decode cX12_show 55 = .ok (.aload_n 0, 1) := sorry
theorem dX12_show_56 : decode cX12_show 56 = .ok (.getfield 46, 3) := sorry
theorem dX12_show_59 : decode cX12_show 59 = .ok (.iload_n 1, 1) := sorry
theorem dX12_show_60 : decode cX12_show 60 = .ok (.iaload, 1) := sorry
theorem dX12_show_61 : decode cX12_show 61 = .ok (.ireturn, 1) := sorry
theorem dX12_as_0 : decode cX12_as 0 = .ok (.aload_n 0, 1) := sorry
theorem dX12_as_1 : decode cX12_as 1 = .ok (.iload_n 1, 1) := sorry
theorem dX12_as_2 : decode cX12_as 2 = .ok (.invokevirtual 146, 3) := sorry
theorem dX12_as_5 : decode cX12_as 5 = .ok (.ifCond .eq 9, 3) := sorry
theorem dX12_as_8 : decode cX12_as 8 = .ok (.aload_n 0, 1) := sorry
theorem dX12_as_9 : decode cX12_as 9 = .ok (.iconst (-1), 1) := sorry
theorem dX12_as_10 : decode cX12_as 10 = .ok (.invokevirtual 114, 3) := sorry
theorem dX12_as_13 : decode cX12_as 13 = .ok (.ireturn, 1) := sorry
theorem dX12_as_14 : decode cX12_as 14 = .ok (.iload_n 2, 1) := sorry
theorem dX12_as_15 : decode cX12_as 15 = .ok (.i2l, 1) := sorry
theorem dX12_as_16 : decode cX12_as 16 = .ok (.lconst 0, 1) := sorry
theorem dX12_as_17 : decode cX12_as 17 = .ok (.ldc2_w 97, 3) := sorry
theorem dX12_as_20 : decode cX12_as 20 = .ok (.invokestatic 99, 3) := sorry
theorem dX12_as_23 : decode cX12_as 23 = .ok (.ifCond .ne 10, 3) := sorry
theorem dX12_as_26 : decode cX12_as 26 = .ok (.aload_n 0, 1) := sorry
theorem dX12_as_27 : decode cX12_as 27 = .ok (.bipush (-2), 2) := sorry
theorem dX12_as_29 : decode cX12_as 29 = .ok (.invokevirtual 114, 3) := sorry
theorem dX12_as_32 : decode cX12_as 32 = .ok (.ireturn, 1) := sorry
theorem dX12_as_33 : decode cX12_as 33 = .ok (.aload_n 0, 1) := sorry
theorem dX12_as_34 : decode cX12_as 34 = .ok (.iload_n 1, 1) := sorry
theorem dX12_as_35 : decode cX12_as 35 = .ok (.invokevirtual 227, 3) := sorry
theorem dX12_as_38 : decode cX12_as 38 = .ok (.ifCond .eq 10, 3) := sorry
theorem dX12_as_41 : decode cX12_as 41 = .ok (.aload_n 0, 1) := sorry
theorem dX12_as_42 : decode cX12_as 42 = .ok (.bipush (-3), 2) := sorry
theorem dX12_as_44 : decode cX12_as 44 = .ok (.invokevirtual 114, 3) := sorry
theorem dX12_as_47 : decode cX12_as 47 = .ok (.ireturn, 1) := sorry
theorem dX12_as_48 : decode cX12_as 48 = .ok (.aload_n 0, 1) := sorry
theorem dX12_as_49 : decode cX12_as 49 = .ok (.getfield 37, 3) := sorry
theorem dX12_as_52 : decode cX12_as 52 = .ok (.iload_n 1, 1) := sorry
theorem dX12_as_53 : decode cX12_as 53 = .ok (.iaload, 1) := sorry
theorem dX12_as_54 : decode cX12_as 54 = .ok (.iload_n 2, 1) := sorry
theorem dX12_as_55 : decode cX12_as 55 = .ok (.if_icmp .lt 11, 3) := sorry
theorem dX12_as_58 : decode cX12_as 58 = .ok (.aload_n 0, 1) := sorry
theorem dX12_as_59 : decode cX12_as 59 = .ok (.iconst 1, 1) := sorry
theorem dX12_as_60 : decode cX12_as 60 = .ok (.invokevirtual 114, 3) := sorry
theorem dX12_as_63 : decode cX12_as 63 = .ok (.goto 8, 3) := sorry
theorem dX12_as_66 : decode cX12_as 66 = .ok (.aload_n 0, 1) := sorry
theorem dX12_as_67 : decode cX12_as 67 = .ok (.iconst 2, 1) := sorry
theorem dX12_as_68 : decode cX12_as 68 = .ok (.invokevirtual 89, 3) := sorry
theorem dX12_as_71 : decode cX12_as 71 = .ok (.ireturn, 1) := sorry
theorem dX12_trace_0 : decode cX12_trace 0 = .ok (.aload_n 0, 1) := sorry
theorem dX12_trace_1 : decode cX12_trace 1 = .ok (.getfield 304, 3) := sorry
theorem dX12_trace_4 : decode cX12_trace 4 = .ok (.ireturn, 1) := sorry
theorem dX12_fault_0 : decode cX12_fault 0 = .ok (.aload_n 0, 1) := sorry
theorem dX12_fault_1 : decode cX12_fault 1 = .ok (.getfield 81, 3) := sorry
theorem dX12_fault_4 : decode cX12_fault 4 = .ok (.ireturn, 1) := sorry
theorem dX12_many_0 : decode cX12_many 0 = .ok (.iconst 0, 1) := sorry
theorem dX12_many_1 : decode cX12_many 1 = .ok (.istore_n 2, 1) := sorry
theorem dX12_many_2 : decode cX12_many 2 = .ok (.iconst 0, 1) := sorry
theorem dX12_many_3 : decode cX12_many 3 = .ok (.istore_n 3, 1) := sorry
theorem dX12_many_4 : decode cX12_many 4 = .ok (.iload_n 3, 1) := sorry
theorem dX12_many_5 : decode cX12_many 5 = .ok (.aload_n 0, 1) := sorry
theorem dX12_many_6 : decode cX12_many 6 = .ok (.getfield 105, 3) := sorry
theorem dX12_many_9 : decode cX12_many 9 = .ok (.if_icmp .ge 25, 3) := sorry
theorem dX12_many_12 : decode cX12_many 12 = .ok (.iload_n 2, 1) := sorry
theorem dX12_many_13 : decode cX12_many 13 = .ok (.aload_n 0, 1) := sorry
theorem dX12_many_14 : decode cX12_many 14 = .ok (.iload_n 3, 1) := sorry
theorem dX12_many_15 : decode cX12_many 15 = .ok (.invokevirtual 227, 3) := sorry
theorem dX12_many_18 : decode cX12_many 18 = .ok (.ifCond .eq 7, 3) := sorry
theorem dX12_many_21 : decode cX12_many 21 = .ok (.iconst 0, 1) := sorry
theorem dX12_many_22 : decode cX12_many 22 = .ok (.goto 4, 3) := sorry
theorem dX12_many_25 : decode cX12_many 25 = .ok (.iconst 1, 1) := sorry
theorem dX12_many_26 : decode cX12_many 26 = .ok (.iadd, 1) := sorry
theorem dX12_many_27 : decode cX12_many 27 = .ok (.istore_n 2, 1) := sorry
theorem dX12_many_28 : decode cX12_many 28 = .ok (.iinc 3 1, 3) := sorry
theorem dX12_many_31 : decode cX12_many 31 = .ok (.goto (-27), 3) := sorry
theorem dX12_many_34 : decode cX12_many 34 = .ok (.iload_n 1, 1) := sorry
theorem dX12_many_35 : decode cX12_many 35 = .ok (.ifCond .ne 10, 3) := sorry
theorem dX12_many_38 : decode cX12_many 38 = .ok (.aload_n 0, 1) := sorry
theorem dX12_many_39 : decode cX12_many 39 = .ok (.getfield 105, 3) := sorry
theorem dX12_many_42 : decode cX12_many 42 = .ok (.goto 38, 3) := sorry
theorem dX12_many_45 : decode cX12_many 45 = .ok (.iload_n 1, 1) := sorry
theorem dX12_many_46 : decode cX12_many 46 = .ok (.iconst 1, 1) := sorry
theorem dX12_many_47 : decode cX12_many 47 = .ok (.if_icmp .ne 10, 3) := sorry
theorem dX12_many_50 : decode cX12_many 50 = .ok (.aload_n 0, 1) := sorry
theorem dX12_many_51 : decode cX12_many 51 = .ok (.getfield 211, 3) := sorry
theorem dX12_many_54 : decode cX12_many 54 = .ok (.goto 26, 3) := sorry
theorem dX12_many_57 : decode cX12_many 57 = .ok (.iload_n 1, 1) := sorry
theorem dX12_many_58 : decode cX12_many 58 = .ok (.iconst 2, 1) := sorry
theorem dX12_many_59 : decode cX12_many 59 = .ok (.if_icmp .ne 7, 3) := sorry
theorem dX12_many_62 : decode cX12_many 62 = .ok (.iload_n 2, 1) := sorry
theorem dX12_many_63 : decode cX12_many 63 = .ok (.goto 17, 3) := sorry
theorem dX12_many_66 : decode cX12_many 66 = .ok (.iload_n 1, 1) := sorry
theorem dX12_many_67 : decode cX12_many 67 = .ok (.iconst 3, 1) := sorry
theorem dX12_many_68 : decode cX12_many 68 = .ok (.if_icmp .ne 10, 3) := sorry
theorem dX12_many_71 : decode cX12_many 71 = .ok (.aload_n 0, 1) := sorry
theorem dX12_many_72 : decode cX12_many 72 = .ok (.getfield 291, 3) := sorry
theorem dX12_many_75 : decode cX12_many 75 = .ok (.goto 5, 3) := sorry
theorem dX12_many_78 : decode cX12_many 78 = .ok (.bipush (-2), 2) := sorry
theorem dX12_many_80 : decode cX12_many 80 = .ok (.ireturn, 1) := sorry
end
section
/-! ===== the abstract machine: a memory of numbered cells, a judgement of a method's body that hides the machine, a contract of a method that hides it too ===== -/
/-- next free cell; a cell's kind and length; what a cell holds at a place -/
abbrev Mem : Type := Nat × (Nat → Nat × Nat) × (Nat → Nat → Value)
/-- launch; class numbers and slots; the first new cell; the heap at the law's start; the script's cell; NO_ACTS' cell; the array classes -/
abbrev CX : Type := Launch × va_G × Nat × Heap × Nat × Nat × (Nat → ClassId)
abbrev xl (x : CX) : Launch := x.1
abbrev xD (x : CX) : va_G := x.2.1
abbrev xz (x : CX) : Nat := x.2.2.1
abbrev xH (x : CX) : Heap := x.2.2.2.1
abbrev xb (x : CX) : Nat := x.2.2.2.2.1
abbrev xn (x : CX) : Nat := x.2.2.2.2.2.1
abbrev xA (x : CX) : Nat → ClassId := x.2.2.2.2.2.2
def ad (x : CX) (a : Nat) : Nat := if a = 0 then xb x else if a = 1 then xn x else xz x + (a - 2)
def cv (x : CX) (v : Value) : Value := match v with
  | .ref a => .ref (ad x a)
  | .int i => .int i
  | .long i => .long i
  | .null => .null
  | w => w
theorem ad_hi (x : CX) {a : Nat} (h : 2 ≤ a) : ad x a = xz x + (a - 2) := sorry
theorem ad_inj (x : CX) {a b : Nat} (ha : 2 ≤ a) (hb : 2 ≤ b) (h : ad x a = ad x b) : a = b := sorry
theorem cv_cat (x : CX) (v : Value) : (cv x v).category = v.category := sorry
/-- the kinds of arrays: 20 int, 21 pictures, 22 lenses, 23 looks, 24 sheets; under 20: objects, by the place of the class in vwCl -/
def akT (k : Nat) : FieldType := match k with
  | 20 => .int
  | 21 => .object "PicturePapers$Picture"
  | 22 => .object "PicturePapers$Lens"
  | 23 => .object "PicturePapers$Look"
  | _ => .object "PicturePapers$Sheet"
def xT (x : CX) : List (ClassId × FieldType) := [(xA x 20, akT 20), (xA x 21, akT 21), (xA x 22, akT 22), (xA x 23, akT 23), (xA x 24, akT 24)]
def rcell (x : CX) (a : Nat) (kn : Nat × Nat) (f : Nat → Value) (H : Heap) : Prop :=
  (kn.1 < 20 → ∃ r : vw_C, vwCl[kn.1]? = some r ∧ r.2.2 = kn.2 ∧ t_OB (ad x a) ((xD x).1 kn.1) kn.2 ((xD x).2 kn.1) H (fun k => cv x (f k))) ∧
  (20 ≤ kn.1 → kn.1 < 25 ∧ H[ad x a]? = some (arrV (xA x kn.1) kn.2 (fun k => cv x (f k))))
def Rep (x : CX) (M : Mem) (H : Heap) : Prop :=
  2 ≤ M.1 ∧ H.size = xz x + (M.1 - 2) ∧ (∀ q : Nat, q < xz x → H[q]? = (xH x)[q]?) ∧ (xb x < xz x ∧ xn x < xz x) ∧
  (∀ a, a < 2 → (M.2.1 a).1 = 20 ∧ ∃ cell : Cell, (xH x)[ad x a]? = some cell ∧ cell.vm ≠ .unknown ∧ cell.slots.size = (M.2.1 a).2 ∧ ∀ j : Nat, j < (M.2.1 a).2 → cell.slots[j]? = some (cv x (M.2.2 a j))) ∧
  ∀ a, 2 ≤ a → (M.2.1 a).1 ≠ 99 → rcell x a (M.2.1 a) (M.2.2 a) H
def gtbl : List Cond := lw_tbl.filter goodWord
theorem gtbl_of {w : Cond} (h : w ∈ lw_tbl) (hg : goodWord w = true) : w ∈ gtbl := sorry
theorem gtbl_in {w : Cond} (h : w ∈ gtbl) : w ∈ lw_tbl := sorry
theorem gtbl_good : GoodIn gtbl gtbl := sorry
def wsY (Y : YY) : List Cond := Cond.code Y.1 Y.2.1 Y.2.2.1 Y.2.2.2 :: gtbl
def nestM : List (String × Nat × MethodName) := [("PicturePapers", 37, yX9_init), ("PicturePapers", 44, yX4_init), ("PicturePapers", 51, yX10_init), ("PicturePapers", 58, yX8_init), ("PicturePapers", 63, yX5_init), ("PicturePapers$Sheet", 40, yX11_isIn), ("PicturePapers$Picture", 47, yX11_isPlace)]
def nestF : List (String × Nat) := [("PicturePapers$Silent", 3), ("PicturePapers$Taken", 22)]
def overs : List String := ["PicturePapers$Picture", "PicturePapers$Lens", "PicturePapers$Look", "PicturePapers$Sheet"]
/-- what is known of the tables at a state -/
def KN (x : CX) (U : State) : Prop :=
  va_K (xD x) vwCl (xT x) U ∧ (∀ a, a < 2 → ∀ cell : Cell, (xH x)[ad x a]? = some cell → U.isArrayOf cell .int) ∧
  (∀ q ∈ nestM, va_Nw (.methodLinkNest q.1 q.2.1 q.2.2 "PicturePapers") U) ∧ (∀ q ∈ nestF, va_Nw (.fieldLinkNest q.1 q.2 "PicturePapers" "NO_ACTS" "[I" "PicturePapers") U) ∧
  (∀ C ∈ overs, va_AO C U) ∧ va_Nw (.declares ⟨"PicturePapers$Taken", "takenTelling", "(LPicturePapers$Trace;)I"⟩) U ∧ va_Nw (.castable "[I" "java/lang/Cloneable") U ∧
  va_Z "PicturePapers" "NO_ACTS" "[I" (.ref (xn x)) (fun q => xz x ≤ q) U (xH x)
/-- what holds of a method's body wherever it is -/
def CT (x : CX) (Y : YY) (p : Program) (s : State) (m : MethodId) (args : Array Value) (meth : Method) (c : Code) : Prop :=
  p.tables.exec = Jvm.exec ∧ c.code = Y.2.1 ∧ c.maxLocals = Y.2.2.1 ∧ meth.sig.returnType = Y.2.2.2 ∧ s.vm.findClass Y.1.cls = some m.cls ∧ (∀ w ∈ gtbl, w.before args s = true) ∧ meth.locks = false ∧ meth.name = Y.1.name ∧ KN x s ∧ xz x ≤ s.heap.size
def LV0 (x : CX) (la : Array Slot) (ls : List (Option Value)) (n : Nat) : Prop := ls.length = n ∧ la.size = n ∧ lv_wf la ∧ ∀ (i : Nat) (v : Value), ls[i]? = some (some v) → la[i]? = some (.val (cv x v))
def QC (x : CX) (Q : Option Value → Mem → Prop) : Array Value → State → Outcome → State → Prop := fun _ _ o t => ∃ (r : Option Value) (M : Mem), o = .returned (r.map (cv x)) ∧ Q r M ∧ Rep x M t.heap
/-- the judgement: from here, with these locals and this stack, over this memory, the method ends with Q -/
def AW (Y : YY) (R : Room) (Q : Option Value → Mem → Prop) (pc : Nat) (ls : List (Option Value)) (st : List Value) (M : Mem) (cs ss : Nat) : Prop :=
  ∀ (x : CX) (p : Program) (e : Env) (s : State) (m : MethodId) (args : Array Value) (below : List Frame) (meth : Method) (c : Code) (H : Heap) (locs : List Loc) (la : Array Slot),
    CT x Y p s m args meth c → Rep x M H → LV0 x la ls Y.2.2.1 → (∀ q ∈ locs, xz x ≤ q.base) →
    W p (xl x) e R s m args below meth c H locs cs ss (MQ below (QC x Q) args s R.cells R.slots (fun q => xz x ≤ q)) (F0 m pc la (st.map (cv x)))
/-- the contract -/
def AM (Y : YY) (rm : Room) (as : List Value) (M : Mem) (Q : Option Value → Mem → Prop) : Prop :=
  ∀ x : CX, Met (xl x) Y.1 (wsY Y) rm (fun v U => v = (as.map (cv x)).toArray ∧ KN x U ∧ xz x ≤ U.heap.size ∧ Rep x M U.heap) (QC x Q) rm.cells rm.slots (fun q => xz x ≤ q)
/-- locals at a method's entry -/
def lsA (as : List Value) : List (Option Value) := as.flatMap (fun v => if v.category = 2 then [some v, none] else [some v])
def lsE (n : Nat) (as : List Value) : List (Option Value) := lsA as ++ List.replicate (n - (lsA as).length) none
theorem KN.moved {x : CX} {s U : State} (hW : s.WarmedH U.vm) (h : KN x s) : KN x U := sorry
theorem KN.same {x : CX} {s U : State} (hv : s.vm = U.vm) (h : KN x s) : KN x U := sorry
theorem LV0.get {x : CX} {la : Array Slot} {ls : List (Option Value)} {n i : Nat} {v : Value} (h : LV0 x la ls n) (hi : ls[i]? = some (some v)) : la[i]? = some (.val (cv x v)) := sorry
def prs (x : CX) (ls : List (Option Value)) : List (Nat × Value) := (List.range ls.length).filterMap (fun i => match ls[i]? with
  | some (some v) => some (i, cv x v)
  | _ => none)
theorem prs_mem {x : CX} {ls : List (Option Value)} {i : Nat} {v : Value} (h : ls[i]? = some (some v)) : (i, cv x v) ∈ prs x ls := sorry
theorem LV0.has {x : CX} {la : Array Slot} {ls : List (Option Value)} {n : Nat} (h : LV0 x la ls n) : lv_has la n (prs x ls) := sorry
theorem LV0.of {x : CX} {la : Array Slot} {ls : List (Option Value)} {n : Nat} {l : List (Nat × Value)} (h : lv_has la n l) (hl : ls.length = n) (hall : ∀ (i : Nat) (v : Value), ls[i]? = some (some v) → (i, cv x v) ∈ l) : LV0 x la ls n := sorry
/-- the place behind which one is stored holds no first half of a long -/
def prevOK (ls : List (Option Value)) (i : Nat) : Prop := ∀ (j : Nat) (w : Value), j + 1 = i → ls[j]? = some (some w) → w.category = 1
theorem LV0.set1 {x : CX} {la' : Array Slot} {ls : List (Option Value)} {n i : Nat} {v : Value} (hn : ls.length = n) (hi : i < n) (hp : prevOK ls i)
    (h : lv_has la' n ((i, cv x v) :: (prs x ls).filter (fun q => !(q.1 == i) && !(q.1 + 1 == i && q.2.category == 2)))) : LV0 x la' (ls.set i (some v)) n := sorry
theorem LV0.set2 {x : CX} {la' : Array Slot} {ls : List (Option Value)} {n i : Nat} {v : Value} (hn : ls.length = n) (hi : i + 1 < n) (hp : prevOK ls i)
    (h : lv_has la' n ((i, cv x v) :: (prs x ls).filter (fun q => !(q.1 == i) && (!(q.1 == i + 1) && !(q.1 + 1 == i && q.2.category == 2))))) : LV0 x la' ((ls.set i (some v)).set (i + 1) none) n := sorry
theorem lsA_lg (x : CX) (as : List Value) : (lg_sl (as.map (cv x))).length = (lsA as).length := sorry
theorem lsA_args (x : CX) : ∀ (as : List Value) (k i : Nat) (v : Value), (lsA as)[i]? = some (some v) → (k + i, cv x v) ∈ lv_args k (as.map (cv x)) := sorry
theorem lsE_at {as : List Value} {n i : Nat} {v : Value} (h : (lsE n as)[i]? = some (some v)) : (lsA as)[i]? = some (some v) := sorry
/-- a method's body gives its contract -/
theorem am_of {Y : YY} {rm : Room} {as : List Value} {M : Mem} {Q : Option Value → Mem → Prop} {ls : List (Option Value)} (hy : plainName Y.1.cls = true) (hl : Nat.ble (lsA as).length Y.2.2.1 = true) (hls : lsE Y.2.2.1 as = ls) (h : AW Y rm Q 0 ls [] M 0 0) : AM Y rm as M Q := sorry
end
section
/-! rules of the abstract machine for instructions that touch no cell (by program: gen/rules.py) -/
section
variable {Y : YY} {R : Room} {Q : Option Value → Mem → Prop} {ls : List (Option Value)} {st : List Value} {M : Mem} {cs ss : Nat}
theorem aw_icm1 (pc : Nat)  (hd : decode Y.2.1 pc = .ok (.iconst (-1), 1)) (kk : AW Y R Q (pc + 1) ls (.int (-1) :: st) M cs ss) : AW Y R Q pc ls (st) M cs ss := sorry
theorem aw_ic0 (pc : Nat)  (hd : decode Y.2.1 pc = .ok (.iconst 0, 1)) (kk : AW Y R Q (pc + 1) ls (.int 0 :: st) M cs ss) : AW Y R Q pc ls (st) M cs ss := sorry
theorem aw_ic1 (pc : Nat)  (hd : decode Y.2.1 pc = .ok (.iconst 1, 1)) (kk : AW Y R Q (pc + 1) ls (.int 1 :: st) M cs ss) : AW Y R Q pc ls (st) M cs ss := sorry
theorem aw_ic2 (pc : Nat)  (hd : decode Y.2.1 pc = .ok (.iconst 2, 1)) (kk : AW Y R Q (pc + 1) ls (.int 2 :: st) M cs ss) : AW Y R Q pc ls (st) M cs ss := sorry
theorem aw_ic3 (pc : Nat)  (hd : decode Y.2.1 pc = .ok (.iconst 3, 1)) (kk : AW Y R Q (pc + 1) ls (.int 3 :: st) M cs ss) : AW Y R Q pc ls (st) M cs ss := sorry
theorem aw_ic4 (pc : Nat)  (hd : decode Y.2.1 pc = .ok (.iconst 4, 1)) (kk : AW Y R Q (pc + 1) ls (.int 4 :: st) M cs ss) : AW Y R Q pc ls (st) M cs ss := sorry
theorem aw_ic5 (pc : Nat)  (hd : decode Y.2.1 pc = .ok (.iconst 5, 1)) (kk : AW Y R Q (pc + 1) ls (.int 5 :: st) M cs ss) : AW Y R Q pc ls (st) M cs ss := sorry
theorem aw_bipush (pc : Nat) {n : Int} (v : Int32) (hd : decode Y.2.1 pc = .ok (.bipush n, 2)) (hv : (Int8.ofInt n).toInt32 = v) (kk : AW Y R Q (pc + 2) ls (.int v :: st) M cs ss) : AW Y R Q pc ls (st) M cs ss := sorry
theorem aw_sipush (pc : Nat) {n : Int} (v : Int32) (hd : decode Y.2.1 pc = .ok (.sipush n, 3)) (hv : (Int16.ofInt n).toInt32 = v) (kk : AW Y R Q (pc + 3) ls (.int v :: st) M cs ss) : AW Y R Q pc ls (st) M cs ss := sorry
theorem aw_lc0 (pc : Nat)  (hd : decode Y.2.1 pc = .ok (.lconst 0, 1)) (kk : AW Y R Q (pc + 1) ls (.long 0 :: st) M cs ss) : AW Y R Q pc ls (st) M cs ss := sorry
theorem aw_lc1 (pc : Nat)  (hd : decode Y.2.1 pc = .ok (.lconst 1, 1)) (kk : AW Y R Q (pc + 1) ls (.long 1 :: st) M cs ss) : AW Y R Q pc ls (st) M cs ss := sorry
theorem aw_null (pc : Nat)  (hd : decode Y.2.1 pc = .ok (.aconst_null, 1)) (kk : AW Y R Q (pc + 1) ls (.null :: st) M cs ss) : AW Y R Q pc ls (st) M cs ss := sorry
theorem aw_iload0 (pc : Nat) {t : List (Option Value)} {v : Int32} (hd : decode Y.2.1 pc = .ok (.iload_n 0, 1)) (kk : AW Y R Q (pc + 1) (some (.int v) :: t) (.int v :: st) M cs ss) : AW Y R Q pc (some (.int v) :: t) (st) M cs ss := sorry
theorem aw_lload0 (pc : Nat) {t : List (Option Value)} {v : Int64} (hd : decode Y.2.1 pc = .ok (.lload_n 0, 1)) (kk : AW Y R Q (pc + 1) (some (.long v) :: t) (.long v :: st) M cs ss) : AW Y R Q pc (some (.long v) :: t) (st) M cs ss := sorry
theorem aw_aload0 (pc : Nat) {t : List (Option Value)} {v : Nat} (hd : decode Y.2.1 pc = .ok (.aload_n 0, 1)) (kk : AW Y R Q (pc + 1) (some (.ref v) :: t) (.ref v :: st) M cs ss) : AW Y R Q pc (some (.ref v) :: t) (st) M cs ss := sorry
theorem aw_aloadN0 (pc : Nat) {t : List (Option Value)} (hd : decode Y.2.1 pc = .ok (.aload_n 0, 1)) (kk : AW Y R Q (pc + 1) (some .null :: t) (.null :: st) M cs ss) : AW Y R Q pc (some .null :: t) (st) M cs ss := sorry
theorem aw_iload1 (pc : Nat) {a0 : Option Value} {t : List (Option Value)} {v : Int32} (hd : decode Y.2.1 pc = .ok (.iload_n 1, 1)) (kk : AW Y R Q (pc + 1) (a0 :: some (.int v) :: t) (.int v :: st) M cs ss) : AW Y R Q pc (a0 :: some (.int v) :: t) (st) M cs ss := sorry
theorem aw_lload1 (pc : Nat) {a0 : Option Value} {t : List (Option Value)} {v : Int64} (hd : decode Y.2.1 pc = .ok (.lload_n 1, 1)) (kk : AW Y R Q (pc + 1) (a0 :: some (.long v) :: t) (.long v :: st) M cs ss) : AW Y R Q pc (a0 :: some (.long v) :: t) (st) M cs ss := sorry
theorem aw_aload1 (pc : Nat) {a0 : Option Value} {t : List (Option Value)} {v : Nat} (hd : decode Y.2.1 pc = .ok (.aload_n 1, 1)) (kk : AW Y R Q (pc + 1) (a0 :: some (.ref v) :: t) (.ref v :: st) M cs ss) : AW Y R Q pc (a0 :: some (.ref v) :: t) (st) M cs ss := sorry
theorem aw_aloadN1 (pc : Nat) {a0 : Option Value} {t : List (Option Value)} (hd : decode Y.2.1 pc = .ok (.aload_n 1, 1)) (kk : AW Y R Q (pc + 1) (a0 :: some .null :: t) (.null :: st) M cs ss) : AW Y R Q pc (a0 :: some .null :: t) (st) M cs ss := sorry
theorem aw_iload2 (pc : Nat) {a0 a1 : Option Value} {t : List (Option Value)} {v : Int32} (hd : decode Y.2.1 pc = .ok (.iload_n 2, 1)) (kk : AW Y R Q (pc + 1) (a0 :: a1 :: some (.int v) :: t) (.int v :: st) M cs ss) : AW Y R Q pc (a0 :: a1 :: some (.int v) :: t) (st) M cs ss := sorry
theorem aw_lload2 (pc : Nat) {a0 a1 : Option Value} {t : List (Option Value)} {v : Int64} (hd : decode Y.2.1 pc = .ok (.lload_n 2, 1)) (kk : AW Y R Q (pc + 1) (a0 :: a1 :: some (.long v) :: t) (.long v :: st) M cs ss) : AW Y R Q pc (a0 :: a1 :: some (.long v) :: t) (st) M cs ss := sorry
theorem aw_aload2 (pc : Nat) {a0 a1 : Option Value} {t : List (Option Value)} {v : Nat} (hd : decode Y.2.1 pc = .ok (.aload_n 2, 1)) (kk : AW Y R Q (pc + 1) (a0 :: a1 :: some (.ref v) :: t) (.ref v :: st) M cs ss) : AW Y R Q pc (a0 :: a1 :: some (.ref v) :: t) (st) M cs ss := sorry
theorem aw_aloadN2 (pc : Nat) {a0 a1 : Option Value} {t : List (Option Value)} (hd : decode Y.2.1 pc = .ok (.aload_n 2, 1)) (kk : AW Y R Q (pc + 1) (a0 :: a1 :: some .null :: t) (.null :: st) M cs ss) : AW Y R Q pc (a0 :: a1 :: some .null :: t) (st) M cs ss := sorry
theorem aw_iload3 (pc : Nat) {a0 a1 a2 : Option Value} {t : List (Option Value)} {v : Int32} (hd : decode Y.2.1 pc = .ok (.iload_n 3, 1)) (kk : AW Y R Q (pc + 1) (a0 :: a1 :: a2 :: some (.int v) :: t) (.int v :: st) M cs ss) : AW Y R Q pc (a0 :: a1 :: a2 :: some (.int v) :: t) (st) M cs ss := sorry
theorem aw_lload3 (pc : Nat) {a0 a1 a2 : Option Value} {t : List (Option Value)} {v : Int64} (hd : decode Y.2.1 pc = .ok (.lload_n 3, 1)) (kk : AW Y R Q (pc + 1) (a0 :: a1 :: a2 :: some (.long v) :: t) (.long v :: st) M cs ss) : AW Y R Q pc (a0 :: a1 :: a2 :: some (.long v) :: t) (st) M cs ss := sorry
theorem aw_aload3 (pc : Nat) {a0 a1 a2 : Option Value} {t : List (Option Value)} {v : Nat} (hd : decode Y.2.1 pc = .ok (.aload_n 3, 1)) (kk : AW Y R Q (pc + 1) (a0 :: a1 :: a2 :: some (.ref v) :: t) (.ref v :: st) M cs ss) : AW Y R Q pc (a0 :: a1 :: a2 :: some (.ref v) :: t) (st) M cs ss := sorry
theorem aw_aloadN3 (pc : Nat) {a0 a1 a2 : Option Value} {t : List (Option Value)} (hd : decode Y.2.1 pc = .ok (.aload_n 3, 1)) (kk : AW Y R Q (pc + 1) (a0 :: a1 :: a2 :: some .null :: t) (.null :: st) M cs ss) : AW Y R Q pc (a0 :: a1 :: a2 :: some .null :: t) (st) M cs ss := sorry
theorem aw_iload4 (pc : Nat) {a0 a1 a2 a3 : Option Value} {t : List (Option Value)} {v : Int32} (hd : decode Y.2.1 pc = .ok (.iload 4, 2)) (kk : AW Y R Q (pc + 2) (a0 :: a1 :: a2 :: a3 :: some (.int v) :: t) (.int v :: st) M cs ss) : AW Y R Q pc (a0 :: a1 :: a2 :: a3 :: some (.int v) :: t) (st) M cs ss := sorry
theorem aw_lload4 (pc : Nat) {a0 a1 a2 a3 : Option Value} {t : List (Option Value)} {v : Int64} (hd : decode Y.2.1 pc = .ok (.lload 4, 2)) (kk : AW Y R Q (pc + 2) (a0 :: a1 :: a2 :: a3 :: some (.long v) :: t) (.long v :: st) M cs ss) : AW Y R Q pc (a0 :: a1 :: a2 :: a3 :: some (.long v) :: t) (st) M cs ss := sorry
theorem aw_aload4 (pc : Nat) {a0 a1 a2 a3 : Option Value} {t : List (Option Value)} {v : Nat} (hd : decode Y.2.1 pc = .ok (.aload 4, 2)) (kk : AW Y R Q (pc + 2) (a0 :: a1 :: a2 :: a3 :: some (.ref v) :: t) (.ref v :: st) M cs ss) : AW Y R Q pc (a0 :: a1 :: a2 :: a3 :: some (.ref v) :: t) (st) M cs ss := sorry
theorem aw_aloadN4 (pc : Nat) {a0 a1 a2 a3 : Option Value} {t : List (Option Value)} (hd : decode Y.2.1 pc = .ok (.aload 4, 2)) (kk : AW Y R Q (pc + 2) (a0 :: a1 :: a2 :: a3 :: some .null :: t) (.null :: st) M cs ss) : AW Y R Q pc (a0 :: a1 :: a2 :: a3 :: some .null :: t) (st) M cs ss := sorry
theorem aw_iload5 (pc : Nat) {a0 a1 a2 a3 a4 : Option Value} {t : List (Option Value)} {v : Int32} (hd : decode Y.2.1 pc = .ok (.iload 5, 2)) (kk : AW Y R Q (pc + 2) (a0 :: a1 :: a2 :: a3 :: a4 :: some (.int v) :: t) (.int v :: st) M cs ss) : AW Y R Q pc (a0 :: a1 :: a2 :: a3 :: a4 :: some (.int v) :: t) (st) M cs ss := sorry
theorem aw_lload5 (pc : Nat) {a0 a1 a2 a3 a4 : Option Value} {t : List (Option Value)} {v : Int64} (hd : decode Y.2.1 pc = .ok (.lload 5, 2)) (kk : AW Y R Q (pc + 2) (a0 :: a1 :: a2 :: a3 :: a4 :: some (.long v) :: t) (.long v :: st) M cs ss) : AW Y R Q pc (a0 :: a1 :: a2 :: a3 :: a4 :: some (.long v) :: t) (st) M cs ss := sorry
theorem aw_aload5 (pc : Nat) {a0 a1 a2 a3 a4 : Option Value} {t : List (Option Value)} {v : Nat} (hd : decode Y.2.1 pc = .ok (.aload 5, 2)) (kk : AW Y R Q (pc + 2) (a0 :: a1 :: a2 :: a3 :: a4 :: some (.ref v) :: t) (.ref v :: st) M cs ss) : AW Y R Q pc (a0 :: a1 :: a2 :: a3 :: a4 :: some (.ref v) :: t) (st) M cs ss := sorry
theorem aw_aloadN5 (pc : Nat) {a0 a1 a2 a3 a4 : Option Value} {t : List (Option Value)} (hd : decode Y.2.1 pc = .ok (.aload 5, 2)) (kk : AW Y R Q (pc + 2) (a0 :: a1 :: a2 :: a3 :: a4 :: some .null :: t) (.null :: st) M cs ss) : AW Y R Q pc (a0 :: a1 :: a2 :: a3 :: a4 :: some .null :: t) (st) M cs ss := sorry
theorem aw_iload6 (pc : Nat) {a0 a1 a2 a3 a4 a5 : Option Value} {t : List (Option Value)} {v : Int32} (hd : decode Y.2.1 pc = .ok (.iload 6, 2)) (kk : AW Y R Q (pc + 2) (a0 :: a1 :: a2 :: a3 :: a4 :: a5 :: some (.int v) :: t) (.int v :: st) M cs ss) : AW Y R Q pc (a0 :: a1 :: a2 :: a3 :: a4 :: a5 :: some (.int v) :: t) (st) M cs ss := sorry
theorem aw_lload6 (pc : Nat) {a0 a1 a2 a3 a4 a5 : Option Value} {t : List (Option Value)} {v : Int64} (hd : decode Y.2.1 pc = .ok (.lload 6, 2)) (kk : AW Y R Q (pc + 2) (a0 :: a1 :: a2 :: a3 :: a4 :: a5 :: some (.long v) :: t) (.long v :: st) M cs ss) : AW Y R Q pc (a0 :: a1 :: a2 :: a3 :: a4 :: a5 :: some (.long v) :: t) (st) M cs ss := sorry
theorem aw_aload6 (pc : Nat) {a0 a1 a2 a3 a4 a5 : Option Value} {t : List (Option Value)} {v : Nat} (hd : decode Y.2.1 pc = .ok (.aload 6, 2)) (kk : AW Y R Q (pc + 2) (a0 :: a1 :: a2 :: a3 :: a4 :: a5 :: some (.ref v) :: t) (.ref v :: st) M cs ss) : AW Y R Q pc (a0 :: a1 :: a2 :: a3 :: a4 :: a5 :: some (.ref v) :: t) (st) M cs ss := sorry
theorem aw_aloadN6 (pc : Nat) {a0 a1 a2 a3 a4 a5 : Option Value} {t : List (Option Value)} (hd : decode Y.2.1 pc = .ok (.aload 6, 2)) (kk : AW Y R Q (pc + 2) (a0 :: a1 :: a2 :: a3 :: a4 :: a5 :: some .null :: t) (.null :: st) M cs ss) : AW Y R Q pc (a0 :: a1 :: a2 :: a3 :: a4 :: a5 :: some .null :: t) (st) M cs ss := sorry
theorem aw_iload7 (pc : Nat) {a0 a1 a2 a3 a4 a5 a6 : Option Value} {t : List (Option Value)} {v : Int32} (hd : decode Y.2.1 pc = .ok (.iload 7, 2)) (kk : AW Y R Q (pc + 2) (a0 :: a1 :: a2 :: a3 :: a4 :: a5 :: a6 :: some (.int v) :: t) (.int v :: st) M cs ss) : AW Y R Q pc (a0 :: a1 :: a2 :: a3 :: a4 :: a5 :: a6 :: some (.int v) :: t) (st) M cs ss := sorry
theorem aw_lload7 (pc : Nat) {a0 a1 a2 a3 a4 a5 a6 : Option Value} {t : List (Option Value)} {v : Int64} (hd : decode Y.2.1 pc = .ok (.lload 7, 2)) (kk : AW Y R Q (pc + 2) (a0 :: a1 :: a2 :: a3 :: a4 :: a5 :: a6 :: some (.long v) :: t) (.long v :: st) M cs ss) : AW Y R Q pc (a0 :: a1 :: a2 :: a3 :: a4 :: a5 :: a6 :: some (.long v) :: t) (st) M cs ss := sorry
theorem aw_aload7 (pc : Nat) {a0 a1 a2 a3 a4 a5 a6 : Option Value} {t : List (Option Value)} {v : Nat} (hd : decode Y.2.1 pc = .ok (.aload 7, 2)) (kk : AW Y R Q (pc + 2) (a0 :: a1 :: a2 :: a3 :: a4 :: a5 :: a6 :: some (.ref v) :: t) (.ref v :: st) M cs ss) : AW Y R Q pc (a0 :: a1 :: a2 :: a3 :: a4 :: a5 :: a6 :: some (.ref v) :: t) (st) M cs ss := sorry
theorem aw_aloadN7 (pc : Nat) {a0 a1 a2 a3 a4 a5 a6 : Option Value} {t : List (Option Value)} (hd : decode Y.2.1 pc = .ok (.aload 7, 2)) (kk : AW Y R Q (pc + 2) (a0 :: a1 :: a2 :: a3 :: a4 :: a5 :: a6 :: some .null :: t) (.null :: st) M cs ss) : AW Y R Q pc (a0 :: a1 :: a2 :: a3 :: a4 :: a5 :: a6 :: some .null :: t) (st) M cs ss := sorry
theorem aw_iload8 (pc : Nat) {a0 a1 a2 a3 a4 a5 a6 a7 : Option Value} {t : List (Option Value)} {v : Int32} (hd : decode Y.2.1 pc = .ok (.iload 8, 2)) (kk : AW Y R Q (pc + 2) (a0 :: a1 :: a2 :: a3 :: a4 :: a5 :: a6 :: a7 :: some (.int v) :: t) (.int v :: st) M cs ss) : AW Y R Q pc (a0 :: a1 :: a2 :: a3 :: a4 :: a5 :: a6 :: a7 :: some (.int v) :: t) (st) M cs ss := sorry
theorem aw_lload8 (pc : Nat) {a0 a1 a2 a3 a4 a5 a6 a7 : Option Value} {t : List (Option Value)} {v : Int64} (hd : decode Y.2.1 pc = .ok (.lload 8, 2)) (kk : AW Y R Q (pc + 2) (a0 :: a1 :: a2 :: a3 :: a4 :: a5 :: a6 :: a7 :: some (.long v) :: t) (.long v :: st) M cs ss) : AW Y R Q pc (a0 :: a1 :: a2 :: a3 :: a4 :: a5 :: a6 :: a7 :: some (.long v) :: t) (st) M cs ss := sorry
theorem aw_aload8 (pc : Nat) {a0 a1 a2 a3 a4 a5 a6 a7 : Option Value} {t : List (Option Value)} {v : Nat} (hd : decode Y.2.1 pc = .ok (.aload 8, 2)) (kk : AW Y R Q (pc + 2) (a0 :: a1 :: a2 :: a3 :: a4 :: a5 :: a6 :: a7 :: some (.ref v) :: t) (.ref v :: st) M cs ss) : AW Y R Q pc (a0 :: a1 :: a2 :: a3 :: a4 :: a5 :: a6 :: a7 :: some (.ref v) :: t) (st) M cs ss := sorry
theorem aw_aloadN8 (pc : Nat) {a0 a1 a2 a3 a4 a5 a6 a7 : Option Value} {t : List (Option Value)} (hd : decode Y.2.1 pc = .ok (.aload 8, 2)) (kk : AW Y R Q (pc + 2) (a0 :: a1 :: a2 :: a3 :: a4 :: a5 :: a6 :: a7 :: some .null :: t) (.null :: st) M cs ss) : AW Y R Q pc (a0 :: a1 :: a2 :: a3 :: a4 :: a5 :: a6 :: a7 :: some .null :: t) (st) M cs ss := sorry
theorem aw_iload9 (pc : Nat) {a0 a1 a2 a3 a4 a5 a6 a7 a8 : Option Value} {t : List (Option Value)} {v : Int32} (hd : decode Y.2.1 pc = .ok (.iload 9, 2)) (kk : AW Y R Q (pc + 2) (a0 :: a1 :: a2 :: a3 :: a4 :: a5 :: a6 :: a7 :: a8 :: some (.int v) :: t) (.int v :: st) M cs ss) : AW Y R Q pc (a0 :: a1 :: a2 :: a3 :: a4 :: a5 :: a6 :: a7 :: a8 :: some (.int v) :: t) (st) M cs ss := sorry
theorem aw_lload9 (pc : Nat) {a0 a1 a2 a3 a4 a5 a6 a7 a8 : Option Value} {t : List (Option Value)} {v : Int64} (hd : decode Y.2.1 pc = .ok (.lload 9, 2)) (kk : AW Y R Q (pc + 2) (a0 :: a1 :: a2 :: a3 :: a4 :: a5 :: a6 :: a7 :: a8 :: some (.long v) :: t) (.long v :: st) M cs ss) : AW Y R Q pc (a0 :: a1 :: a2 :: a3 :: a4 :: a5 :: a6 :: a7 :: a8 :: some (.long v) :: t) (st) M cs ss := sorry
theorem aw_aload9 (pc : Nat) {a0 a1 a2 a3 a4 a5 a6 a7 a8 : Option Value} {t : List (Option Value)} {v : Nat} (hd : decode Y.2.1 pc = .ok (.aload 9, 2)) (kk : AW Y R Q (pc + 2) (a0 :: a1 :: a2 :: a3 :: a4 :: a5 :: a6 :: a7 :: a8 :: some (.ref v) :: t) (.ref v :: st) M cs ss) : AW Y R Q pc (a0 :: a1 :: a2 :: a3 :: a4 :: a5 :: a6 :: a7 :: a8 :: some (.ref v) :: t) (st) M cs ss := sorry
theorem aw_aloadN9 (pc : Nat) {a0 a1 a2 a3 a4 a5 a6 a7 a8 : Option Value} {t : List (Option Value)} (hd : decode Y.2.1 pc = .ok (.aload 9, 2)) (kk : AW Y R Q (pc + 2) (a0 :: a1 :: a2 :: a3 :: a4 :: a5 :: a6 :: a7 :: a8 :: some .null :: t) (.null :: st) M cs ss) : AW Y R Q pc (a0 :: a1 :: a2 :: a3 :: a4 :: a5 :: a6 :: a7 :: a8 :: some .null :: t) (st) M cs ss := sorry
theorem aw_iload10 (pc : Nat) {a0 a1 a2 a3 a4 a5 a6 a7 a8 a9 : Option Value} {t : List (Option Value)} {v : Int32} (hd : decode Y.2.1 pc = .ok (.iload 10, 2)) (kk : AW Y R Q (pc + 2) (a0 :: a1 :: a2 :: a3 :: a4 :: a5 :: a6 :: a7 :: a8 :: a9 :: some (.int v) :: t) (.int v :: st) M cs ss) : AW Y R Q pc (a0 :: a1 :: a2 :: a3 :: a4 :: a5 :: a6 :: a7 :: a8 :: a9 :: some (.int v) :: t) (st) M cs ss := sorry
theorem aw_lload10 (pc : Nat) {a0 a1 a2 a3 a4 a5 a6 a7 a8 a9 : Option Value} {t : List (Option Value)} {v : Int64} (hd : decode Y.2.1 pc = .ok (.lload 10, 2)) (kk : AW Y R Q (pc + 2) (a0 :: a1 :: a2 :: a3 :: a4 :: a5 :: a6 :: a7 :: a8 :: a9 :: some (.long v) :: t) (.long v :: st) M cs ss) : AW Y R Q pc (a0 :: a1 :: a2 :: a3 :: a4 :: a5 :: a6 :: a7 :: a8 :: a9 :: some (.long v) :: t) (st) M cs ss := sorry
theorem aw_aload10 (pc : Nat) {a0 a1 a2 a3 a4 a5 a6 a7 a8 a9 : Option Value} {t : List (Option Value)} {v : Nat} (hd : decode Y.2.1 pc = .ok (.aload 10, 2)) (kk : AW Y R Q (pc + 2) (a0 :: a1 :: a2 :: a3 :: a4 :: a5 :: a6 :: a7 :: a8 :: a9 :: some (.ref v) :: t) (.ref v :: st) M cs ss) : AW Y R Q pc (a0 :: a1 :: a2 :: a3 :: a4 :: a5 :: a6 :: a7 :: a8 :: a9 :: some (.ref v) :: t) (st) M cs ss := sorry
theorem aw_aloadN10 (pc : Nat) {a0 a1 a2 a3 a4 a5 a6 a7 a8 a9 : Option Value} {t : List (Option Value)} (hd : decode Y.2.1 pc = .ok (.aload 10, 2)) (kk : AW Y R Q (pc + 2) (a0 :: a1 :: a2 :: a3 :: a4 :: a5 :: a6 :: a7 :: a8 :: a9 :: some .null :: t) (.null :: st) M cs ss) : AW Y R Q pc (a0 :: a1 :: a2 :: a3 :: a4 :: a5 :: a6 :: a7 :: a8 :: a9 :: some .null :: t) (st) M cs ss := sorry
theorem aw_iload11 (pc : Nat) {a0 a1 a2 a3 a4 a5 a6 a7 a8 a9 a10 : Option Value} {t : List (Option Value)} {v : Int32} (hd : decode Y.2.1 pc = .ok (.iload 11, 2)) (kk : AW Y R Q (pc + 2) (a0 :: a1 :: a2 :: a3 :: a4 :: a5 :: a6 :: a7 :: a8 :: a9 :: a10 :: some (.int v) :: t) (.int v :: st) M cs ss) : AW Y R Q pc (a0 :: a1 :: a2 :: a3 :: a4 :: a5 :: a6 :: a7 :: a8 :: a9 :: a10 :: some (.int v) :: t) (st) M cs ss := sorry
theorem aw_lload11 (pc : Nat) {a0 a1 a2 a3 a4 a5 a6 a7 a8 a9 a10 : Option Value} {t : List (Option Value)} {v : Int64} (hd : decode Y.2.1 pc = .ok (.lload 11, 2)) (kk : AW Y R Q (pc + 2) (a0 :: a1 :: a2 :: a3 :: a4 :: a5 :: a6 :: a7 :: a8 :: a9 :: a10 :: some (.long v) :: t) (.long v :: st) M cs ss) : AW Y R Q pc (a0 :: a1 :: a2 :: a3 :: a4 :: a5 :: a6 :: a7 :: a8 :: a9 :: a10 :: some (.long v) :: t) (st) M cs ss := sorry
theorem aw_aload11 (pc : Nat) {a0 a1 a2 a3 a4 a5 a6 a7 a8 a9 a10 : Option Value} {t : List (Option Value)} {v : Nat} (hd : decode Y.2.1 pc = .ok (.aload 11, 2)) (kk : AW Y R Q (pc + 2) (a0 :: a1 :: a2 :: a3 :: a4 :: a5 :: a6 :: a7 :: a8 :: a9 :: a10 :: some (.ref v) :: t) (.ref v :: st) M cs ss) : AW Y R Q pc (a0 :: a1 :: a2 :: a3 :: a4 :: a5 :: a6 :: a7 :: a8 :: a9 :: a10 :: some (.ref v) :: t) (st) M cs ss := sorry
theorem aw_aloadN11 (pc : Nat) {a0 a1 a2 a3 a4 a5 a6 a7 a8 a9 a10 : Option Value} {t : List (Option Value)} (hd : decode Y.2.1 pc = .ok (.aload 11, 2)) (kk : AW Y R Q (pc + 2) (a0 :: a1 :: a2 :: a3 :: a4 :: a5 :: a6 :: a7 :: a8 :: a9 :: a10 :: some .null :: t) (.null :: st) M cs ss) : AW Y R Q pc (a0 :: a1 :: a2 :: a3 :: a4 :: a5 :: a6 :: a7 :: a8 :: a9 :: a10 :: some .null :: t) (st) M cs ss := sorry
theorem aw_iload12 (pc : Nat) {a0 a1 a2 a3 a4 a5 a6 a7 a8 a9 a10 a11 : Option Value} {t : List (Option Value)} {v : Int32} (hd : decode Y.2.1 pc = .ok (.iload 12, 2)) (kk : AW Y R Q (pc + 2) (a0 :: a1 :: a2 :: a3 :: a4 :: a5 :: a6 :: a7 :: a8 :: a9 :: a10 :: a11 :: some (.int v) :: t) (.int v :: st) M cs ss) : AW Y R Q pc (a0 :: a1 :: a2 :: a3 :: a4 :: a5 :: a6 :: a7 :: a8 :: a9 :: a10 :: a11 :: some (.int v) :: t) (st) M cs ss := sorry
theorem aw_lload12 (pc : Nat) {a0 a1 a2 a3 a4 a5 a6 a7 a8 a9 a10 a11 : Option Value} {t : List (Option Value)} {v : Int64} (hd : decode Y.2.1 pc = .ok (.lload 12, 2)) (kk : AW Y R Q (pc + 2) (a0 :: a1 :: a2 :: a3 :: a4 :: a5 :: a6 :: a7 :: a8 :: a9 :: a10 :: a11 :: some (.long v) :: t) (.long v :: st) M cs ss) : AW Y R Q pc (a0 :: a1 :: a2 :: a3 :: a4 :: a5 :: a6 :: a7 :: a8 :: a9 :: a10 :: a11 :: some (.long v) :: t) (st) M cs ss := sorry
theorem aw_aload12 (pc : Nat) {a0 a1 a2 a3 a4 a5 a6 a7 a8 a9 a10 a11 : Option Value} {t : List (Option Value)} {v : Nat} (hd : decode Y.2.1 pc = .ok (.aload 12, 2)) (kk : AW Y R Q (pc + 2) (a0 :: a1 :: a2 :: a3 :: a4 :: a5 :: a6 :: a7 :: a8 :: a9 :: a10 :: a11 :: some (.ref v) :: t) (.ref v :: st) M cs ss) : AW Y R Q pc (a0 :: a1 :: a2 :: a3 :: a4 :: a5 :: a6 :: a7 :: a8 :: a9 :: a10 :: a11 :: some (.ref v) :: t) (st) M cs ss := sorry
theorem aw_aloadN12 (pc : Nat) {a0 a1 a2 a3 a4 a5 a6 a7 a8 a9 a10 a11 : Option Value} {t : List (Option Value)} (hd : decode Y.2.1 pc = .ok (.aload 12, 2)) (kk : AW Y R Q (pc + 2) (a0 :: a1 :: a2 :: a3 :: a4 :: a5 :: a6 :: a7 :: a8 :: a9 :: a10 :: a11 :: some .null :: t) (.null :: st) M cs ss) : AW Y R Q pc (a0 :: a1 :: a2 :: a3 :: a4 :: a5 :: a6 :: a7 :: a8 :: a9 :: a10 :: a11 :: some .null :: t) (st) M cs ss := sorry
theorem aw_iload13 (pc : Nat) {a0 a1 a2 a3 a4 a5 a6 a7 a8 a9 a10 a11 a12 : Option Value} {t : List (Option Value)} {v : Int32} (hd : decode Y.2.1 pc = .ok (.iload 13, 2)) (kk : AW Y R Q (pc + 2) (a0 :: a1 :: a2 :: a3 :: a4 :: a5 :: a6 :: a7 :: a8 :: a9 :: a10 :: a11 :: a12 :: some (.int v) :: t) (.int v :: st) M cs ss) : AW Y R Q pc (a0 :: a1 :: a2 :: a3 :: a4 :: a5 :: a6 :: a7 :: a8 :: a9 :: a10 :: a11 :: a12 :: some (.int v) :: t) (st) M cs ss := sorry
theorem aw_lload13 (pc : Nat) {a0 a1 a2 a3 a4 a5 a6 a7 a8 a9 a10 a11 a12 : Option Value} {t : List (Option Value)} {v : Int64} (hd : decode Y.2.1 pc = .ok (.lload 13, 2)) (kk : AW Y R Q (pc + 2) (a0 :: a1 :: a2 :: a3 :: a4 :: a5 :: a6 :: a7 :: a8 :: a9 :: a10 :: a11 :: a12 :: some (.long v) :: t) (.long v :: st) M cs ss) : AW Y R Q pc (a0 :: a1 :: a2 :: a3 :: a4 :: a5 :: a6 :: a7 :: a8 :: a9 :: a10 :: a11 :: a12 :: some (.long v) :: t) (st) M cs ss := sorry
theorem aw_aload13 (pc : Nat) {a0 a1 a2 a3 a4 a5 a6 a7 a8 a9 a10 a11 a12 : Option Value} {t : List (Option Value)} {v : Nat} (hd : decode Y.2.1 pc = .ok (.aload 13, 2)) (kk : AW Y R Q (pc + 2) (a0 :: a1 :: a2 :: a3 :: a4 :: a5 :: a6 :: a7 :: a8 :: a9 :: a10 :: a11 :: a12 :: some (.ref v) :: t) (.ref v :: st) M cs ss) : AW Y R Q pc (a0 :: a1 :: a2 :: a3 :: a4 :: a5 :: a6 :: a7 :: a8 :: a9 :: a10 :: a11 :: a12 :: some (.ref v) :: t) (st) M cs ss := sorry
theorem aw_aloadN13 (pc : Nat) {a0 a1 a2 a3 a4 a5 a6 a7 a8 a9 a10 a11 a12 : Option Value} {t : List (Option Value)} (hd : decode Y.2.1 pc = .ok (.aload 13, 2)) (kk : AW Y R Q (pc + 2) (a0 :: a1 :: a2 :: a3 :: a4 :: a5 :: a6 :: a7 :: a8 :: a9 :: a10 :: a11 :: a12 :: some .null :: t) (.null :: st) M cs ss) : AW Y R Q pc (a0 :: a1 :: a2 :: a3 :: a4 :: a5 :: a6 :: a7 :: a8 :: a9 :: a10 :: a11 :: a12 :: some .null :: t) (st) M cs ss := sorry
theorem aw_iload14 (pc : Nat) {a0 a1 a2 a3 a4 a5 a6 a7 a8 a9 a10 a11 a12 a13 : Option Value} {t : List (Option Value)} {v : Int32} (hd : decode Y.2.1 pc = .ok (.iload 14, 2)) (kk : AW Y R Q (pc + 2) (a0 :: a1 :: a2 :: a3 :: a4 :: a5 :: a6 :: a7 :: a8 :: a9 :: a10 :: a11 :: a12 :: a13 :: some (.int v) :: t) (.int v :: st) M cs ss) : AW Y R Q pc (a0 :: a1 :: a2 :: a3 :: a4 :: a5 :: a6 :: a7 :: a8 :: a9 :: a10 :: a11 :: a12 :: a13 :: some (.int v) :: t) (st) M cs ss := sorry
theorem aw_lload14 (pc : Nat) {a0 a1 a2 a3 a4 a5 a6 a7 a8 a9 a10 a11 a12 a13 : Option Value} {t : List (Option Value)} {v : Int64} (hd : decode Y.2.1 pc = .ok (.lload 14, 2)) (kk : AW Y R Q (pc + 2) (a0 :: a1 :: a2 :: a3 :: a4 :: a5 :: a6 :: a7 :: a8 :: a9 :: a10 :: a11 :: a12 :: a13 :: some (.long v) :: t) (.long v :: st) M cs ss) : AW Y R Q pc (a0 :: a1 :: a2 :: a3 :: a4 :: a5 :: a6 :: a7 :: a8 :: a9 :: a10 :: a11 :: a12 :: a13 :: some (.long v) :: t) (st) M cs ss := sorry
theorem aw_aload14 (pc : Nat) {a0 a1 a2 a3 a4 a5 a6 a7 a8 a9 a10 a11 a12 a13 : Option Value} {t : List (Option Value)} {v : Nat} (hd : decode Y.2.1 pc = .ok (.aload 14, 2)) (kk : AW Y R Q (pc + 2) (a0 :: a1 :: a2 :: a3 :: a4 :: a5 :: a6 :: a7 :: a8 :: a9 :: a10 :: a11 :: a12 :: a13 :: some (.ref v) :: t) (.ref v :: st) M cs ss) : AW Y R Q pc (a0 :: a1 :: a2 :: a3 :: a4 :: a5 :: a6 :: a7 :: a8 :: a9 :: a10 :: a11 :: a12 :: a13 :: some (.ref v) :: t) (st) M cs ss := sorry
theorem aw_aloadN14 (pc : Nat) {a0 a1 a2 a3 a4 a5 a6 a7 a8 a9 a10 a11 a12 a13 : Option Value} {t : List (Option Value)} (hd : decode Y.2.1 pc = .ok (.aload 14, 2)) (kk : AW Y R Q (pc + 2) (a0 :: a1 :: a2 :: a3 :: a4 :: a5 :: a6 :: a7 :: a8 :: a9 :: a10 :: a11 :: a12 :: a13 :: some .null :: t) (.null :: st) M cs ss) : AW Y R Q pc (a0 :: a1 :: a2 :: a3 :: a4 :: a5 :: a6 :: a7 :: a8 :: a9 :: a10 :: a11 :: a12 :: a13 :: some .null :: t) (st) M cs ss := sorry
theorem aw_iload15 (pc : Nat) {a0 a1 a2 a3 a4 a5 a6 a7 a8 a9 a10 a11 a12 a13 a14 : Option Value} {t : List (Option Value)} {v : Int32} (hd : decode Y.2.1 pc = .ok (.iload 15, 2)) (kk : AW Y R Q (pc + 2) (a0 :: a1 :: a2 :: a3 :: a4 :: a5 :: a6 :: a7 :: a8 :: a9 :: a10 :: a11 :: a12 :: a13 :: a14 :: some (.int v) :: t) (.int v :: st) M cs ss) : AW Y R Q pc (a0 :: a1 :: a2 :: a3 :: a4 :: a5 :: a6 :: a7 :: a8 :: a9 :: a10 :: a11 :: a12 :: a13 :: a14 :: some (.int v) :: t) (st) M cs ss := sorry
theorem aw_lload15 (pc : Nat) {a0 a1 a2 a3 a4 a5 a6 a7 a8 a9 a10 a11 a12 a13 a14 : Option Value} {t : List (Option Value)} {v : Int64} (hd : decode Y.2.1 pc = .ok (.lload 15, 2)) (kk : AW Y R Q (pc + 2) (a0 :: a1 :: a2 :: a3 :: a4 :: a5 :: a6 :: a7 :: a8 :: a9 :: a10 :: a11 :: a12 :: a13 :: a14 :: some (.long v) :: t) (.long v :: st) M cs ss) : AW Y R Q pc (a0 :: a1 :: a2 :: a3 :: a4 :: a5 :: a6 :: a7 :: a8 :: a9 :: a10 :: a11 :: a12 :: a13 :: a14 :: some (.long v) :: t) (st) M cs ss := sorry
theorem aw_aload15 (pc : Nat) {a0 a1 a2 a3 a4 a5 a6 a7 a8 a9 a10 a11 a12 a13 a14 : Option Value} {t : List (Option Value)} {v : Nat} (hd : decode Y.2.1 pc = .ok (.aload 15, 2)) (kk : AW Y R Q (pc + 2) (a0 :: a1 :: a2 :: a3 :: a4 :: a5 :: a6 :: a7 :: a8 :: a9 :: a10 :: a11 :: a12 :: a13 :: a14 :: some (.ref v) :: t) (.ref v :: st) M cs ss) : AW Y R Q pc (a0 :: a1 :: a2 :: a3 :: a4 :: a5 :: a6 :: a7 :: a8 :: a9 :: a10 :: a11 :: a12 :: a13 :: a14 :: some (.ref v) :: t) (st) M cs ss := sorry
theorem aw_aloadN15 (pc : Nat) {a0 a1 a2 a3 a4 a5 a6 a7 a8 a9 a10 a11 a12 a13 a14 : Option Value} {t : List (Option Value)} (hd : decode Y.2.1 pc = .ok (.aload 15, 2)) (kk : AW Y R Q (pc + 2) (a0 :: a1 :: a2 :: a3 :: a4 :: a5 :: a6 :: a7 :: a8 :: a9 :: a10 :: a11 :: a12 :: a13 :: a14 :: some .null :: t) (.null :: st) M cs ss) : AW Y R Q pc (a0 :: a1 :: a2 :: a3 :: a4 :: a5 :: a6 :: a7 :: a8 :: a9 :: a10 :: a11 :: a12 :: a13 :: a14 :: some .null :: t) (st) M cs ss := sorry
theorem aw_iload16 (pc : Nat) {a0 a1 a2 a3 a4 a5 a6 a7 a8 a9 a10 a11 a12 a13 a14 a15 : Option Value} {t : List (Option Value)} {v : Int32} (hd : decode Y.2.1 pc = .ok (.iload 16, 2)) (kk : AW Y R Q (pc + 2) (a0 :: a1 :: a2 :: a3 :: a4 :: a5 :: a6 :: a7 :: a8 :: a9 :: a10 :: a11 :: a12 :: a13 :: a14 :: a15 :: some (.int v) :: t) (.int v :: st) M cs ss) : AW Y R Q pc (a0 :: a1 :: a2 :: a3 :: a4 :: a5 :: a6 :: a7 :: a8 :: a9 :: a10 :: a11 :: a12 :: a13 :: a14 :: a15 :: some (.int v) :: t) (st) M cs ss := sorry
theorem aw_lload16 (pc : Nat) {a0 a1 a2 a3 a4 a5 a6 a7 a8 a9 a10 a11 a12 a13 a14 a15 : Option Value} {t : List (Option Value)} {v : Int64} (hd : decode Y.2.1 pc = .ok (.lload 16, 2)) (kk : AW Y R Q (pc + 2) (a0 :: a1 :: a2 :: a3 :: a4 :: a5 :: a6 :: a7 :: a8 :: a9 :: a10 :: a11 :: a12 :: a13 :: a14 :: a15 :: some (.long v) :: t) (.long v :: st) M cs ss) : AW Y R Q pc (a0 :: a1 :: a2 :: a3 :: a4 :: a5 :: a6 :: a7 :: a8 :: a9 :: a10 :: a11 :: a12 :: a13 :: a14 :: a15 :: some (.long v) :: t) (st) M cs ss := sorry
theorem aw_aload16 (pc : Nat) {a0 a1 a2 a3 a4 a5 a6 a7 a8 a9 a10 a11 a12 a13 a14 a15 : Option Value} {t : List (Option Value)} {v : Nat} (hd : decode Y.2.1 pc = .ok (.aload 16, 2)) (kk : AW Y R Q (pc + 2) (a0 :: a1 :: a2 :: a3 :: a4 :: a5 :: a6 :: a7 :: a8 :: a9 :: a10 :: a11 :: a12 :: a13 :: a14 :: a15 :: some (.ref v) :: t) (.ref v :: st) M cs ss) : AW Y R Q pc (a0 :: a1 :: a2 :: a3 :: a4 :: a5 :: a6 :: a7 :: a8 :: a9 :: a10 :: a11 :: a12 :: a13 :: a14 :: a15 :: some (.ref v) :: t) (st) M cs ss := sorry
theorem aw_aloadN16 (pc : Nat) {a0 a1 a2 a3 a4 a5 a6 a7 a8 a9 a10 a11 a12 a13 a14 a15 : Option Value} {t : List (Option Value)} (hd : decode Y.2.1 pc = .ok (.aload 16, 2)) (kk : AW Y R Q (pc + 2) (a0 :: a1 :: a2 :: a3 :: a4 :: a5 :: a6 :: a7 :: a8 :: a9 :: a10 :: a11 :: a12 :: a13 :: a14 :: a15 :: some .null :: t) (.null :: st) M cs ss) : AW Y R Q pc (a0 :: a1 :: a2 :: a3 :: a4 :: a5 :: a6 :: a7 :: a8 :: a9 :: a10 :: a11 :: a12 :: a13 :: a14 :: a15 :: some .null :: t) (st) M cs ss := sorry
def prevB (o : Option Value) : Bool := match o with
  | none => true
  | some w => w.category == 1
theorem prevB_ok {o : Option Value} {w : Value} (h : prevB o = true) (hw : o = some w) : w.category = 1 := sorry
theorem aw_istore0 (pc : Nat) {a0 : Option Value} {t : List (Option Value)} {v : Int32} (hd : decode Y.2.1 pc = .ok (.istore_n 0, 1)) (kk : AW Y R Q (pc + 1) (some (.int v) :: t) st M cs ss) : AW Y R Q pc (a0 :: t) (.int v :: st) M cs ss := sorry
theorem aw_astore0 (pc : Nat) {a0 : Option Value} {t : List (Option Value)} {v : Nat} (hd : decode Y.2.1 pc = .ok (.astore_n 0, 1)) (kk : AW Y R Q (pc + 1) (some (.ref v) :: t) st M cs ss) : AW Y R Q pc (a0 :: t) (.ref v :: st) M cs ss := sorry
theorem aw_astoreN0 (pc : Nat) {a0 : Option Value} {t : List (Option Value)} (hd : decode Y.2.1 pc = .ok (.astore_n 0, 1)) (kk : AW Y R Q (pc + 1) (some .null :: t) st M cs ss) : AW Y R Q pc (a0 :: t) (.null :: st) M cs ss := sorry
theorem aw_lstore0 (pc : Nat) {a0 a1 : Option Value} {t : List (Option Value)} {v : Int64} (hd : decode Y.2.1 pc = .ok (.lstore_n 0, 1)) (kk : AW Y R Q (pc + 1) (some (.long v) :: none :: t) st M cs ss) : AW Y R Q pc (a0 :: a1 :: t) (.long v :: st) M cs ss := sorry
theorem aw_iinc0 (pc : Nat) {t : List (Option Value)} {n : Int} {u : Int32} (v : Int32) (hd : decode Y.2.1 pc = .ok (.iinc 0 n, 3)) (hv : u + Int32.ofInt n = v) (kk : AW Y R Q (pc + 3) (some (.int v) :: t) st M cs ss) : AW Y R Q pc (some (.int u) :: t) st M cs ss := sorry
theorem aw_drop0 {pc : Nat} {a0 : Option Value} {t : List (Option Value)} (kk : AW Y R Q pc (none :: t) st M cs ss) : AW Y R Q pc (a0 :: t) st M cs ss := sorry
theorem aw_istore1 (pc : Nat) {a0 a1 : Option Value} {t : List (Option Value)} {v : Int32} (hd : decode Y.2.1 pc = .ok (.istore_n 1, 1)) (hp : prevB a0 = true) (kk : AW Y R Q (pc + 1) (a0 :: some (.int v) :: t) st M cs ss) : AW Y R Q pc (a0 :: a1 :: t) (.int v :: st) M cs ss := sorry
theorem aw_astore1 (pc : Nat) {a0 a1 : Option Value} {t : List (Option Value)} {v : Nat} (hd : decode Y.2.1 pc = .ok (.astore_n 1, 1)) (hp : prevB a0 = true) (kk : AW Y R Q (pc + 1) (a0 :: some (.ref v) :: t) st M cs ss) : AW Y R Q pc (a0 :: a1 :: t) (.ref v :: st) M cs ss := sorry
theorem aw_astoreN1 (pc : Nat) {a0 a1 : Option Value} {t : List (Option Value)} (hd : decode Y.2.1 pc = .ok (.astore_n 1, 1)) (hp : prevB a0 = true) (kk : AW Y R Q (pc + 1) (a0 :: some .null :: t) st M cs ss) : AW Y R Q pc (a0 :: a1 :: t) (.null :: st) M cs ss := sorry
theorem aw_lstore1 (pc : Nat) {a0 a1 a2 : Option Value} {t : List (Option Value)} {v : Int64} (hd : decode Y.2.1 pc = .ok (.lstore_n 1, 1)) (hp : prevB a0 = true) (kk : AW Y R Q (pc + 1) (a0 :: some (.long v) :: none :: t) st M cs ss) : AW Y R Q pc (a0 :: a1 :: a2 :: t) (.long v :: st) M cs ss := sorry
theorem aw_iinc1 (pc : Nat) {a0 : Option Value} {t : List (Option Value)} {n : Int} {u : Int32} (v : Int32) (hd : decode Y.2.1 pc = .ok (.iinc 1 n, 3)) (hv : u + Int32.ofInt n = v) (hp : prevB a0 = true) (kk : AW Y R Q (pc + 3) (a0 :: some (.int v) :: t) st M cs ss) : AW Y R Q pc (a0 :: some (.int u) :: t) st M cs ss := sorry
theorem aw_drop1 {pc : Nat} {a0 a1 : Option Value} {t : List (Option Value)} (kk : AW Y R Q pc (a0 :: none :: t) st M cs ss) : AW Y R Q pc (a0 :: a1 :: t) st M cs ss := sorry
theorem aw_istore2 (pc : Nat) {a0 a1 a2 : Option Value} {t : List (Option Value)} {v : Int32} (hd : decode Y.2.1 pc = .ok (.istore_n 2, 1)) (hp : prevB a1 = true) (kk : AW Y R Q (pc + 1) (a0 :: a1 :: some (.int v) :: t) st M cs ss) : AW Y R Q pc (a0 :: a1 :: a2 :: t) (.int v :: st) M cs ss := sorry
theorem aw_astore2 (pc : Nat) {a0 a1 a2 : Option Value} {t : List (Option Value)} {v : Nat} (hd : decode Y.2.1 pc = .ok (.astore_n 2, 1)) (hp : prevB a1 = true) (kk : AW Y R Q (pc + 1) (a0 :: a1 :: some (.ref v) :: t) st M cs ss) : AW Y R Q pc (a0 :: a1 :: a2 :: t) (.ref v :: st) M cs ss := sorry
theorem aw_astoreN2 (pc : Nat) {a0 a1 a2 : Option Value} {t : List (Option Value)} (hd : decode Y.2.1 pc = .ok (.astore_n 2, 1)) (hp : prevB a1 = true) (kk : AW Y R Q (pc + 1) (a0 :: a1 :: some .null :: t) st M cs ss) : AW Y R Q pc (a0 :: a1 :: a2 :: t) (.null :: st) M cs ss := sorry
theorem aw_lstore2 (pc : Nat) {a0 a1 a2 a3 : Option Value} {t : List (Option Value)} {v : Int64} (hd : decode Y.2.1 pc = .ok (.lstore_n 2, 1)) (hp : prevB a1 = true) (kk : AW Y R Q (pc + 1) (a0 :: a1 :: some (.long v) :: none :: t) st M cs ss) : AW Y R Q pc (a0 :: a1 :: a2 :: a3 :: t) (.long v :: st) M cs ss := sorry
theorem aw_iinc2 (pc : Nat) {a0 a1 : Option Value} {t : List (Option Value)} {n : Int} {u : Int32} (v : Int32) (hd : decode Y.2.1 pc = .ok (.iinc 2 n, 3)) (hv : u + Int32.ofInt n = v) (hp : prevB a1 = true) (kk : AW Y R Q (pc + 3) (a0 :: a1 :: some (.int v) :: t) st M cs ss) : AW Y R Q pc (a0 :: a1 :: some (.int u) :: t) st M cs ss := sorry
theorem aw_drop2 {pc : Nat} {a0 a1 a2 : Option Value} {t : List (Option Value)} (kk : AW Y R Q pc (a0 :: a1 :: none :: t) st M cs ss) : AW Y R Q pc (a0 :: a1 :: a2 :: t) st M cs ss := sorry
theorem aw_istore3 (pc : Nat) {a0 a1 a2 a3 : Option Value} {t : List (Option Value)} {v : Int32} (hd : decode Y.2.1 pc = .ok (.istore_n 3, 1)) (hp : prevB a2 = true) (kk : AW Y R Q (pc + 1) (a0 :: a1 :: a2 :: some (.int v) :: t) st M cs ss) : AW Y R Q pc (a0 :: a1 :: a2 :: a3 :: t) (.int v :: st) M cs ss := sorry
theorem aw_astore3 (pc : Nat) {a0 a1 a2 a3 : Option Value} {t : List (Option Value)} {v : Nat} (hd : decode Y.2.1 pc = .ok (.astore_n 3, 1)) (hp : prevB a2 = true) (kk : AW Y R Q (pc + 1) (a0 :: a1 :: a2 :: some (.ref v) :: t) st M cs ss) : AW Y R Q pc (a0 :: a1 :: a2 :: a3 :: t) (.ref v :: st) M cs ss := sorry
theorem aw_astoreN3 (pc : Nat) {a0 a1 a2 a3 : Option Value} {t : List (Option Value)} (hd : decode Y.2.1 pc = .ok (.astore_n 3, 1)) (hp : prevB a2 = true) (kk : AW Y R Q (pc + 1) (a0 :: a1 :: a2 :: some .null :: t) st M cs ss) : AW Y R Q pc (a0 :: a1 :: a2 :: a3 :: t) (.null :: st) M cs ss := sorry
theorem aw_lstore3 (pc : Nat) {a0 a1 a2 a3 a4 : Option Value} {t : List (Option Value)} {v : Int64} (hd : decode Y.2.1 pc = .ok (.lstore_n 3, 1)) (hp : prevB a2 = true) (kk : AW Y R Q (pc + 1) (a0 :: a1 :: a2 :: some (.long v) :: none :: t) st M cs ss) : AW Y R Q pc (a0 :: a1 :: a2 :: a3 :: a4 :: t) (.long v :: st) M cs ss := sorry
theorem aw_iinc3 (pc : Nat) {a0 a1 a2 : Option Value} {t : List (Option Value)} {n : Int} {u : Int32} (v : Int32) (hd : decode Y.2.1 pc = .ok (.iinc 3 n, 3)) (hv : u + Int32.ofInt n = v) (hp : prevB a2 = true) (kk : AW Y R Q (pc + 3) (a0 :: a1 :: a2 :: some (.int v) :: t) st M cs ss) : AW Y R Q pc (a0 :: a1 :: a2 :: some (.int u) :: t) st M cs ss := sorry
theorem aw_drop3 {pc : Nat} {a0 a1 a2 a3 : Option Value} {t : List (Option Value)} (kk : AW Y R Q pc (a0 :: a1 :: a2 :: none :: t) st M cs ss) : AW Y R Q pc (a0 :: a1 :: a2 :: a3 :: t) st M cs ss := sorry
theorem aw_istore4 (pc : Nat) {a0 a1 a2 a3 a4 : Option Value} {t : List (Option Value)} {v : Int32} (hd : decode Y.2.1 pc = .ok (.istore 4, 2)) (hp : prevB a3 = true) (kk : AW Y R Q (pc + 2) (a0 :: a1 :: a2 :: a3 :: some (.int v) :: t) st M cs ss) : AW Y R Q pc (a0 :: a1 :: a2 :: a3 :: a4 :: t) (.int v :: st) M cs ss := sorry
theorem aw_astore4 (pc : Nat) {a0 a1 a2 a3 a4 : Option Value} {t : List (Option Value)} {v : Nat} (hd : decode Y.2.1 pc = .ok (.astore 4, 2)) (hp : prevB a3 = true) (kk : AW Y R Q (pc + 2) (a0 :: a1 :: a2 :: a3 :: some (.ref v) :: t) st M cs ss) : AW Y R Q pc (a0 :: a1 :: a2 :: a3 :: a4 :: t) (.ref v :: st) M cs ss := sorry
theorem aw_astoreN4 (pc : Nat) {a0 a1 a2 a3 a4 : Option Value} {t : List (Option Value)} (hd : decode Y.2.1 pc = .ok (.astore 4, 2)) (hp : prevB a3 = true) (kk : AW Y R Q (pc + 2) (a0 :: a1 :: a2 :: a3 :: some .null :: t) st M cs ss) : AW Y R Q pc (a0 :: a1 :: a2 :: a3 :: a4 :: t) (.null :: st) M cs ss := sorry
theorem aw_lstore4 (pc : Nat) {a0 a1 a2 a3 a4 a5 : Option Value} {t : List (Option Value)} {v : Int64} (hd : decode Y.2.1 pc = .ok (.lstore 4, 2)) (hp : prevB a3 = true) (kk : AW Y R Q (pc + 2) (a0 :: a1 :: a2 :: a3 :: some (.long v) :: none :: t) st M cs ss) : AW Y R Q pc (a0 :: a1 :: a2 :: a3 :: a4 :: a5 :: t) (.long v :: st) M cs ss := sorry
theorem aw_iinc4 (pc : Nat) {a0 a1 a2 a3 : Option Value} {t : List (Option Value)} {n : Int} {u : Int32} (v : Int32) (hd : decode Y.2.1 pc = .ok (.iinc 4 n, 3)) (hv : u + Int32.ofInt n = v) (hp : prevB a3 = true) (kk : AW Y R Q (pc + 3) (a0 :: a1 :: a2 :: a3 :: some (.int v) :: t) st M cs ss) : AW Y R Q pc (a0 :: a1 :: a2 :: a3 :: some (.int u) :: t) st M cs ss := sorry
theorem aw_drop4 {pc : Nat} {a0 a1 a2 a3 a4 : Option Value} {t : List (Option Value)} (kk : AW Y R Q pc (a0 :: a1 :: a2 :: a3 :: none :: t) st M cs ss) : AW Y R Q pc (a0 :: a1 :: a2 :: a3 :: a4 :: t) st M cs ss := sorry
theorem aw_istore5 (pc : Nat) {a0 a1 a2 a3 a4 a5 : Option Value} {t : List (Option Value)} {v : Int32} (hd : decode Y.2.1 pc = .ok (.istore 5, 2)) (hp : prevB a4 = true) (kk : AW Y R Q (pc + 2) (a0 :: a1 :: a2 :: a3 :: a4 :: some (.int v) :: t) st M cs ss) : AW Y R Q pc (a0 :: a1 :: a2 :: a3 :: a4 :: a5 :: t) (.int v :: st) M cs ss := sorry
theorem aw_astore5 (pc : Nat) {a0 a1 a2 a3 a4 a5 : Option Value} {t : List (Option Value)} {v : Nat} (hd : decode Y.2.1 pc = .ok (.astore 5, 2)) (hp : prevB a4 = true) (kk : AW Y R Q (pc + 2) (a0 :: a1 :: a2 :: a3 :: a4 :: some (.ref v) :: t) st M cs ss) : AW Y R Q pc (a0 :: a1 :: a2 :: a3 :: a4 :: a5 :: t) (.ref v :: st) M cs ss := sorry
theorem aw_astoreN5 (pc : Nat) {a0 a1 a2 a3 a4 a5 : Option Value} {t : List (Option Value)} (hd : decode Y.2.1 pc = .ok (.astore 5, 2)) (hp : prevB a4 = true) (kk : AW Y R Q (pc + 2) (a0 :: a1 :: a2 :: a3 :: a4 :: some .null :: t) st M cs ss) : AW Y R Q pc (a0 :: a1 :: a2 :: a3 :: a4 :: a5 :: t) (.null :: st) M cs ss := sorry
theorem aw_lstore5 (pc : Nat) {a0 a1 a2 a3 a4 a5 a6 : Option Value} {t : List (Option Value)} {v : Int64} (hd : decode Y.2.1 pc = .ok (.lstore 5, 2)) (hp : prevB a4 = true) (kk : AW Y R Q (pc + 2) (a0 :: a1 :: a2 :: a3 :: a4 :: some (.long v) :: none :: t) st M cs ss) : AW Y R Q pc (a0 :: a1 :: a2 :: a3 :: a4 :: a5 :: a6 :: t) (.long v :: st) M cs ss := sorry
theorem aw_iinc5 (pc : Nat) {a0 a1 a2 a3 a4 : Option Value} {t : List (Option Value)} {n : Int} {u : Int32} (v : Int32) (hd : decode Y.2.1 pc = .ok (.iinc 5 n, 3)) (hv : u + Int32.ofInt n = v) (hp : prevB a4 = true) (kk : AW Y R Q (pc + 3) (a0 :: a1 :: a2 :: a3 :: a4 :: some (.int v) :: t) st M cs ss) : AW Y R Q pc (a0 :: a1 :: a2 :: a3 :: a4 :: some (.int u) :: t) st M cs ss := sorry
theorem aw_drop5 {pc : Nat} {a0 a1 a2 a3 a4 a5 : Option Value} {t : List (Option Value)} (kk : AW Y R Q pc (a0 :: a1 :: a2 :: a3 :: a4 :: none :: t) st M cs ss) : AW Y R Q pc (a0 :: a1 :: a2 :: a3 :: a4 :: a5 :: t) st M cs ss := sorry
theorem aw_istore6 (pc : Nat) {a0 a1 a2 a3 a4 a5 a6 : Option Value} {t : List (Option Value)} {v : Int32} (hd : decode Y.2.1 pc = .ok (.istore 6, 2)) (hp : prevB a5 = true) (kk : AW Y R Q (pc + 2) (a0 :: a1 :: a2 :: a3 :: a4 :: a5 :: some (.int v) :: t) st M cs ss) : AW Y R Q pc (a0 :: a1 :: a2 :: a3 :: a4 :: a5 :: a6 :: t) (.int v :: st) M cs ss := sorry
theorem aw_astore6 (pc : Nat) {a0 a1 a2 a3 a4 a5 a6 : Option Value} {t : List (Option Value)} {v : Nat} (hd : decode Y.2.1 pc = .ok (.astore 6, 2)) (hp : prevB a5 = true) (kk : AW Y R Q (pc + 2) (a0 :: a1 :: a2 :: a3 :: a4 :: a5 :: some (.ref v) :: t) st M cs ss) : AW Y R Q pc (a0 :: a1 :: a2 :: a3 :: a4 :: a5 :: a6 :: t) (.ref v :: st) M cs ss := sorry
theorem aw_astoreN6 (pc : Nat) {a0 a1 a2 a3 a4 a5 a6 : Option Value} {t : List (Option Value)} (hd : decode Y.2.1 pc = .ok (.astore 6, 2)) (hp : prevB a5 = true) (kk : AW Y R Q (pc + 2) (a0 :: a1 :: a2 :: a3 :: a4 :: a5 :: some .null :: t) st M cs ss) : AW Y R Q pc (a0 :: a1 :: a2 :: a3 :: a4 :: a5 :: a6 :: t) (.null :: st) M cs ss := sorry
theorem aw_lstore6 (pc : Nat) {a0 a1 a2 a3 a4 a5 a6 a7 : Option Value} {t : List (Option Value)} {v : Int64} (hd : decode Y.2.1 pc = .ok (.lstore 6, 2)) (hp : prevB a5 = true) (kk : AW Y R Q (pc + 2) (a0 :: a1 :: a2 :: a3 :: a4 :: a5 :: some (.long v) :: none :: t) st M cs ss) : AW Y R Q pc (a0 :: a1 :: a2 :: a3 :: a4 :: a5 :: a6 :: a7 :: t) (.long v :: st) M cs ss := sorry
theorem aw_iinc6 (pc : Nat) {a0 a1 a2 a3 a4 a5 : Option Value} {t : List (Option Value)} {n : Int} {u : Int32} (v : Int32) (hd : decode Y.2.1 pc = .ok (.iinc 6 n, 3)) (hv : u + Int32.ofInt n = v) (hp : prevB a5 = true) (kk : AW Y R Q (pc + 3) (a0 :: a1 :: a2 :: a3 :: a4 :: a5 :: some (.int v) :: t) st M cs ss) : AW Y R Q pc (a0 :: a1 :: a2 :: a3 :: a4 :: a5 :: some (.int u) :: t) st M cs ss := sorry
theorem aw_drop6 {pc : Nat} {a0 a1 a2 a3 a4 a5 a6 : Option Value} {t : List (Option Value)} (kk : AW Y R Q pc (a0 :: a1 :: a2 :: a3 :: a4 :: a5 :: none :: t) st M cs ss) : AW Y R Q pc (a0 :: a1 :: a2 :: a3 :: a4 :: a5 :: a6 :: t) st M cs ss := sorry
theorem aw_istore7 (pc : Nat) {a0 a1 a2 a3 a4 a5 a6 a7 : Option Value} {t : List (Option Value)} {v : Int32} (hd : decode Y.2.1 pc = .ok (.istore 7, 2)) (hp : prevB a6 = true) (kk : AW Y R Q (pc + 2) (a0 :: a1 :: a2 :: a3 :: a4 :: a5 :: a6 :: some (.int v) :: t) st M cs ss) : AW Y R Q pc (a0 :: a1 :: a2 :: a3 :: a4 :: a5 :: a6 :: a7 :: t) (.int v :: st) M cs ss := sorry
theorem aw_astore7 (pc : Nat) {a0 a1 a2 a3 a4 a5 a6 a7 : Option Value} {t : List (Option Value)} {v : Nat} (hd : decode Y.2.1 pc = .ok (.astore 7, 2)) (hp : prevB a6 = true) (kk : AW Y R Q (pc + 2) (a0 :: a1 :: a2 :: a3 :: a4 :: a5 :: a6 :: some (.ref v) :: t) st M cs ss) : AW Y R Q pc (a0 :: a1 :: a2 :: a3 :: a4 :: a5 :: a6 :: a7 :: t) (.ref v :: st) M cs ss := sorry
theorem aw_astoreN7 (pc : Nat) {a0 a1 a2 a3 a4 a5 a6 a7 : Option Value} {t : List (Option Value)} (hd : decode Y.2.1 pc = .ok (.astore 7, 2)) (hp : prevB a6 = true) (kk : AW Y R Q (pc + 2) (a0 :: a1 :: a2 :: a3 :: a4 :: a5 :: a6 :: some .null :: t) st M cs ss) : AW Y R Q pc (a0 :: a1 :: a2 :: a3 :: a4 :: a5 :: a6 :: a7 :: t) (.null :: st) M cs ss := sorry
theorem aw_lstore7 (pc : Nat) {a0 a1 a2 a3 a4 a5 a6 a7 a8 : Option Value} {t : List (Option Value)} {v : Int64} (hd : decode Y.2.1 pc = .ok (.lstore 7, 2)) (hp : prevB a6 = true) (kk : AW Y R Q (pc + 2) (a0 :: a1 :: a2 :: a3 :: a4 :: a5 :: a6 :: some (.long v) :: none :: t) st M cs ss) : AW Y R Q pc (a0 :: a1 :: a2 :: a3 :: a4 :: a5 :: a6 :: a7 :: a8 :: t) (.long v :: st) M cs ss := sorry
theorem aw_iinc7 (pc : Nat) {a0 a1 a2 a3 a4 a5 a6 : Option Value} {t : List (Option Value)} {n : Int} {u : Int32} (v : Int32) (hd : decode Y.2.1 pc = .ok (.iinc 7 n, 3)) (hv : u + Int32.ofInt n = v) (hp : prevB a6 = true) (kk : AW Y R Q (pc + 3) (a0 :: a1 :: a2 :: a3 :: a4 :: a5 :: a6 :: some (.int v) :: t) st M cs ss) : AW Y R Q pc (a0 :: a1 :: a2 :: a3 :: a4 :: a5 :: a6 :: some (.int u) :: t) st M cs ss := sorry
theorem aw_drop7 {pc : Nat} {a0 a1 a2 a3 a4 a5 a6 a7 : Option Value} {t : List (Option Value)} (kk : AW Y R Q pc (a0 :: a1 :: a2 :: a3 :: a4 :: a5 :: a6 :: none :: t) st M cs ss) : AW Y R Q pc (a0 :: a1 :: a2 :: a3 :: a4 :: a5 :: a6 :: a7 :: t) st M cs ss := sorry
theorem aw_istore8 (pc : Nat) {a0 a1 a2 a3 a4 a5 a6 a7 a8 : Option Value} {t : List (Option Value)} {v : Int32} (hd : decode Y.2.1 pc = .ok (.istore 8, 2)) (hp : prevB a7 = true) (kk : AW Y R Q (pc + 2) (a0 :: a1 :: a2 :: a3 :: a4 :: a5 :: a6 :: a7 :: some (.int v) :: t) st M cs ss) : AW Y R Q pc (a0 :: a1 :: a2 :: a3 :: a4 :: a5 :: a6 :: a7 :: a8 :: t) (.int v :: st) M cs ss := sorry
theorem aw_astore8 (pc : Nat) {a0 a1 a2 a3 a4 a5 a6 a7 a8 : Option Value} {t : List (Option Value)} {v : Nat} (hd : decode Y.2.1 pc = .ok (.astore 8, 2)) (hp : prevB a7 = true) (kk : AW Y R Q (pc + 2) (a0 :: a1 :: a2 :: a3 :: a4 :: a5 :: a6 :: a7 :: some (.ref v) :: t) st M cs ss) : AW Y R Q pc (a0 :: a1 :: a2 :: a3 :: a4 :: a5 :: a6 :: a7 :: a8 :: t) (.ref v :: st) M cs ss := sorry
theorem aw_astoreN8 (pc : Nat) {a0 a1 a2 a3 a4 a5 a6 a7 a8 : Option Value} {t : List (Option Value)} (hd : decode Y.2.1 pc = .ok (.astore 8, 2)) (hp : prevB a7 = true) (kk : AW Y R Q (pc + 2) (a0 :: a1 :: a2 :: a3 :: a4 :: a5 :: a6 :: a7 :: some .null :: t) st M cs ss) : AW Y R Q pc (a0 :: a1 :: a2 :: a3 :: a4 :: a5 :: a6 :: a7 :: a8 :: t) (.null :: st) M cs ss := sorry
theorem aw_lstore8 (pc : Nat) {a0 a1 a2 a3 a4 a5 a6 a7 a8 a9 : Option Value} {t : List (Option Value)} {v : Int64} (hd : decode Y.2.1 pc = .ok (.lstore 8, 2)) (hp : prevB a7 = true) (kk : AW Y R Q (pc + 2) (a0 :: a1 :: a2 :: a3 :: a4 :: a5 :: a6 :: a7 :: some (.long v) :: none :: t) st M cs ss) : AW Y R Q pc (a0 :: a1 :: a2 :: a3 :: a4 :: a5 :: a6 :: a7 :: a8 :: a9 :: t) (.long v :: st) M cs ss := sorry
theorem aw_iinc8 (pc : Nat) {a0 a1 a2 a3 a4 a5 a6 a7 : Option Value} {t : List (Option Value)} {n : Int} {u : Int32} (v : Int32) (hd : decode Y.2.1 pc = .ok (.iinc 8 n, 3)) (hv : u + Int32.ofInt n = v) (hp : prevB a7 = true) (kk : AW Y R Q (pc + 3) (a0 :: a1 :: a2 :: a3 :: a4 :: a5 :: a6 :: a7 :: some (.int v) :: t) st M cs ss) : AW Y R Q pc (a0 :: a1 :: a2 :: a3 :: a4 :: a5 :: a6 :: a7 :: some (.int u) :: t) st M cs ss := sorry
theorem aw_drop8 {pc : Nat} {a0 a1 a2 a3 a4 a5 a6 a7 a8 : Option Value} {t : List (Option Value)} (kk : AW Y R Q pc (a0 :: a1 :: a2 :: a3 :: a4 :: a5 :: a6 :: a7 :: none :: t) st M cs ss) : AW Y R Q pc (a0 :: a1 :: a2 :: a3 :: a4 :: a5 :: a6 :: a7 :: a8 :: t) st M cs ss := sorry
theorem aw_istore9 (pc : Nat) {a0 a1 a2 a3 a4 a5 a6 a7 a8 a9 : Option Value} {t : List (Option Value)} {v : Int32} (hd : decode Y.2.1 pc = .ok (.istore 9, 2)) (hp : prevB a8 = true) (kk : AW Y R Q (pc + 2) (a0 :: a1 :: a2 :: a3 :: a4 :: a5 :: a6 :: a7 :: a8 :: some (.int v) :: t) st M cs ss) : AW Y R Q pc (a0 :: a1 :: a2 :: a3 :: a4 :: a5 :: a6 :: a7 :: a8 :: a9 :: t) (.int v :: st) M cs ss := sorry
theorem aw_astore9 (pc : Nat) {a0 a1 a2 a3 a4 a5 a6 a7 a8 a9 : Option Value} {t : List (Option Value)} {v : Nat} (hd : decode Y.2.1 pc = .ok (.astore 9, 2)) (hp : prevB a8 = true) (kk : AW Y R Q (pc + 2) (a0 :: a1 :: a2 :: a3 :: a4 :: a5 :: a6 :: a7 :: a8 :: some (.ref v) :: t) st M cs ss) : AW Y R Q pc (a0 :: a1 :: a2 :: a3 :: a4 :: a5 :: a6 :: a7 :: a8 :: a9 :: t) (.ref v :: st) M cs ss := sorry
theorem aw_astoreN9 (pc : Nat) {a0 a1 a2 a3 a4 a5 a6 a7 a8 a9 : Option Value} {t : List (Option Value)} (hd : decode Y.2.1 pc = .ok (.astore 9, 2)) (hp : prevB a8 = true) (kk : AW Y R Q (pc + 2) (a0 :: a1 :: a2 :: a3 :: a4 :: a5 :: a6 :: a7 :: a8 :: some .null :: t) st M cs ss) : AW Y R Q pc (a0 :: a1 :: a2 :: a3 :: a4 :: a5 :: a6 :: a7 :: a8 :: a9 :: t) (.null :: st) M cs ss := sorry
theorem aw_lstore9 (pc : Nat) {a0 a1 a2 a3 a4 a5 a6 a7 a8 a9 a10 : Option Value} {t : List (Option Value)} {v : Int64} (hd : decode Y.2.1 pc = .ok (.lstore 9, 2)) (hp : prevB a8 = true) (kk : AW Y R Q (pc + 2) (a0 :: a1 :: a2 :: a3 :: a4 :: a5 :: a6 :: a7 :: a8 :: some (.long v) :: none :: t) st M cs ss) : AW Y R Q pc (a0 :: a1 :: a2 :: a3 :: a4 :: a5 :: a6 :: a7 :: a8 :: a9 :: a10 :: t) (.long v :: st) M cs ss := sorry
theorem aw_iinc9 (pc : Nat) {a0 a1 a2 a3 a4 a5 a6 a7 a8 : Option Value} {t : List (Option Value)} {n : Int} {u : Int32} (v : Int32) (hd : decode Y.2.1 pc = .ok (.iinc 9 n, 3)) (hv : u + Int32.ofInt n = v) (hp : prevB a8 = true) (kk : AW Y R Q (pc + 3) (a0 :: a1 :: a2 :: a3 :: a4 :: a5 :: a6 :: a7 :: a8 :: some (.int v) :: t) st M cs ss) : AW Y R Q pc (a0 :: a1 :: a2 :: a3 :: a4 :: a5 :: a6 :: a7 :: a8 :: some (.int u) :: t) st M cs ss := sorry
theorem aw_drop9 {pc : Nat} {a0 a1 a2 a3 a4 a5 a6 a7 a8 a9 : Option Value} {t : List (Option Value)} (kk : AW Y R Q pc (a0 :: a1 :: a2 :: a3 :: a4 :: a5 :: a6 :: a7 :: a8 :: none :: t) st M cs ss) : AW Y R Q pc (a0 :: a1 :: a2 :: a3 :: a4 :: a5 :: a6 :: a7 :: a8 :: a9 :: t) st M cs ss := sorry
theorem aw_istore10 (pc : Nat) {a0 a1 a2 a3 a4 a5 a6 a7 a8 a9 a10 : Option Value} {t : List (Option Value)} {v : Int32} (hd : decode Y.2.1 pc = .ok (.istore 10, 2)) (hp : prevB a9 = true) (kk : AW Y R Q (pc + 2) (a0 :: a1 :: a2 :: a3 :: a4 :: a5 :: a6 :: a7 :: a8 :: a9 :: some (.int v) :: t) st M cs ss) : AW Y R Q pc (a0 :: a1 :: a2 :: a3 :: a4 :: a5 :: a6 :: a7 :: a8 :: a9 :: a10 :: t) (.int v :: st) M cs ss := sorry
theorem aw_astore10 (pc : Nat) {a0 a1 a2 a3 a4 a5 a6 a7 a8 a9 a10 : Option Value} {t : List (Option Value)} {v : Nat} (hd : decode Y.2.1 pc = .ok (.astore 10, 2)) (hp : prevB a9 = true) (kk : AW Y R Q (pc + 2) (a0 :: a1 :: a2 :: a3 :: a4 :: a5 :: a6 :: a7 :: a8 :: a9 :: some (.ref v) :: t) st M cs ss) : AW Y R Q pc (a0 :: a1 :: a2 :: a3 :: a4 :: a5 :: a6 :: a7 :: a8 :: a9 :: a10 :: t) (.ref v :: st) M cs ss := sorry
theorem aw_astoreN10 (pc : Nat) {a0 a1 a2 a3 a4 a5 a6 a7 a8 a9 a10 : Option Value} {t : List (Option Value)} (hd : decode Y.2.1 pc = .ok (.astore 10, 2)) (hp : prevB a9 = true) (kk : AW Y R Q (pc + 2) (a0 :: a1 :: a2 :: a3 :: a4 :: a5 :: a6 :: a7 :: a8 :: a9 :: some .null :: t) st M cs ss) : AW Y R Q pc (a0 :: a1 :: a2 :: a3 :: a4 :: a5 :: a6 :: a7 :: a8 :: a9 :: a10 :: t) (.null :: st) M cs ss := sorry
theorem aw_lstore10 (pc : Nat) {a0 a1 a2 a3 a4 a5 a6 a7 a8 a9 a10 a11 : Option Value} {t : List (Option Value)} {v : Int64} (hd : decode Y.2.1 pc = .ok (.lstore 10, 2)) (hp : prevB a9 = true) (kk : AW Y R Q (pc + 2) (a0 :: a1 :: a2 :: a3 :: a4 :: a5 :: a6 :: a7 :: a8 :: a9 :: some (.long v) :: none :: t) st M cs ss) : AW Y R Q pc (a0 :: a1 :: a2 :: a3 :: a4 :: a5 :: a6 :: a7 :: a8 :: a9 :: a10 :: a11 :: t) (.long v :: st) M cs ss := sorry
theorem aw_iinc10 (pc : Nat) {a0 a1 a2 a3 a4 a5 a6 a7 a8 a9 : Option Value} {t : List (Option Value)} {n : Int} {u : Int32} (v : Int32) (hd : decode Y.2.1 pc = .ok (.iinc 10 n, 3)) (hv : u + Int32.ofInt n = v) (hp : prevB a9 = true) (kk : AW Y R Q (pc + 3) (a0 :: a1 :: a2 :: a3 :: a4 :: a5 :: a6 :: a7 :: a8 :: a9 :: some (.int v) :: t) st M cs ss) : AW Y R Q pc (a0 :: a1 :: a2 :: a3 :: a4 :: a5 :: a6 :: a7 :: a8 :: a9 :: some (.int u) :: t) st M cs ss := sorry
theorem aw_drop10 {pc : Nat} {a0 a1 a2 a3 a4 a5 a6 a7 a8 a9 a10 : Option Value} {t : List (Option Value)} (kk : AW Y R Q pc (a0 :: a1 :: a2 :: a3 :: a4 :: a5 :: a6 :: a7 :: a8 :: a9 :: none :: t) st M cs ss) : AW Y R Q pc (a0 :: a1 :: a2 :: a3 :: a4 :: a5 :: a6 :: a7 :: a8 :: a9 :: a10 :: t) st M cs ss := sorry
theorem aw_istore11 (pc : Nat) {a0 a1 a2 a3 a4 a5 a6 a7 a8 a9 a10 a11 : Option Value} {t : List (Option Value)} {v : Int32} (hd : decode Y.2.1 pc = .ok (.istore 11, 2)) (hp : prevB a10 = true) (kk : AW Y R Q (pc + 2) (a0 :: a1 :: a2 :: a3 :: a4 :: a5 :: a6 :: a7 :: a8 :: a9 :: a10 :: some (.int v) :: t) st M cs ss) : AW Y R Q pc (a0 :: a1 :: a2 :: a3 :: a4 :: a5 :: a6 :: a7 :: a8 :: a9 :: a10 :: a11 :: t) (.int v :: st) M cs ss := sorry
theorem aw_astore11 (pc : Nat) {a0 a1 a2 a3 a4 a5 a6 a7 a8 a9 a10 a11 : Option Value} {t : List (Option Value)} {v : Nat} (hd : decode Y.2.1 pc = .ok (.astore 11, 2)) (hp : prevB a10 = true) (kk : AW Y R Q (pc + 2) (a0 :: a1 :: a2 :: a3 :: a4 :: a5 :: a6 :: a7 :: a8 :: a9 :: a10 :: some (.ref v) :: t) st M cs ss) : AW Y R Q pc (a0 :: a1 :: a2 :: a3 :: a4 :: a5 :: a6 :: a7 :: a8 :: a9 :: a10 :: a11 :: t) (.ref v :: st) M cs ss := sorry
theorem aw_astoreN11 (pc : Nat) {a0 a1 a2 a3 a4 a5 a6 a7 a8 a9 a10 a11 : Option Value} {t : List (Option Value)} (hd : decode Y.2.1 pc = .ok (.astore 11, 2)) (hp : prevB a10 = true) (kk : AW Y R Q (pc + 2) (a0 :: a1 :: a2 :: a3 :: a4 :: a5 :: a6 :: a7 :: a8 :: a9 :: a10 :: some .null :: t) st M cs ss) : AW Y R Q pc (a0 :: a1 :: a2 :: a3 :: a4 :: a5 :: a6 :: a7 :: a8 :: a9 :: a10 :: a11 :: t) (.null :: st) M cs ss := sorry
theorem aw_lstore11 (pc : Nat) {a0 a1 a2 a3 a4 a5 a6 a7 a8 a9 a10 a11 a12 : Option Value} {t : List (Option Value)} {v : Int64} (hd : decode Y.2.1 pc = .ok (.lstore 11, 2)) (hp : prevB a10 = true) (kk : AW Y R Q (pc + 2) (a0 :: a1 :: a2 :: a3 :: a4 :: a5 :: a6 :: a7 :: a8 :: a9 :: a10 :: some (.long v) :: none :: t) st M cs ss) : AW Y R Q pc (a0 :: a1 :: a2 :: a3 :: a4 :: a5 :: a6 :: a7 :: a8 :: a9 :: a10 :: a11 :: a12 :: t) (.long v :: st) M cs ss := sorry
theorem aw_iinc11 (pc : Nat) {a0 a1 a2 a3 a4 a5 a6 a7 a8 a9 a10 : Option Value} {t : List (Option Value)} {n : Int} {u : Int32} (v : Int32) (hd : decode Y.2.1 pc = .ok (.iinc 11 n, 3)) (hv : u + Int32.ofInt n = v) (hp : prevB a10 = true) (kk : AW Y R Q (pc + 3) (a0 :: a1 :: a2 :: a3 :: a4 :: a5 :: a6 :: a7 :: a8 :: a9 :: a10 :: some (.int v) :: t) st M cs ss) : AW Y R Q pc (a0 :: a1 :: a2 :: a3 :: a4 :: a5 :: a6 :: a7 :: a8 :: a9 :: a10 :: some (.int u) :: t) st M cs ss := sorry
theorem aw_drop11 {pc : Nat} {a0 a1 a2 a3 a4 a5 a6 a7 a8 a9 a10 a11 : Option Value} {t : List (Option Value)} (kk : AW Y R Q pc (a0 :: a1 :: a2 :: a3 :: a4 :: a5 :: a6 :: a7 :: a8 :: a9 :: a10 :: none :: t) st M cs ss) : AW Y R Q pc (a0 :: a1 :: a2 :: a3 :: a4 :: a5 :: a6 :: a7 :: a8 :: a9 :: a10 :: a11 :: t) st M cs ss := sorry
theorem aw_istore12 (pc : Nat) {a0 a1 a2 a3 a4 a5 a6 a7 a8 a9 a10 a11 a12 : Option Value} {t : List (Option Value)} {v : Int32} (hd : decode Y.2.1 pc = .ok (.istore 12, 2)) (hp : prevB a11 = true) (kk : AW Y R Q (pc + 2) (a0 :: a1 :: a2 :: a3 :: a4 :: a5 :: a6 :: a7 :: a8 :: a9 :: a10 :: a11 :: some (.int v) :: t) st M cs ss) : AW Y R Q pc (a0 :: a1 :: a2 :: a3 :: a4 :: a5 :: a6 :: a7 :: a8 :: a9 :: a10 :: a11 :: a12 :: t) (.int v :: st) M cs ss := sorry
theorem aw_astore12 (pc : Nat) {a0 a1 a2 a3 a4 a5 a6 a7 a8 a9 a10 a11 a12 : Option Value} {t : List (Option Value)} {v : Nat} (hd : decode Y.2.1 pc = .ok (.astore 12, 2)) (hp : prevB a11 = true) (kk : AW Y R Q (pc + 2) (a0 :: a1 :: a2 :: a3 :: a4 :: a5 :: a6 :: a7 :: a8 :: a9 :: a10 :: a11 :: some (.ref v) :: t) st M cs ss) : AW Y R Q pc (a0 :: a1 :: a2 :: a3 :: a4 :: a5 :: a6 :: a7 :: a8 :: a9 :: a10 :: a11 :: a12 :: t) (.ref v :: st) M cs ss := sorry
theorem aw_astoreN12 (pc : Nat) {a0 a1 a2 a3 a4 a5 a6 a7 a8 a9 a10 a11 a12 : Option Value} {t : List (Option Value)} (hd : decode Y.2.1 pc = .ok (.astore 12, 2)) (hp : prevB a11 = true) (kk : AW Y R Q (pc + 2) (a0 :: a1 :: a2 :: a3 :: a4 :: a5 :: a6 :: a7 :: a8 :: a9 :: a10 :: a11 :: some .null :: t) st M cs ss) : AW Y R Q pc (a0 :: a1 :: a2 :: a3 :: a4 :: a5 :: a6 :: a7 :: a8 :: a9 :: a10 :: a11 :: a12 :: t) (.null :: st) M cs ss := sorry
theorem aw_lstore12 (pc : Nat) {a0 a1 a2 a3 a4 a5 a6 a7 a8 a9 a10 a11 a12 a13 : Option Value} {t : List (Option Value)} {v : Int64} (hd : decode Y.2.1 pc = .ok (.lstore 12, 2)) (hp : prevB a11 = true) (kk : AW Y R Q (pc + 2) (a0 :: a1 :: a2 :: a3 :: a4 :: a5 :: a6 :: a7 :: a8 :: a9 :: a10 :: a11 :: some (.long v) :: none :: t) st M cs ss) : AW Y R Q pc (a0 :: a1 :: a2 :: a3 :: a4 :: a5 :: a6 :: a7 :: a8 :: a9 :: a10 :: a11 :: a12 :: a13 :: t) (.long v :: st) M cs ss := sorry
theorem aw_iinc12 (pc : Nat) {a0 a1 a2 a3 a4 a5 a6 a7 a8 a9 a10 a11 : Option Value} {t : List (Option Value)} {n : Int} {u : Int32} (v : Int32) (hd : decode Y.2.1 pc = .ok (.iinc 12 n, 3)) (hv : u + Int32.ofInt n = v) (hp : prevB a11 = true) (kk : AW Y R Q (pc + 3) (a0 :: a1 :: a2 :: a3 :: a4 :: a5 :: a6 :: a7 :: a8 :: a9 :: a10 :: a11 :: some (.int v) :: t) st M cs ss) : AW Y R Q pc (a0 :: a1 :: a2 :: a3 :: a4 :: a5 :: a6 :: a7 :: a8 :: a9 :: a10 :: a11 :: some (.int u) :: t) st M cs ss := sorry
theorem aw_drop12 {pc : Nat} {a0 a1 a2 a3 a4 a5 a6 a7 a8 a9 a10 a11 a12 : Option Value} {t : List (Option Value)} (kk : AW Y R Q pc (a0 :: a1 :: a2 :: a3 :: a4 :: a5 :: a6 :: a7 :: a8 :: a9 :: a10 :: a11 :: none :: t) st M cs ss) : AW Y R Q pc (a0 :: a1 :: a2 :: a3 :: a4 :: a5 :: a6 :: a7 :: a8 :: a9 :: a10 :: a11 :: a12 :: t) st M cs ss := sorry
theorem aw_istore13 (pc : Nat) {a0 a1 a2 a3 a4 a5 a6 a7 a8 a9 a10 a11 a12 a13 : Option Value} {t : List (Option Value)} {v : Int32} (hd : decode Y.2.1 pc = .ok (.istore 13, 2)) (hp : prevB a12 = true) (kk : AW Y R Q (pc + 2) (a0 :: a1 :: a2 :: a3 :: a4 :: a5 :: a6 :: a7 :: a8 :: a9 :: a10 :: a11 :: a12 :: some (.int v) :: t) st M cs ss) : AW Y R Q pc (a0 :: a1 :: a2 :: a3 :: a4 :: a5 :: a6 :: a7 :: a8 :: a9 :: a10 :: a11 :: a12 :: a13 :: t) (.int v :: st) M cs ss := sorry
theorem aw_astore13 (pc : Nat) {a0 a1 a2 a3 a4 a5 a6 a7 a8 a9 a10 a11 a12 a13 : Option Value} {t : List (Option Value)} {v : Nat} (hd : decode Y.2.1 pc = .ok (.astore 13, 2)) (hp : prevB a12 = true) (kk : AW Y R Q (pc + 2) (a0 :: a1 :: a2 :: a3 :: a4 :: a5 :: a6 :: a7 :: a8 :: a9 :: a10 :: a11 :: a12 :: some (.ref v) :: t) st M cs ss) : AW Y R Q pc (a0 :: a1 :: a2 :: a3 :: a4 :: a5 :: a6 :: a7 :: a8 :: a9 :: a10 :: a11 :: a12 :: a13 :: t) (.ref v :: st) M cs ss := sorry
theorem aw_astoreN13 (pc : Nat) {a0 a1 a2 a3 a4 a5 a6 a7 a8 a9 a10 a11 a12 a13 : Option Value} {t : List (Option Value)} (hd : decode Y.2.1 pc = .ok (.astore 13, 2)) (hp : prevB a12 = true) (kk : AW Y R Q (pc + 2) (a0 :: a1 :: a2 :: a3 :: a4 :: a5 :: a6 :: a7 :: a8 :: a9 :: a10 :: a11 :: a12 :: some .null :: t) st M cs ss) : AW Y R Q pc (a0 :: a1 :: a2 :: a3 :: a4 :: a5 :: a6 :: a7 :: a8 :: a9 :: a10 :: a11 :: a12 :: a13 :: t) (.null :: st) M cs ss := sorry
theorem aw_lstore13 (pc : Nat) {a0 a1 a2 a3 a4 a5 a6 a7 a8 a9 a10 a11 a12 a13 a14 : Option Value} {t : List (Option Value)} {v : Int64} (hd : decode Y.2.1 pc = .ok (.lstore 13, 2)) (hp : prevB a12 = true) (kk : AW Y R Q (pc + 2) (a0 :: a1 :: a2 :: a3 :: a4 :: a5 :: a6 :: a7 :: a8 :: a9 :: a10 :: a11 :: a12 :: some (.long v) :: none :: t) st M cs ss) : AW Y R Q pc (a0 :: a1 :: a2 :: a3 :: a4 :: a5 :: a6 :: a7 :: a8 :: a9 :: a10 :: a11 :: a12 :: a13 :: a14 :: t) (.long v :: st) M cs ss := sorry
theorem aw_iinc13 (pc : Nat) {a0 a1 a2 a3 a4 a5 a6 a7 a8 a9 a10 a11 a12 : Option Value} {t : List (Option Value)} {n : Int} {u : Int32} (v : Int32) (hd : decode Y.2.1 pc = .ok (.iinc 13 n, 3)) (hv : u + Int32.ofInt n = v) (hp : prevB a12 = true) (kk : AW Y R Q (pc + 3) (a0 :: a1 :: a2 :: a3 :: a4 :: a5 :: a6 :: a7 :: a8 :: a9 :: a10 :: a11 :: a12 :: some (.int v) :: t) st M cs ss) : AW Y R Q pc (a0 :: a1 :: a2 :: a3 :: a4 :: a5 :: a6 :: a7 :: a8 :: a9 :: a10 :: a11 :: a12 :: some (.int u) :: t) st M cs ss := sorry
theorem aw_drop13 {pc : Nat} {a0 a1 a2 a3 a4 a5 a6 a7 a8 a9 a10 a11 a12 a13 : Option Value} {t : List (Option Value)} (kk : AW Y R Q pc (a0 :: a1 :: a2 :: a3 :: a4 :: a5 :: a6 :: a7 :: a8 :: a9 :: a10 :: a11 :: a12 :: none :: t) st M cs ss) : AW Y R Q pc (a0 :: a1 :: a2 :: a3 :: a4 :: a5 :: a6 :: a7 :: a8 :: a9 :: a10 :: a11 :: a12 :: a13 :: t) st M cs ss := sorry
theorem aw_istore14 (pc : Nat) {a0 a1 a2 a3 a4 a5 a6 a7 a8 a9 a10 a11 a12 a13 a14 : Option Value} {t : List (Option Value)} {v : Int32} (hd : decode Y.2.1 pc = .ok (.istore 14, 2)) (hp : prevB a13 = true) (kk : AW Y R Q (pc + 2) (a0 :: a1 :: a2 :: a3 :: a4 :: a5 :: a6 :: a7 :: a8 :: a9 :: a10 :: a11 :: a12 :: a13 :: some (.int v) :: t) st M cs ss) : AW Y R Q pc (a0 :: a1 :: a2 :: a3 :: a4 :: a5 :: a6 :: a7 :: a8 :: a9 :: a10 :: a11 :: a12 :: a13 :: a14 :: t) (.int v :: st) M cs ss := sorry
theorem aw_astore14 (pc : Nat) {a0 a1 a2 a3 a4 a5 a6 a7 a8 a9 a10 a11 a12 a13 a14 : Option Value} {t : List (Option Value)} {v : Nat} (hd : decode Y.2.1 pc = .ok (.astore 14, 2)) (hp : prevB a13 = true) (kk : AW Y R Q (pc + 2) (a0 :: a1 :: a2 :: a3 :: a4 :: a5 :: a6 :: a7 :: a8 :: a9 :: a10 :: a11 :: a12 :: a13 :: some (.ref v) :: t) st M cs ss) : AW Y R Q pc (a0 :: a1 :: a2 :: a3 :: a4 :: a5 :: a6 :: a7 :: a8 :: a9 :: a10 :: a11 :: a12 :: a13 :: a14 :: t) (.ref v :: st) M cs ss := sorry
theorem aw_astoreN14 (pc : Nat) {a0 a1 a2 a3 a4 a5 a6 a7 a8 a9 a10 a11 a12 a13 a14 : Option Value} {t : List (Option Value)} (hd : decode Y.2.1 pc = .ok (.astore 14, 2)) (hp : prevB a13 = true) (kk : AW Y R Q (pc + 2) (a0 :: a1 :: a2 :: a3 :: a4 :: a5 :: a6 :: a7 :: a8 :: a9 :: a10 :: a11 :: a12 :: a13 :: some .null :: t) st M cs ss) : AW Y R Q pc (a0 :: a1 :: a2 :: a3 :: a4 :: a5 :: a6 :: a7 :: a8 :: a9 :: a10 :: a11 :: a12 :: a13 :: a14 :: t) (.null :: st) M cs ss := sorry
theorem aw_lstore14 (pc : Nat) {a0 a1 a2 a3 a4 a5 a6 a7 a8 a9 a10 a11 a12 a13 a14 a15 : Option Value} {t : List (Option Value)} {v : Int64} (hd : decode Y.2.1 pc = .ok (.lstore 14, 2)) (hp : prevB a13 = true) (kk : AW Y R Q (pc + 2) (a0 :: a1 :: a2 :: a3 :: a4 :: a5 :: a6 :: a7 :: a8 :: a9 :: a10 :: a11 :: a12 :: a13 :: some (.long v) :: none :: t) st M cs ss) : AW Y R Q pc (a0 :: a1 :: a2 :: a3 :: a4 :: a5 :: a6 :: a7 :: a8 :: a9 :: a10 :: a11 :: a12 :: a13 :: a14 :: a15 :: t) (.long v :: st) M cs ss := sorry
theorem aw_iinc14 (pc : Nat) {a0 a1 a2 a3 a4 a5 a6 a7 a8 a9 a10 a11 a12 a13 : Option Value} {t : List (Option Value)} {n : Int} {u : Int32} (v : Int32) (hd : decode Y.2.1 pc = .ok (.iinc 14 n, 3)) (hv : u + Int32.ofInt n = v) (hp : prevB a13 = true) (kk : AW Y R Q (pc + 3) (a0 :: a1 :: a2 :: a3 :: a4 :: a5 :: a6 :: a7 :: a8 :: a9 :: a10 :: a11 :: a12 :: a13 :: some (.int v) :: t) st M cs ss) : AW Y R Q pc (a0 :: a1 :: a2 :: a3 :: a4 :: a5 :: a6 :: a7 :: a8 :: a9 :: a10 :: a11 :: a12 :: a13 :: some (.int u) :: t) st M cs ss := sorry
theorem aw_drop14 {pc : Nat} {a0 a1 a2 a3 a4 a5 a6 a7 a8 a9 a10 a11 a12 a13 a14 : Option Value} {t : List (Option Value)} (kk : AW Y R Q pc (a0 :: a1 :: a2 :: a3 :: a4 :: a5 :: a6 :: a7 :: a8 :: a9 :: a10 :: a11 :: a12 :: a13 :: none :: t) st M cs ss) : AW Y R Q pc (a0 :: a1 :: a2 :: a3 :: a4 :: a5 :: a6 :: a7 :: a8 :: a9 :: a10 :: a11 :: a12 :: a13 :: a14 :: t) st M cs ss := sorry
theorem aw_istore15 (pc : Nat) {a0 a1 a2 a3 a4 a5 a6 a7 a8 a9 a10 a11 a12 a13 a14 a15 : Option Value} {t : List (Option Value)} {v : Int32} (hd : decode Y.2.1 pc = .ok (.istore 15, 2)) (hp : prevB a14 = true) (kk : AW Y R Q (pc + 2) (a0 :: a1 :: a2 :: a3 :: a4 :: a5 :: a6 :: a7 :: a8 :: a9 :: a10 :: a11 :: a12 :: a13 :: a14 :: some (.int v) :: t) st M cs ss) : AW Y R Q pc (a0 :: a1 :: a2 :: a3 :: a4 :: a5 :: a6 :: a7 :: a8 :: a9 :: a10 :: a11 :: a12 :: a13 :: a14 :: a15 :: t) (.int v :: st) M cs ss := sorry
theorem aw_astore15 (pc : Nat) {a0 a1 a2 a3 a4 a5 a6 a7 a8 a9 a10 a11 a12 a13 a14 a15 : Option Value} {t : List (Option Value)} {v : Nat} (hd : decode Y.2.1 pc = .ok (.astore 15, 2)) (hp : prevB a14 = true) (kk : AW Y R Q (pc + 2) (a0 :: a1 :: a2 :: a3 :: a4 :: a5 :: a6 :: a7 :: a8 :: a9 :: a10 :: a11 :: a12 :: a13 :: a14 :: some (.ref v) :: t) st M cs ss) : AW Y R Q pc (a0 :: a1 :: a2 :: a3 :: a4 :: a5 :: a6 :: a7 :: a8 :: a9 :: a10 :: a11 :: a12 :: a13 :: a14 :: a15 :: t) (.ref v :: st) M cs ss := sorry
theorem aw_astoreN15 (pc : Nat) {a0 a1 a2 a3 a4 a5 a6 a7 a8 a9 a10 a11 a12 a13 a14 a15 : Option Value} {t : List (Option Value)} (hd : decode Y.2.1 pc = .ok (.astore 15, 2)) (hp : prevB a14 = true) (kk : AW Y R Q (pc + 2) (a0 :: a1 :: a2 :: a3 :: a4 :: a5 :: a6 :: a7 :: a8 :: a9 :: a10 :: a11 :: a12 :: a13 :: a14 :: some .null :: t) st M cs ss) : AW Y R Q pc (a0 :: a1 :: a2 :: a3 :: a4 :: a5 :: a6 :: a7 :: a8 :: a9 :: a10 :: a11 :: a12 :: a13 :: a14 :: a15 :: t) (.null :: st) M cs ss := sorry
theorem aw_lstore15 (pc : Nat) {a0 a1 a2 a3 a4 a5 a6 a7 a8 a9 a10 a11 a12 a13 a14 a15 a16 : Option Value} {t : List (Option Value)} {v : Int64} (hd : decode Y.2.1 pc = .ok (.lstore 15, 2)) (hp : prevB a14 = true) (kk : AW Y R Q (pc + 2) (a0 :: a1 :: a2 :: a3 :: a4 :: a5 :: a6 :: a7 :: a8 :: a9 :: a10 :: a11 :: a12 :: a13 :: a14 :: some (.long v) :: none :: t) st M cs ss) : AW Y R Q pc (a0 :: a1 :: a2 :: a3 :: a4 :: a5 :: a6 :: a7 :: a8 :: a9 :: a10 :: a11 :: a12 :: a13 :: a14 :: a15 :: a16 :: t) (.long v :: st) M cs ss := sorry
theorem aw_iinc15 (pc : Nat) {a0 a1 a2 a3 a4 a5 a6 a7 a8 a9 a10 a11 a12 a13 a14 : Option Value} {t : List (Option Value)} {n : Int} {u : Int32} (v : Int32) (hd : decode Y.2.1 pc = .ok (.iinc 15 n, 3)) (hv : u + Int32.ofInt n = v) (hp : prevB a14 = true) (kk : AW Y R Q (pc + 3) (a0 :: a1 :: a2 :: a3 :: a4 :: a5 :: a6 :: a7 :: a8 :: a9 :: a10 :: a11 :: a12 :: a13 :: a14 :: some (.int v) :: t) st M cs ss) : AW Y R Q pc (a0 :: a1 :: a2 :: a3 :: a4 :: a5 :: a6 :: a7 :: a8 :: a9 :: a10 :: a11 :: a12 :: a13 :: a14 :: some (.int u) :: t) st M cs ss := sorry
theorem aw_drop15 {pc : Nat} {a0 a1 a2 a3 a4 a5 a6 a7 a8 a9 a10 a11 a12 a13 a14 a15 : Option Value} {t : List (Option Value)} (kk : AW Y R Q pc (a0 :: a1 :: a2 :: a3 :: a4 :: a5 :: a6 :: a7 :: a8 :: a9 :: a10 :: a11 :: a12 :: a13 :: a14 :: none :: t) st M cs ss) : AW Y R Q pc (a0 :: a1 :: a2 :: a3 :: a4 :: a5 :: a6 :: a7 :: a8 :: a9 :: a10 :: a11 :: a12 :: a13 :: a14 :: a15 :: t) st M cs ss := sorry
theorem aw_istore16 (pc : Nat) {a0 a1 a2 a3 a4 a5 a6 a7 a8 a9 a10 a11 a12 a13 a14 a15 a16 : Option Value} {t : List (Option Value)} {v : Int32} (hd : decode Y.2.1 pc = .ok (.istore 16, 2)) (hp : prevB a15 = true) (kk : AW Y R Q (pc + 2) (a0 :: a1 :: a2 :: a3 :: a4 :: a5 :: a6 :: a7 :: a8 :: a9 :: a10 :: a11 :: a12 :: a13 :: a14 :: a15 :: some (.int v) :: t) st M cs ss) : AW Y R Q pc (a0 :: a1 :: a2 :: a3 :: a4 :: a5 :: a6 :: a7 :: a8 :: a9 :: a10 :: a11 :: a12 :: a13 :: a14 :: a15 :: a16 :: t) (.int v :: st) M cs ss := sorry
theorem aw_astore16 (pc : Nat) {a0 a1 a2 a3 a4 a5 a6 a7 a8 a9 a10 a11 a12 a13 a14 a15 a16 : Option Value} {t : List (Option Value)} {v : Nat} (hd : decode Y.2.1 pc = .ok (.astore 16, 2)) (hp : prevB a15 = true) (kk : AW Y R Q (pc + 2) (a0 :: a1 :: a2 :: a3 :: a4 :: a5 :: a6 :: a7 :: a8 :: a9 :: a10 :: a11 :: a12 :: a13 :: a14 :: a15 :: some (.ref v) :: t) st M cs ss) : AW Y R Q pc (a0 :: a1 :: a2 :: a3 :: a4 :: a5 :: a6 :: a7 :: a8 :: a9 :: a10 :: a11 :: a12 :: a13 :: a14 :: a15 :: a16 :: t) (.ref v :: st) M cs ss := sorry
theorem aw_astoreN16 (pc : Nat) {a0 a1 a2 a3 a4 a5 a6 a7 a8 a9 a10 a11 a12 a13 a14 a15 a16 : Option Value} {t : List (Option Value)} (hd : decode Y.2.1 pc = .ok (.astore 16, 2)) (hp : prevB a15 = true) (kk : AW Y R Q (pc + 2) (a0 :: a1 :: a2 :: a3 :: a4 :: a5 :: a6 :: a7 :: a8 :: a9 :: a10 :: a11 :: a12 :: a13 :: a14 :: a15 :: some .null :: t) st M cs ss) : AW Y R Q pc (a0 :: a1 :: a2 :: a3 :: a4 :: a5 :: a6 :: a7 :: a8 :: a9 :: a10 :: a11 :: a12 :: a13 :: a14 :: a15 :: a16 :: t) (.null :: st) M cs ss := sorry
theorem aw_lstore16 (pc : Nat) {a0 a1 a2 a3 a4 a5 a6 a7 a8 a9 a10 a11 a12 a13 a14 a15 a16 a17 : Option Value} {t : List (Option Value)} {v : Int64} (hd : decode Y.2.1 pc = .ok (.lstore 16, 2)) (hp : prevB a15 = true) (kk : AW Y R Q (pc + 2) (a0 :: a1 :: a2 :: a3 :: a4 :: a5 :: a6 :: a7 :: a8 :: a9 :: a10 :: a11 :: a12 :: a13 :: a14 :: a15 :: some (.long v) :: none :: t) st M cs ss) : AW Y R Q pc (a0 :: a1 :: a2 :: a3 :: a4 :: a5 :: a6 :: a7 :: a8 :: a9 :: a10 :: a11 :: a12 :: a13 :: a14 :: a15 :: a16 :: a17 :: t) (.long v :: st) M cs ss := sorry
theorem aw_iinc16 (pc : Nat) {a0 a1 a2 a3 a4 a5 a6 a7 a8 a9 a10 a11 a12 a13 a14 a15 : Option Value} {t : List (Option Value)} {n : Int} {u : Int32} (v : Int32) (hd : decode Y.2.1 pc = .ok (.iinc 16 n, 3)) (hv : u + Int32.ofInt n = v) (hp : prevB a15 = true) (kk : AW Y R Q (pc + 3) (a0 :: a1 :: a2 :: a3 :: a4 :: a5 :: a6 :: a7 :: a8 :: a9 :: a10 :: a11 :: a12 :: a13 :: a14 :: a15 :: some (.int v) :: t) st M cs ss) : AW Y R Q pc (a0 :: a1 :: a2 :: a3 :: a4 :: a5 :: a6 :: a7 :: a8 :: a9 :: a10 :: a11 :: a12 :: a13 :: a14 :: a15 :: some (.int u) :: t) st M cs ss := sorry
theorem aw_drop16 {pc : Nat} {a0 a1 a2 a3 a4 a5 a6 a7 a8 a9 a10 a11 a12 a13 a14 a15 a16 : Option Value} {t : List (Option Value)} (kk : AW Y R Q pc (a0 :: a1 :: a2 :: a3 :: a4 :: a5 :: a6 :: a7 :: a8 :: a9 :: a10 :: a11 :: a12 :: a13 :: a14 :: a15 :: none :: t) st M cs ss) : AW Y R Q pc (a0 :: a1 :: a2 :: a3 :: a4 :: a5 :: a6 :: a7 :: a8 :: a9 :: a10 :: a11 :: a12 :: a13 :: a14 :: a15 :: a16 :: t) st M cs ss := sorry
theorem aw_iadd (pc : Nat) {x1 y1 : Int32} (hd : decode Y.2.1 pc = .ok (.iadd, 1)) (kk : AW Y R Q (pc + 1) ls (.int (x1 + y1) :: st) M cs ss) : AW Y R Q pc ls (.int y1 :: .int x1 :: st) M cs ss := sorry
theorem aw_isub (pc : Nat) {x1 y1 : Int32} (hd : decode Y.2.1 pc = .ok (.isub, 1)) (kk : AW Y R Q (pc + 1) ls (.int (x1 - y1) :: st) M cs ss) : AW Y R Q pc ls (.int y1 :: .int x1 :: st) M cs ss := sorry
theorem aw_imul (pc : Nat) {x1 y1 : Int32} (hd : decode Y.2.1 pc = .ok (.imul, 1)) (kk : AW Y R Q (pc + 1) ls (.int (x1 * y1) :: st) M cs ss) : AW Y R Q pc ls (.int y1 :: .int x1 :: st) M cs ss := sorry
theorem aw_iand (pc : Nat) {x1 y1 : Int32} (hd : decode Y.2.1 pc = .ok (.iand, 1)) (kk : AW Y R Q (pc + 1) ls (.int (x1 &&& y1) :: st) M cs ss) : AW Y R Q pc ls (.int y1 :: .int x1 :: st) M cs ss := sorry
theorem aw_ior (pc : Nat) {x1 y1 : Int32} (hd : decode Y.2.1 pc = .ok (.ior, 1)) (kk : AW Y R Q (pc + 1) ls (.int (x1 ||| y1) :: st) M cs ss) : AW Y R Q pc ls (.int y1 :: .int x1 :: st) M cs ss := sorry
theorem aw_ixor (pc : Nat) {x1 y1 : Int32} (hd : decode Y.2.1 pc = .ok (.ixor, 1)) (kk : AW Y R Q (pc + 1) ls (.int (x1 ^^^ y1) :: st) M cs ss) : AW Y R Q pc ls (.int y1 :: .int x1 :: st) M cs ss := sorry
theorem aw_ishl (pc : Nat) {x1 y1 : Int32} (hd : decode Y.2.1 pc = .ok (.ishl, 1)) (kk : AW Y R Q (pc + 1) ls (.int (x1 <<< (y1 &&& 31)) :: st) M cs ss) : AW Y R Q pc ls (.int y1 :: .int x1 :: st) M cs ss := sorry
theorem aw_ishr (pc : Nat) {x1 y1 : Int32} (hd : decode Y.2.1 pc = .ok (.ishr, 1)) (kk : AW Y R Q (pc + 1) ls (.int (x1 >>> (y1 &&& 31)) :: st) M cs ss) : AW Y R Q pc ls (.int y1 :: .int x1 :: st) M cs ss := sorry
theorem aw_idiv (pc : Nat) {x1 y1 : Int32} (hd : decode Y.2.1 pc = .ok (.idiv, 1)) (hne : ¬ y1 = 0) (kk : AW Y R Q (pc + 1) ls (.int (x1 / y1) :: st) M cs ss) : AW Y R Q pc ls (.int y1 :: .int x1 :: st) M cs ss := sorry
theorem aw_irem (pc : Nat) {x1 y1 : Int32} (hd : decode Y.2.1 pc = .ok (.irem, 1)) (hne : ¬ y1 = 0) (kk : AW Y R Q (pc + 1) ls (.int (x1 - x1 / y1 * y1) :: st) M cs ss) : AW Y R Q pc ls (.int y1 :: .int x1 :: st) M cs ss := sorry
theorem aw_ineg (pc : Nat) {x1 : Int32} (hd : decode Y.2.1 pc = .ok (.ineg, 1)) (kk : AW Y R Q (pc + 1) ls (.int (-x1) :: st) M cs ss) : AW Y R Q pc ls (.int x1 :: st) M cs ss := sorry
theorem aw_ladd (pc : Nat) {x1 y1 : Int64} (hd : decode Y.2.1 pc = .ok (.ladd, 1)) (kk : AW Y R Q (pc + 1) ls (.long (x1 + y1) :: st) M cs ss) : AW Y R Q pc ls (.long y1 :: .long x1 :: st) M cs ss := sorry
theorem aw_lsub (pc : Nat) {x1 y1 : Int64} (hd : decode Y.2.1 pc = .ok (.lsub, 1)) (kk : AW Y R Q (pc + 1) ls (.long (x1 - y1) :: st) M cs ss) : AW Y R Q pc ls (.long y1 :: .long x1 :: st) M cs ss := sorry
theorem aw_lmul (pc : Nat) {x1 y1 : Int64} (hd : decode Y.2.1 pc = .ok (.lmul, 1)) (kk : AW Y R Q (pc + 1) ls (.long (x1 * y1) :: st) M cs ss) : AW Y R Q pc ls (.long y1 :: .long x1 :: st) M cs ss := sorry
theorem aw_ldiv (pc : Nat) {x1 y1 : Int64} (hd : decode Y.2.1 pc = .ok (.ldiv, 1)) (hne : ¬ y1 = 0) (kk : AW Y R Q (pc + 1) ls (.long (x1 / y1) :: st) M cs ss) : AW Y R Q pc ls (.long y1 :: .long x1 :: st) M cs ss := sorry
theorem aw_lrem (pc : Nat) {x1 y1 : Int64} (hd : decode Y.2.1 pc = .ok (.lrem, 1)) (hne : ¬ y1 = 0) (kk : AW Y R Q (pc + 1) ls (.long (x1 - x1 / y1 * y1) :: st) M cs ss) : AW Y R Q pc ls (.long y1 :: .long x1 :: st) M cs ss := sorry
theorem aw_lcmp (pc : Nat) {x1 y1 : Int64} (hd : decode Y.2.1 pc = .ok (.lcmp, 1)) (kk : AW Y R Q (pc + 1) ls (.int (lg_cmp x1 y1) :: st) M cs ss) : AW Y R Q pc ls (.long y1 :: .long x1 :: st) M cs ss := sorry
theorem aw_i2l (pc : Nat) {x1 : Int32} (hd : decode Y.2.1 pc = .ok (.i2l, 1)) (kk : AW Y R Q (pc + 1) ls (.long x1.toInt64 :: st) M cs ss) : AW Y R Q pc ls (.int x1 :: st) M cs ss := sorry
theorem aw_l2i (pc : Nat) {x1 : Int64} (hd : decode Y.2.1 pc = .ok (.l2i, 1)) (kk : AW Y R Q (pc + 1) ls (.int x1.toInt32 :: st) M cs ss) : AW Y R Q pc ls (.long x1 :: st) M cs ss := sorry
theorem aw_i2b (pc : Nat) {x1 : Int32} (hd : decode Y.2.1 pc = .ok (.i2b, 1)) (kk : AW Y R Q (pc + 1) ls (.int x1.toInt8.toInt32 :: st) M cs ss) : AW Y R Q pc ls (.int x1 :: st) M cs ss := sorry
theorem aw_i2s (pc : Nat) {x1 : Int32} (hd : decode Y.2.1 pc = .ok (.i2s, 1)) (kk : AW Y R Q (pc + 1) ls (.int x1.toInt16.toInt32 :: st) M cs ss) : AW Y R Q pc ls (.int x1 :: st) M cs ss := sorry
theorem aw_lshl (pc : Nat) {x1 : Int64} {y1 : Int32} (hd : decode Y.2.1 pc = .ok (.lshl, 1)) (kk : AW Y R Q (pc + 1) ls (.long (x1 <<< (y1.toInt64 &&& 63)) :: st) M cs ss) : AW Y R Q pc ls (.int y1 :: .long x1 :: st) M cs ss := sorry
theorem aw_dup (pc : Nat) {v : Value} (hd : decode Y.2.1 pc = .ok (.dup, 1)) (hv : v.category = 1) (kk : AW Y R Q (pc + 1) ls (v :: v :: st) M cs ss) : AW Y R Q pc ls (v :: st) M cs ss := sorry
theorem aw_pop (pc : Nat) {v : Value} (hd : decode Y.2.1 pc = .ok (.pop, 1)) (hv : v.category = 1) (kk : AW Y R Q (pc + 1) ls (st) M cs ss) : AW Y R Q pc ls (v :: st) M cs ss := sorry
theorem aw_dup_x1 (pc : Nat) {v u : Value} (hd : decode Y.2.1 pc = .ok (.dup_x1, 1)) (hv : v.category = 1) (hu : u.category = 1) (kk : AW Y R Q (pc + 1) ls (v :: u :: v :: st) M cs ss) : AW Y R Q pc ls (v :: u :: st) M cs ss := sorry
theorem aw_icmp_eq (pc tgt : Nat) {x1 y1 : Int32} {off : Int} (hd : decode Y.2.1 pc = .ok (.if_icmp .eq off, 3)) (ht : (pc : Int) + off = (tgt : Int)) (kt : x1 = y1 → AW Y R Q tgt ls st M cs ss) (kf : ¬ x1 = y1 → AW Y R Q (pc + 3) ls st M cs ss) : AW Y R Q pc ls (.int y1 :: .int x1 :: st) M cs ss := sorry
theorem aw_if_eq (pc tgt : Nat) {x1 : Int32} {off : Int} (hd : decode Y.2.1 pc = .ok (.ifCond .eq off, 3)) (ht : (pc : Int) + off = (tgt : Int)) (kt : x1 = 0 → AW Y R Q tgt ls st M cs ss) (kf : ¬ x1 = 0 → AW Y R Q (pc + 3) ls st M cs ss) : AW Y R Q pc ls (.int x1 :: st) M cs ss := sorry
theorem aw_icmp_ne (pc tgt : Nat) {x1 y1 : Int32} {off : Int} (hd : decode Y.2.1 pc = .ok (.if_icmp .ne off, 3)) (ht : (pc : Int) + off = (tgt : Int)) (kt : ¬ x1 = y1 → AW Y R Q tgt ls st M cs ss) (kf : x1 = y1 → AW Y R Q (pc + 3) ls st M cs ss) : AW Y R Q pc ls (.int y1 :: .int x1 :: st) M cs ss := sorry
theorem aw_if_ne (pc tgt : Nat) {x1 : Int32} {off : Int} (hd : decode Y.2.1 pc = .ok (.ifCond .ne off, 3)) (ht : (pc : Int) + off = (tgt : Int)) (kt : ¬ x1 = 0 → AW Y R Q tgt ls st M cs ss) (kf : x1 = 0 → AW Y R Q (pc + 3) ls st M cs ss) : AW Y R Q pc ls (.int x1 :: st) M cs ss := sorry
theorem aw_icmp_lt (pc tgt : Nat) {x1 y1 : Int32} {off : Int} (hd : decode Y.2.1 pc = .ok (.if_icmp .lt off, 3)) (ht : (pc : Int) + off = (tgt : Int)) (kt : x1 < y1 → AW Y R Q tgt ls st M cs ss) (kf : ¬ x1 < y1 → AW Y R Q (pc + 3) ls st M cs ss) : AW Y R Q pc ls (.int y1 :: .int x1 :: st) M cs ss := sorry
theorem aw_if_lt (pc tgt : Nat) {x1 : Int32} {off : Int} (hd : decode Y.2.1 pc = .ok (.ifCond .lt off, 3)) (ht : (pc : Int) + off = (tgt : Int)) (kt : x1 < 0 → AW Y R Q tgt ls st M cs ss) (kf : ¬ x1 < 0 → AW Y R Q (pc + 3) ls st M cs ss) : AW Y R Q pc ls (.int x1 :: st) M cs ss := sorry
theorem aw_icmp_ge (pc tgt : Nat) {x1 y1 : Int32} {off : Int} (hd : decode Y.2.1 pc = .ok (.if_icmp .ge off, 3)) (ht : (pc : Int) + off = (tgt : Int)) (kt : y1 ≤ x1 → AW Y R Q tgt ls st M cs ss) (kf : ¬ y1 ≤ x1 → AW Y R Q (pc + 3) ls st M cs ss) : AW Y R Q pc ls (.int y1 :: .int x1 :: st) M cs ss := sorry
theorem aw_if_ge (pc tgt : Nat) {x1 : Int32} {off : Int} (hd : decode Y.2.1 pc = .ok (.ifCond .ge off, 3)) (ht : (pc : Int) + off = (tgt : Int)) (kt : 0 ≤ x1 → AW Y R Q tgt ls st M cs ss) (kf : ¬ 0 ≤ x1 → AW Y R Q (pc + 3) ls st M cs ss) : AW Y R Q pc ls (.int x1 :: st) M cs ss := sorry
theorem aw_icmp_gt (pc tgt : Nat) {x1 y1 : Int32} {off : Int} (hd : decode Y.2.1 pc = .ok (.if_icmp .gt off, 3)) (ht : (pc : Int) + off = (tgt : Int)) (kt : y1 < x1 → AW Y R Q tgt ls st M cs ss) (kf : ¬ y1 < x1 → AW Y R Q (pc + 3) ls st M cs ss) : AW Y R Q pc ls (.int y1 :: .int x1 :: st) M cs ss := sorry
theorem aw_if_gt (pc tgt : Nat) {x1 : Int32} {off : Int} (hd : decode Y.2.1 pc = .ok (.ifCond .gt off, 3)) (ht : (pc : Int) + off = (tgt : Int)) (kt : 0 < x1 → AW Y R Q tgt ls st M cs ss) (kf : ¬ 0 < x1 → AW Y R Q (pc + 3) ls st M cs ss) : AW Y R Q pc ls (.int x1 :: st) M cs ss := sorry
theorem aw_icmp_le (pc tgt : Nat) {x1 y1 : Int32} {off : Int} (hd : decode Y.2.1 pc = .ok (.if_icmp .le off, 3)) (ht : (pc : Int) + off = (tgt : Int)) (kt : x1 ≤ y1 → AW Y R Q tgt ls st M cs ss) (kf : ¬ x1 ≤ y1 → AW Y R Q (pc + 3) ls st M cs ss) : AW Y R Q pc ls (.int y1 :: .int x1 :: st) M cs ss := sorry
theorem aw_if_le (pc tgt : Nat) {x1 : Int32} {off : Int} (hd : decode Y.2.1 pc = .ok (.ifCond .le off, 3)) (ht : (pc : Int) + off = (tgt : Int)) (kt : x1 ≤ 0 → AW Y R Q tgt ls st M cs ss) (kf : ¬ x1 ≤ 0 → AW Y R Q (pc + 3) ls st M cs ss) : AW Y R Q pc ls (.int x1 :: st) M cs ss := sorry
theorem aw_goto (pc tgt : Nat) {off : Int} (hd : decode Y.2.1 pc = .ok (.goto off, 3)) (ht : (pc : Int) + off = (tgt : Int)) (kk : AW Y R Q tgt ls st M cs ss) : AW Y R Q pc ls st M cs ss := sorry
theorem aw_ifnull (pc : Nat) {a : Nat} {off : Int} (hd : decode Y.2.1 pc = .ok (.ifnull off, 3)) (kk : AW Y R Q (pc + 3) ls st M cs ss) : AW Y R Q pc ls (.ref a :: st) M cs ss := sorry
theorem aw_ifnonnull (pc tgt : Nat) {a : Nat} {off : Int} (hd : decode Y.2.1 pc = .ok (.ifnonnull off, 3)) (ht : (pc : Int) + off = (tgt : Int)) (kk : AW Y R Q tgt ls st M cs ss) : AW Y R Q pc ls (.ref a :: st) M cs ss := sorry
theorem aw_ifnullN (pc tgt : Nat) {off : Int} (hd : decode Y.2.1 pc = .ok (.ifnull off, 3)) (ht : (pc : Int) + off = (tgt : Int)) (kk : AW Y R Q tgt ls st M cs ss) : AW Y R Q pc ls (.null :: st) M cs ss := sorry
theorem aw_ifnonnullN (pc : Nat) {off : Int} (hd : decode Y.2.1 pc = .ok (.ifnonnull off, 3)) (kk : AW Y R Q (pc + 3) ls st M cs ss) : AW Y R Q pc ls (.null :: st) M cs ss := sorry
theorem aw_tabOut (pc tgt : Nat) {dflt lo hi : Int} {offs : Array Int} {len : Nat} {x1 : Int32} (hd : decode Y.2.1 pc = .ok (.tableswitch dflt lo hi offs, len)) (h : x1.toInt < lo ∨ hi < x1.toInt) (ht : (pc : Int) + dflt = (tgt : Int)) (kk : AW Y R Q tgt ls st M cs ss) : AW Y R Q pc ls (.int x1 :: st) M cs ss := sorry
theorem aw_tabIn (pc tgt : Nat) {dflt lo hi : Int} {offs : Array Int} {len : Nat} {x1 : Int32} {off : Int} (hd : decode Y.2.1 pc = .ok (.tableswitch dflt lo hi offs, len)) (h1 : ¬ x1.toInt < lo) (h2 : ¬ hi < x1.toInt) (ho : offs[(x1.toInt - lo).toNat]? = some off) (ht : (pc : Int) + off = (tgt : Int)) (kk : AW Y R Q tgt ls st M cs ss) : AW Y R Q pc ls (.int x1 :: st) M cs ss := sorry
theorem aw_lookup (pc tgt : Nat) {dflt : Int} {ps : Array (Int × Int)} {len : Nat} {x1 : Int32} {off : Int} (hd : decode Y.2.1 pc = .ok (.lookupswitch dflt ps, len)) (hp : (ps.toList.zip (ps.toList.drop 1)).all (fun (a, next) => a.1 < next.1) = true) (ho : Op.lookupswitch.offset ps.toList dflt x1.toInt = off) (ht : (pc : Int) + off = (tgt : Int)) (kk : AW Y R Q tgt ls st M cs ss) : AW Y R Q pc ls (.int x1 :: st) M cs ss := sorry
theorem aw_st {pc : Nat} {st2 : List Value} (h : st = st2) (kk : AW Y R Q pc ls st2 M cs ss) : AW Y R Q pc ls st M cs ss := sorry
theorem aw_cs {pc cs2 ss2 : Nat} (h1 : cs ≤ cs2) (h2 : ss ≤ ss2) (kk : AW Y R Q pc ls st M cs2 ss2) : AW Y R Q pc ls st M cs ss := sorry
theorem aw_mono {pc : Nat} {Q2 : Option Value → Mem → Prop} (h : ∀ r N, Q2 r N → Q r N) (kk : AW Y R Q2 pc ls st M cs ss) : AW Y R Q pc ls st M cs ss := sorry
theorem am_mono {rm : Room} {as : List Value} {Q2 : Option Value → Mem → Prop} (h : ∀ r N, Q2 r N → Q r N) (kk : AM Y rm as M Q2) : AM Y rm as M Q := sorry
theorem aw_iret (pc : Nat) {v : Int32} (hd : decode Y.2.1 pc = .ok (.ireturn, 1)) (hr : Y.2.2.2 = some .int) (hc : cs ≤ R.cells) (hs : ss ≤ R.slots) (hQ : Q (some (.int v)) M) : AW Y R Q pc ls (.int v :: []) M cs ss := sorry
theorem aw_zret (pc : Nat) {v : Int32} (hd : decode Y.2.1 pc = .ok (.ireturn, 1)) (hr : Y.2.2.2 = some .boolean) (hn : narrow .boolean (.int v) = .int v) (hc : cs ≤ R.cells) (hs : ss ≤ R.slots) (hQ : Q (some (.int v)) M) : AW Y R Q pc ls (.int v :: []) M cs ss := sorry
theorem aw_lret (pc : Nat) {v : Int64} (hd : decode Y.2.1 pc = .ok (.lreturn, 1)) (hr : Y.2.2.2 = some .long) (hc : cs ≤ R.cells) (hs : ss ≤ R.slots) (hQ : Q (some (.long v)) M) : AW Y R Q pc ls (.long v :: []) M cs ss := sorry
theorem aw_vret (pc : Nat) (hd : decode Y.2.1 pc = .ok (.return_, 1)) (hr : Y.2.2.2 = none) (hc : cs ≤ R.cells) (hs : ss ≤ R.slots) (hQ : Q none M) : AW Y R Q pc ls [] M cs ss := sorry
theorem aw_aret (pc : Nat) {v : Nat} {rt : FieldType} (hd : decode Y.2.1 pc = .ok (.areturn, 1)) (hr : Y.2.2.2 = some rt) (hrt : (∃ n, rt = .object n) ∨ ∃ t, rt = .array t) (hc : cs ≤ R.cells) (hs : ss ≤ R.slots) (hQ : Q (some (.ref v)) M) : AW Y R Q pc ls (.ref v :: []) M cs ss := sorry
theorem aw_aretN (pc : Nat) {rt : FieldType} (hd : decode Y.2.1 pc = .ok (.areturn, 1)) (hr : Y.2.2.2 = some rt) (hrt : (∃ n, rt = .object n) ∨ ∃ t, rt = .array t) (hc : cs ≤ R.cells) (hs : ss ≤ R.slots) (hQ : Q (some .null) M) : AW Y R Q pc ls (.null :: []) M cs ss := sorry
end
end
section
/-! rules of the abstract machine for instructions that touch cells -/
def wa (M : Mem) (a : Nat) (f : Nat → Value) : Mem := (M.1, M.2.1, fun b => if b = a then f else M.2.2 b)
def up (f : Nat → Value) (k : Nat) (v : Value) : Nat → Value := fun j => if j = k then v else f j
def wr (M : Mem) (a k : Nat) (v : Value) : Mem := wa M a (up (M.2.2 a) k v)
def nw (M : Mem) (kn : Nat × Nat) (f : Nat → Value) : Mem := (M.1 + 1, fun b => if b = M.1 then kn else M.2.1 b, fun b => if b = M.1 then f else M.2.2 b)
def tyCl (ci : Nat) : Nat → FieldType := match ci with
  | 0 => tyX0
  | 1 => tyX1
  | 2 => tyX2
  | 3 => tyX3
  | 4 => tyX4
  | 5 => tyX5
  | 6 => tyX6
  | 7 => tyX7
  | 8 => tyX8
  | 9 => tyX9
  | 10 => tyX10
  | 11 => tyX11
  | _ => tyX12
theorem cl_in0 : (vwCl.all (fun r => (u_ws r.1 r.2.1 r.2.2).all (fun w => decide (w ∈ lw_tbl) && goodWord w))) = true := sorry
theorem cl_ty0 : ((List.range 13).all (fun ci => match vwCl[ci]? with
  | some r => (List.range r.2.2).all (fun k => decide (parseFieldDescriptor (r.2.1 k).2.2.1 = some (tyCl ci k)))
  | none => false)) = true := sorry
theorem cl_nm0 : ((List.range 13).all (fun ci => match vwCl[ci]? with
  | some r => (List.range r.2.2).all (fun a => (List.range r.2.2).all (fun b => decide (a = b) || decide ((r.2.1 a).2.1 ≠ (r.2.1 b).2.1)))
  | none => false)) = true := sorry
theorem cl_lt {ci : Nat} {r : vw_C} (h : vwCl[ci]? = some r) : ci < 13 := sorry
theorem cl_in {ci : Nat} {r : vw_C} (h : vwCl[ci]? = some r) : ∀ w ∈ u_ws r.1 r.2.1 r.2.2, w ∈ gtbl := sorry
theorem cl_ty {ci : Nat} {r : vw_C} (h : vwCl[ci]? = some r) : ∀ k, k < r.2.2 → parseFieldDescriptor (r.2.1 k).2.2.1 = some (tyCl ci k) := sorry
theorem cl_nm {ci : Nat} {r : vw_C} (h : vwCl[ci]? = some r) : ∀ a, a < r.2.2 → ∀ b, b < r.2.2 → a ≠ b → (r.2.1 a).2.1 ≠ (r.2.1 b).2.1 := sorry
theorem cv_ok (x : CX) {ty : FieldType} {v : Value} (hn : narrow ty v = v) (hf : fits ty v = true) : narrow ty (cv x v) = cv x v ∧ fits ty (cv x v) = true := sorry
theorem cv_default (x : CX) (ty : FieldType) : cv x (defaultValue ty) = defaultValue ty := sorry
/-- the memory behind a write, over a heap in which one cell has changed -/
theorem Rep.put {x : CX} {M : Mem} {H H1 : Heap} {a : Nat} {f : Nat → Value} (h : Rep x M H) (ha : 2 ≤ a) (hz : H1.size = H.size) (ho : ∀ q : Nat, q ≠ ad x a → H1[q]? = H[q]?) (hc : rcell x a (M.2.1 a) f H1) : Rep x (wa M a f) H1 := sorry
theorem Rep.new {x : CX} {M : Mem} {H H1 : Heap} {kn : Nat × Nat} {f : Nat → Value} (h : Rep x M H) (hz : H1.size = H.size + 1) (ho : ∀ q : Nat, q < H.size → H1[q]? = H[q]?) (hc : rcell x M.1 kn f H1) : Rep x (nw M kn f) H1 := sorry
theorem Rep.top {x : CX} {M : Mem} {H : Heap} (h : Rep x M H) : ad x M.1 = H.size := sorry
theorem Rep.obj {x : CX} {M : Mem} {H : Heap} {a ci N : Nat} {r : vw_C} (h : Rep x M H) (hk : M.2.1 a = (ci, N)) (hr : vwCl[ci]? = some r) : 2 ≤ a ∧ r.2.2 = N ∧ t_OB (ad x a) ((xD x).1 ci) N ((xD x).2 ci) H (fun k => cv x (M.2.2 a k)) := sorry
/-- an array that is read -/
theorem Rep.iarr {x : CX} {M : Mem} {H : Heap} {a n : Nat} {s : State} (h : Rep x M H) (hK : KN x s) (hk : M.2.1 a = (20, n)) : ∃ cell : Cell, H[ad x a]? = some cell ∧ s.isArrayOf cell .int ∧ cell.vm ≠ .unknown ∧ cell.slots.size = n ∧ ∀ j : Nat, j < n → cell.slots[j]? = some (cv x (M.2.2 a j)) := sorry
theorem Rep.arr2 {x : CX} {M : Mem} {H : Heap} {a k n : Nat} (h : Rep x M H) (ha : 2 ≤ a) (h20 : 20 ≤ k) (h25 : k < 25) (hk : M.2.1 a = (k, n)) : H[ad x a]? = some (arrV (xA x k) n (fun j => cv x (M.2.2 a j))) := sorry
theorem xT_at {x : CX} {k : Nat} (h20 : 20 ≤ k) (h25 : k < 25) : (xT x)[k - 20]? = some (xA x k, akT k) := sorry
def ckF (own : String) (idx ci k : Nat) : Bool := match vwCl[ci]? with
  | some r => decide (k < r.2.2) && decide (Cond.fieldLink own idx (r.2.1 k).1 (r.2.1 k).2.1 (r.2.1 k).2.2.1 ∈ lw_tbl)
  | none => false
theorem ckF_ok {own : String} {idx ci k : Nat} (h : ckF own idx ci k = true) : ∃ r : vw_C, vwCl[ci]? = some r ∧ k < r.2.2 ∧ Cond.fieldLink own idx (r.2.1 k).1 (r.2.1 k).2.1 (r.2.1 k).2.2.1 ∈ gtbl := sorry
/-- the field may be written anywhere -/
def ckP (ci k : Nat) : Bool := match vwCl[ci]? with
  | some r => (r.2.1 k).2.2.2 == false
  | none => false
/-- the field is final and of this class -/
def ckQ (own : String) (ci k : Nat) : Bool := match vwCl[ci]? with
  | some r => (r.2.1 k).2.2.2 == true && decide ((r.2.1 k).1 = own)
  | none => false
section
variable {Y : YY} {R : Room} {Q : Option Value → Mem → Prop} {ls : List (Option Value)} {st : List Value} {M : Mem} {cs ss : Nat}
theorem aw_get (pc : Nat) {a ci N k idx : Nat} {v : Value} (hd : decode Y.2.1 pc = .ok (.getfield idx, 3)) (ck : ckF Y.1.cls idx ci k = true) (hk : M.2.1 a = (ci, N)) (hv : M.2.2 a k = v) (kk : AW Y R Q (pc + 3) ls (v :: st) M cs ss) : AW Y R Q pc ls (.ref a :: st) M cs ss := sorry
theorem aw_put (pc : Nat) {a ci N k idx : Nat} {v : Value} (hd : decode Y.2.1 pc = .ok (.putfield idx, 3)) (ck : ckF Y.1.cls idx ci k = true) (cp : ckP ci k = true) (hk : M.2.1 a = (ci, N)) (hn : narrow (tyCl ci k) v = v) (hf : fits (tyCl ci k) v = true) (kk : AW Y R Q (pc + 3) ls st (wr M a k v) cs ss) : AW Y R Q pc ls (v :: .ref a :: st) M cs ss := sorry
theorem aw_putF (pc : Nat) {a ci N k idx : Nat} {v : Value} (hd : decode Y.2.1 pc = .ok (.putfield idx, 3)) (ck : ckF Y.1.cls idx ci k = true) (cp : ckQ Y.1.cls ci k = true) (hin : Y.1.name = "<init>") (hk : M.2.1 a = (ci, N)) (hn : narrow (tyCl ci k) v = v) (hf : fits (tyCl ci k) v = true) (kk : AW Y R Q (pc + 3) ls st (wr M a k v) cs ss) : AW Y R Q pc ls (v :: .ref a :: st) M cs ss := sorry
theorem aw_iald (pc : Nat) {a n : Nat} {i : Int32} {v : Value} (j : Nat) (hd : decode Y.2.1 pc = .ok (.iaload, 1)) (hk : M.2.1 a = (20, n)) (hi : i = nI j) (hj : j < n) (hn : n < 2 ^ 31) (hv : M.2.2 a j = v) (kk : AW Y R Q (pc + 1) ls (v :: st) M cs ss) : AW Y R Q pc ls (.int i :: .ref a :: st) M cs ss := sorry
theorem aw_alen (pc : Nat) {a n : Nat} (hd : decode Y.2.1 pc = .ok (.arraylength, 1)) (hk : M.2.1 a = (20, n)) (kk : AW Y R Q (pc + 1) ls (.int (nI n) :: st) M cs ss) : AW Y R Q pc ls (.ref a :: st) M cs ss := sorry
theorem aw_iast (pc : Nat) {a n : Nat} {i w : Int32} (j : Nat) (hd : decode Y.2.1 pc = .ok (.iastore, 1)) (hk : M.2.1 a = (20, n)) (ha : 2 ≤ a) (hi : i = nI j) (hj : j < n) (hn : n < 2 ^ 31) (kk : AW Y R Q (pc + 1) ls st (wr M a j (.int w)) cs ss) : AW Y R Q pc ls (.int w :: .int i :: .ref a :: st) M cs ss := sorry
theorem akT_ref {k : Nat} (h21 : 21 ≤ k) (h25 : k < 25) : (akT k).isReference = true := sorry
theorem aw_aald (pc : Nat) {a k n : Nat} {i : Int32} {v : Value} (j : Nat) (hd : decode Y.2.1 pc = .ok (.aaload, 1)) (hk : M.2.1 a = (k, n)) (ha : 2 ≤ a) (hkk : 21 ≤ k ∧ k < 25) (hi : i = nI j) (hj : j < n) (hn : n < 2 ^ 31) (hv : M.2.2 a j = v) (kk : AW Y R Q (pc + 1) ls (v :: st) M cs ss) : AW Y R Q pc ls (.int i :: .ref a :: st) M cs ss := sorry
/-- which objects an array of a kind holds -/
def akC (k : Nat) : Nat := match k with
  | 21 => 3
  | 22 => 1
  | 23 => 2
  | _ => 5
theorem akC_ok {k : Nat} (h21 : 21 ≤ k) (h25 : k < 25) : ∃ r : vw_C, vwCl[akC k]? = some r ∧ akT k = .object r.1 := sorry
theorem aw_aast (pc : Nat) {a k n w N : Nat} {i : Int32} (j : Nat) (hd : decode Y.2.1 pc = .ok (.aastore, 1)) (hk : M.2.1 a = (k, n)) (ha : 2 ≤ a) (hkk : 21 ≤ k ∧ k < 25) (hw : M.2.1 w = (akC k, N)) (hi : i = nI j) (hj : j < n) (hn : n < 2 ^ 31) (kk : AW Y R Q (pc + 1) ls st (wr M a j (.ref w)) cs ss) : AW Y R Q pc ls (.ref w :: .int i :: .ref a :: st) M cs ss := sorry
def ckN (own : String) (idx ci : Nat) : Bool := match vwCl[ci]? with
  | some r => decide (Cond.classLink own idx r.1 ∈ lw_tbl) && decide (Cond.instantiable r.1 r.2.2 ∈ lw_tbl) && decide (Cond.initialized r.1 ∈ lw_tbl)
  | none => false
theorem aw_new (pc : Nat) {ci idx : Nat} (N : Nat) (hd : decode Y.2.1 pc = .ok (.new idx, 3)) (ck : ckN Y.1.cls idx ci = true) (hN : (vwCl[ci]?.map fun r => r.2.2) = some N) (hc : cs + 1 ≤ R.cells) (hs : ss + N ≤ R.slots) (kk : AW Y R Q (pc + 3) ls (.ref M.1 :: st) (nw M (ci, N) (fun k => defaultValue (tyCl ci k))) (cs + 1) (ss + N)) : AW Y R Q pc ls st M cs ss := sorry
theorem aw_newa (pc : Nat) {n : Int32} (N : Nat) (hd : decode Y.2.1 pc = .ok (.newarray .int, 2)) (hn : n = nI N) (hN : N < 100000) (hc : cs + 1 ≤ R.cells) (hs : ss + N ≤ R.slots) (kk : AW Y R Q (pc + 2) ls (.ref M.1 :: st) (nw M (20, N) (fun _ => .int 0)) (cs + 1) (ss + N)) : AW Y R Q pc ls (.int n :: st) M cs ss := sorry
def ckA (own : String) (idx k : Nat) : Bool := match akT k with
  | .object C => decide (Cond.classLink own idx C ∈ lw_tbl) && decide (C ∈ overs)
  | _ => false
theorem aw_anew (pc : Nat) {n : Int32} {idx : Nat} (k N : Nat) (hd : decode Y.2.1 pc = .ok (.anewarray idx, 3)) (ck : ckA Y.1.cls idx k = true) (hkk : 21 ≤ k ∧ k < 25) (hn : n = nI N) (hN : N < 100000) (hc : cs + 1 ≤ R.cells) (hs : ss + N ≤ R.slots) (kk : AW Y R Q (pc + 3) ls (.ref M.1 :: st) (nw M (k, N) (fun _ => .null)) (cs + 1) (ss + N)) : AW Y R Q pc ls (.int n :: st) M cs ss := sorry
theorem aw_gets (pc : Nat) {idx : Nat} (hd : decode Y.2.1 pc = .ok (.getstatic idx, 3)) (ck : (Y.1.cls, idx) ∈ nestF) (kk : AW Y R Q (pc + 3) ls (.ref 1 :: st) M cs ss) : AW Y R Q pc ls st M cs ss := sorry
theorem aw_ldc2 (pc : Nat) {idx : Nat} (v : Int64) (hd : decode Y.2.1 pc = .ok (.ldc2_w idx, 3)) (ck : Cond.constantLong Y.1.cls idx v ∈ lw_tbl) (kk : AW Y R Q (pc + 3) ls (.long v :: st) M cs ss) : AW Y R Q pc ls st M cs ss := sorry
end
end
section
/-! calls -/
theorem cat_sum (x : CX) (st : List Value) : ((st.map (cv x)).map fun v => v.category).sum = (st.map fun v => v.category).sum := sorry
theorem ret_st (x : CX) (r : Option Value) (st : List Value) : (r.toList ++ st).map (cv x) = (r.map (cv x)).toList ++ st.map (cv x) := sorry
def ckC (Y : YY) (n : Nat) : Bool := decide (Cond.initialized Y.1.cls ∈ lw_tbl) && decide (Y.1.cls ≠ "java/lang/invoke/MethodHandle") && decide (Y.1.cls ≠ "java/lang/invoke/VarHandle") && decide ((parseMethodDescriptor Y.1.desc).map (fun d => d.parameters.length) = some n)
def inTbl (Y : YY) : Prop := Cond.code Y.1 Y.2.1 Y.2.2.1 Y.2.2.2 ∈ lw_tbl
theorem wsY_good {Y : YY} (h : inTbl Y) : GoodIn gtbl (wsY Y) := sorry
theorem ckC_ok {Y : YY} {n : Nat} (h : ckC Y n = true) : Cond.initialized Y.1.cls ∈ gtbl ∧ (Y.1.cls ≠ "java/lang/invoke/MethodHandle" ∧ Y.1.cls ≠ "java/lang/invoke/VarHandle" ∧ (parseMethodDescriptor Y.1.desc).map (fun d => d.parameters.length) = some n) := sorry
def ckS (own : String) (idx : Nat) (Y : YY) (n : Nat) : Bool := ckC Y n && decide (Cond.methodLink own idx Y.1 ∈ lw_tbl) && decide (Cond.static Y.1 ∈ lw_tbl)
def ckV (own : String) (idx : Nat) (Y : YY) (n : Nat) : Bool := ckC Y n && decide (Cond.methodLink own idx Y.1 ∈ lw_tbl) && decide (Cond.instanceMethod Y.1 ∈ lw_tbl) && decide (Cond.selects Y.1.cls Y.1 Y.1 ∈ lw_tbl)
def ckI (own : String) (idx : Nat) (Y : YY) (n : Nat) : Bool := ckC Y n && decide (Cond.methodLink own idx Y.1 ∈ lw_tbl) && decide (Cond.instanceMethod Y.1 ∈ lw_tbl) && decide (Y.1.name = "<init>")
def ckSN (own : String) (idx : Nat) (Y : YY) (n : Nat) : Bool := ckC Y n && decide ((own, idx, Y.1) ∈ nestM) && decide (Cond.static Y.1 ∈ lw_tbl)
def ckIN (own : String) (idx : Nat) (Y : YY) (n : Nat) : Bool := ckC Y n && decide ((own, idx, Y.1) ∈ nestM) && decide (Cond.instanceMethod Y.1 ∈ lw_tbl) && decide (Y.1.name = "<init>")
/-- an overriding method: x is named, class C's objects run Y, owner declares x -/
def ckU (own : String) (idx : Nat) (C owner : String) (y : MethodName) (Y : YY) (n : Nat) : Bool := decide (Cond.initialized Y.1.cls ∈ lw_tbl) && decide (owner ≠ "java/lang/invoke/MethodHandle") && decide (owner ≠ "java/lang/invoke/VarHandle") && decide ((parseMethodDescriptor y.desc).map (fun d => d.parameters.length) = some n) && decide (Cond.methodLink own idx y ∈ lw_tbl) && decide (Cond.sameMethod y.cls owner y.name y.desc ∈ lw_tbl) && decide (Cond.selects C y Y.1 ∈ lw_tbl) && decide (Cond.instanceMethod Y.1 ∈ lw_tbl) && decide (Cond.instanceMethod ⟨owner, y.name, y.desc⟩ ∈ lw_tbl)
def ckSU (own : String) (idx : Nat) (Y : YY) (n : Nat) : Bool := decide (Cond.initialized Y.1.cls ∈ lw_tbl) && decide (Y.1.name ≠ "<init>") && decide ((parseMethodDescriptor Y.1.desc).map (fun d => d.parameters.length) = some n) && decide (Cond.methodLink own idx Y.1 ∈ lw_tbl) && decide (Cond.sameMethod Y.1.cls Y.1.cls Y.1.name Y.1.desc ∈ lw_tbl) && decide (Cond.superclass own Y.1.cls ∈ lw_tbl) && decide (Cond.instanceMethod Y.1 ∈ lw_tbl)
section
variable {p : Program} {e : Env} {s : State} {m : MethodId} {args : Array Value} {below : List Frame} {meth : Method} {c : Code} {H : Heap} {locs : List Loc} {la : Array Slot}
variable {Y Z : YY} {R rm : Room} {Q Q' : Option Value → Mem → Prop} {ls : List (Option Value)} {st st0 : List Value} {M : Mem} {cs ss : Nat} {as : List Value} {x : CX} {pc : Nat}
theorem pre_S (hC : CT x Y p s m args meth c) (hR : Rep x M H) : PreS s H (fun v U => v = (as.map (cv x)).toArray ∧ KN x U ∧ xz x ≤ U.heap.size ∧ Rep x M U.heap) (as.map (cv x)) := sorry
/-- behind a call's run -/
theorem aw_behind (hC : CT x Y p s m args meth c) (hL : LV0 x la ls Y.2.2.1) (hq : ∀ q ∈ locs, xz x ≤ q.base) {b : Array Value}
    (run : va_Run p (xl x) e R s m args below meth c H locs cs ss rm.cells rm.slots (F0 m pc la (st0.map (cv x))) (st.map (cv x)) (QC x Q' b) (fun q => xz x ≤ q))
    (kk : ∀ r M', Q' r M' → AW Y R Q (pc + 3) ls (r.toList ++ st) M' (cs + rm.cells) (ss + rm.slots)) :
    W p (xl x) e R s m args below meth c H locs cs ss (MQ below (QC x Q) args s R.cells R.slots (fun q => xz x ≤ q)) (F0 m pc la (st0.map (cv x))) := sorry
end
section
variable {Y Z : YY} {R rm : Room} {Q Q' : Option Value → Mem → Prop} {ls : List (Option Value)} {st st0 : List Value} {M : Mem} {cs ss : Nat} {as : List Value}
/-- the room that a call takes -/
def rmOK (R rm : Room) (Z : YY) (cs ss : Nat) : Prop := (rm.frames + 1 ≤ R.frames ∧ 8 + (Z.2.2.1 + 11) + rm.locals ≤ R.locals) ∧ cs + rm.cells ≤ R.cells ∧ ss + rm.slots ≤ R.slots
theorem aw_static (pc : Nat) {idx : Nat} (hd : decode Y.2.1 pc = .ok (.invokestatic idx, 3)) (ck : ckS Y.1.cls idx Z as.length = true) (hcd : inTbl Z) (hM : AM Z rm as M Q') (hst : st0 = as.reverse ++ st) (hw : (st.map fun v => v.category).sum ≤ 8) (hR1 : rmOK R rm Z cs ss)
    (kk : ∀ r M', Q' r M' → AW Y R Q (pc + 3) ls (r.toList ++ st) M' (cs + rm.cells) (ss + rm.slots)) : AW Y R Q pc ls st0 M cs ss := sorry
theorem aw_staticN (pc : Nat) {idx : Nat} (hd : decode Y.2.1 pc = .ok (.invokestatic idx, 3)) (ck : ckSN Y.1.cls idx Z as.length = true) (hcd : inTbl Z) (hM : AM Z rm as M Q') (hst : st0 = as.reverse ++ st) (hw : (st.map fun v => v.category).sum ≤ 8) (hR1 : rmOK R rm Z cs ss)
    (kk : ∀ r M', Q' r M' → AW Y R Q (pc + 3) ls (r.toList ++ st) M' (cs + rm.cells) (ss + rm.slots)) : AW Y R Q pc ls st0 M cs ss := sorry
theorem aw_virt (pc : Nat) {idx a ci N : Nat} {r : vw_C} (hd : decode Y.2.1 pc = .ok (.invokevirtual idx, 3)) (ck : ckV Y.1.cls idx Z as.length = true) (hcd : inTbl Z) (hk : M.2.1 a = (ci, N)) (hci : vwCl[ci]? = some r) (hcl : Z.1.cls = r.1) (hM : AM Z rm (.ref a :: as) M Q') (hst : st0 = as.reverse ++ .ref a :: st) (hw : (st.map fun v => v.category).sum ≤ 8) (hR1 : rmOK R rm Z cs ss)
    (kk : ∀ r M', Q' r M' → AW Y R Q (pc + 3) ls (r.toList ++ st) M' (cs + rm.cells) (ss + rm.slots)) : AW Y R Q pc ls st0 M cs ss := sorry
theorem aw_virtU (pc : Nat) {idx a ci N : Nat} {r : vw_C} {owner : String} {y : MethodName} {b0 : ByteArray} {m0 : Nat} {r0 : Option FieldType} (hd : decode Y.2.1 pc = .ok (.invokevirtual idx, 3)) (ck : ckU Y.1.cls idx r.1 owner y Z as.length = true) (hcd : inTbl Z) (hc0 : Cond.code ⟨owner, y.name, y.desc⟩ b0 m0 r0 ∈ lw_tbl) (hk : M.2.1 a = (ci, N)) (hci : vwCl[ci]? = some r) (hM : AM Z rm (.ref a :: as) M Q') (hst : st0 = as.reverse ++ .ref a :: st) (hw : (st.map fun v => v.category).sum ≤ 8) (hR1 : rmOK R rm Z cs ss)
    (kk : ∀ r M', Q' r M' → AW Y R Q (pc + 3) ls (r.toList ++ st) M' (cs + rm.cells) (ss + rm.slots)) : AW Y R Q pc ls st0 M cs ss := sorry
theorem aw_super (pc : Nat) {idx a ci N : Nat} {r : vw_C} (hd : decode Y.2.1 pc = .ok (.invokespecial idx, 3)) (ck : ckSU Y.1.cls idx Z as.length = true) (hcd : inTbl Z) (hk : M.2.1 a = (ci, N)) (hci : vwCl[ci]? = some r) (hM : AM Z rm (.ref a :: as) M Q') (hst : st0 = as.reverse ++ .ref a :: st) (hw : (st.map fun v => v.category).sum ≤ 8) (hR1 : rmOK R rm Z cs ss)
    (kk : ∀ r M', Q' r M' → AW Y R Q (pc + 3) ls (r.toList ++ st) M' (cs + rm.cells) (ss + rm.slots)) : AW Y R Q pc ls st0 M cs ss := sorry
theorem aw_init (pc : Nat) {idx a : Nat} (hd : decode Y.2.1 pc = .ok (.invokespecial idx, 3)) (ck : ckI Y.1.cls idx Z as.length = true) (hcd : inTbl Z) (hz : Z.2.2.2 = none) (hM : AM Z rm (.ref a :: as) M Q') (hst : st0 = as.reverse ++ .ref a :: st) (hw : (st.map fun v => v.category).sum ≤ 8) (hR1 : rmOK R rm Z cs ss)
    (kk : ∀ r M', Q' r M' → AW Y R Q (pc + 3) ls (r.toList ++ st) M' (cs + rm.cells) (ss + rm.slots)) : AW Y R Q pc ls st0 M cs ss := sorry
theorem aw_initN (pc : Nat) {idx a : Nat} (hd : decode Y.2.1 pc = .ok (.invokespecial idx, 3)) (ck : ckIN Y.1.cls idx Z as.length = true) (hcd : inTbl Z) (hz : Z.2.2.2 = none) (hM : AM Z rm (.ref a :: as) M Q') (hst : st0 = as.reverse ++ .ref a :: st) (hw : (st.map fun v => v.category).sum ≤ 8) (hR1 : rmOK R rm Z cs ss)
    (kk : ∀ r M', Q' r M' → AW Y R Q (pc + 3) ls (r.toList ++ st) M' (cs + rm.cells) (ss + rm.slots)) : AW Y R Q pc ls st0 M cs ss := sorry
theorem aw_objInit (pc : Nat) {idx a : Nat} (hd : decode Y.2.1 pc = .ok (.invokespecial idx, 3)) (ck : Cond.methodLink Y.1.cls idx Lib.objectInit ∈ lw_tbl) (hw : (st.map fun v => v.category).sum ≤ 8) (hfr : 1 ≤ R.frames) (hlo : 20 ≤ R.locals) (kk : AW Y R Q (pc + 3) ls st M cs ss) : AW Y R Q pc ls (.ref a :: st) M cs ss := sorry
theorem aw_max (pc : Nat) {idx : Nat} {x1 y1 : Int32} (hd : decode Y.2.1 pc = .ok (.invokestatic idx, 3)) (ck : Cond.methodLink Y.1.cls idx Lib.Math.max.name ∈ lw_tbl) (hw : (st.map fun v => v.category).sum ≤ 8) (hfr : 1 ≤ R.frames) (hlo : 21 ≤ R.locals) (hc : cs ≤ R.cells) (hs : ss ≤ R.slots) (kk : AW Y R Q (pc + 3) ls (.int (if x1 < y1 then y1 else x1) :: st) M cs ss) : AW Y R Q pc ls (.int y1 :: .int x1 :: st) M cs ss := sorry
theorem aw_min (pc : Nat) {idx : Nat} {x1 y1 : Int32} (hd : decode Y.2.1 pc = .ok (.invokestatic idx, 3)) (ck : Cond.methodLink Y.1.cls idx Lib.Math.min.name ∈ lw_tbl) (hw : (st.map fun v => v.category).sum ≤ 8) (hfr : 1 ≤ R.frames) (hlo : 21 ≤ R.locals) (hc : cs ≤ R.cells) (hs : ss ≤ R.slots) (kk : AW Y R Q (pc + 3) ls (.int (if y1 < x1 then y1 else x1) :: st) M cs ss) : AW Y R Q pc ls (.int y1 :: .int x1 :: st) M cs ss := sorry
theorem aw_abs (pc : Nat) {idx : Nat} {x1 : Int32} (hd : decode Y.2.1 pc = .ok (.invokestatic idx, 3)) (ck : Cond.methodLink Y.1.cls idx Lib.Math.abs.name ∈ lw_tbl) (hw : (st.map fun v => v.category).sum ≤ 8) (hfr : 1 ≤ R.frames) (hlo : 21 ≤ R.locals) (hc : cs ≤ R.cells) (hs : ss ≤ R.slots) (kk : AW Y R Q (pc + 3) ls (.int (if 0 ≤ x1 then x1 else 0 - x1) :: st) M cs ss) : AW Y R Q pc ls (.int x1 :: st) M cs ss := sorry
end
end
section
/-! the reference's world: its object at 25, its arrays at 26 to 48; what it holds: a table of numbers -/
abbrev TT : Type := Nat → Nat → Int32
def rLen (i : Nat) : Nat := match i with
  | 2 => 12
  | 3 => 12
  | 4 => 192
  | 5 => 32
  | 7 => 25
  | 11 => 16
  | 12 => 16
  | 14 => 6
  | 15 => 6
  | 16 => 12
  | 17 => 12
  | 18 => 12
  | 19 => 12
  | 20 => 12
  | 21 => 12
  | 22 => 300
  | 25 => 9
  | 26 => 9
  | 27 => 9
  | 28 => 4
  | 29 => 4
  | 30 => 240
  | 31 => 60
  | _ => 0
def rAd (i : Nat) : Nat := match i with
  | 2 => 26
  | 3 => 27
  | 4 => 28
  | 5 => 29
  | 7 => 30
  | 11 => 31
  | 12 => 32
  | 14 => 33
  | 15 => 34
  | 16 => 35
  | 17 => 36
  | 18 => 37
  | 19 => 38
  | 20 => 39
  | 21 => 40
  | 22 => 41
  | 25 => 42
  | 26 => 43
  | 27 => 44
  | 28 => 45
  | 29 => 46
  | 30 => 47
  | 31 => 48
  | _ => 0
def RW (τ : TT) (M : Mem) : Prop := M.2.1 25 = (12, 33) ∧ ∀ i, i < 33 → (rLen i = 0 → M.2.2 25 i = .int (τ i 0)) ∧ (0 < rLen i → M.2.2 25 i = .ref (rAd i) ∧ M.2.1 (rAd i) = (20, rLen i) ∧ ∀ k, k < rLen i → M.2.2 (rAd i) k = .int (τ i k))
def tu (τ : TT) (i k : Nat) (v : Int32) : TT := fun a b => if a = i ∧ b = k then v else τ a b
/-- nothing but the reference's cells has changed -/
def Off (M0 M : Mem) : Prop := M.1 = M0.1 ∧ M.2.1 = M0.2.1 ∧ ∀ a, ¬ (25 ≤ a ∧ a < 49) → M.2.2 a = M0.2.2 a
def RO (τ : TT) (M0 M : Mem) : Prop := RW τ M ∧ Off M0 M
theorem Off.rf (M : Mem) : Off M M := sorry
theorem Off.trans {A B C : Mem} (h : Off A B) (g : Off B C) : Off A C := sorry
theorem rAd_ne : ∀ i, i < 33 → 0 < rLen i → 25 < rAd i ∧ rAd i < 49 := sorry
theorem rAd_inj0 : ((List.range 33).all fun i => (List.range 33).all fun j => decide (rLen i = 0) || decide (rLen j = 0) || decide (rAd i ≠ rAd j) || decide (i = j)) = true := sorry
theorem rAd_inj {i j : Nat} (hi : i < 33) (hj : j < 33) (li : 0 < rLen i) (lj : 0 < rLen j) (h : rAd i = rAd j) : i = j := sorry
theorem rLen_i {i k : Nat} (h : k < rLen i) : i < 33 := sorry
theorem rLen_le (i : Nat) : rLen i < 2 ^ 31 := sorry
theorem wr_at (M : Mem) (a k : Nat) (v : Value) (b j : Nat) : (wr M a k v).2.2 b j = if b = a ∧ j = k then v else M.2.2 b j := sorry
theorem RW.put {τ : TT} {M : Mem} {i : Nat} {v : Int32} (h : RW τ M) (hi : i < 33) (h0 : rLen i = 0) : RW (tu τ i 0 v) (wr M 25 i (.int v)) := sorry
theorem RW.set {τ : TT} {M : Mem} {i k : Nat} {v : Int32} (h : RW τ M) (hk : k < rLen i) : RW (tu τ i k v) (wr M (rAd i) k (.int v)) := sorry
theorem Off.wr {M0 M : Mem} {a k : Nat} {v : Value} (h : Off M0 M) (ha : 25 ≤ a ∧ a < 49) : Off M0 (wr M a k v) := sorry
section
variable {Y : YY} {R : Room} {Q : Option Value → Mem → Prop} {ls : List (Option Value)} {st : List Value} {M M0 : Mem} {cs ss : Nat} {τ : TT}
theorem rw_gi (pc i : Nat) {idx : Nat} (hd : decode Y.2.1 pc = .ok (.getfield idx, 3)) (ck : ckF Y.1.cls idx 12 i = true) (hi : i < 33) (h0 : rLen i = 0) (hW : RO τ M0 M) (kk : AW Y R Q (pc + 3) ls (.int (τ i 0) :: st) M cs ss) : AW Y R Q pc ls (.ref 25 :: st) M cs ss := sorry
theorem rw_ga (pc i : Nat) {idx : Nat} (hd : decode Y.2.1 pc = .ok (.getfield idx, 3)) (ck : ckF Y.1.cls idx 12 i = true) (hi : i < 33) (h0 : 0 < rLen i) (hW : RO τ M0 M) (kk : AW Y R Q (pc + 3) ls (.ref (rAd i) :: st) M cs ss) : AW Y R Q pc ls (.ref 25 :: st) M cs ss := sorry
theorem rw_pi (pc i : Nat) {idx : Nat} {v : Int32} (hd : decode Y.2.1 pc = .ok (.putfield idx, 3)) (ck : ckF Y.1.cls idx 12 i = true) (cp : ckP 12 i = true) (ht : tyCl 12 i = .int) (hi : i < 33) (h0 : rLen i = 0) (hW : RO τ M0 M) (kk : ∀ M, RO (tu τ i 0 v) M0 M → AW Y R Q (pc + 3) ls st M cs ss) : AW Y R Q pc ls (.int v :: .ref 25 :: st) M cs ss := sorry
theorem rw_ld (pc i j : Nat) {n : Int32} (hd : decode Y.2.1 pc = .ok (.iaload, 1)) (hW : RO τ M0 M) (hn : n = nI j) (hj : j < rLen i) (kk : AW Y R Q (pc + 1) ls (.int (τ i j) :: st) M cs ss) : AW Y R Q pc ls (.int n :: .ref (rAd i) :: st) M cs ss := sorry
theorem rw_st (pc i j : Nat) {n v : Int32} (hd : decode Y.2.1 pc = .ok (.iastore, 1)) (hW : RO τ M0 M) (hn : n = nI j) (hj : j < rLen i) (kk : ∀ M, RO (tu τ i j v) M0 M → AW Y R Q (pc + 1) ls st M cs ss) : AW Y R Q pc ls (.int v :: .int n :: .ref (rAd i) :: st) M cs ss := sorry
/-- a method of the reference: what it answers, what it makes of the table -/
def RD (Z : YY) (rm : Room) (as : List Value) (τ : TT) (r : Option Value) (τ' : TT) : Prop := ∀ M, RW τ M → AM Z rm (.ref 25 :: as) M (fun r' M' => r' = r ∧ RO τ' M M')
/-- a static method that touches nothing -/
def SD (Z : YY) (rm : Room) (as : List Value) (r : Option Value) : Prop := ∀ M, AM Z rm as M (fun r' M' => r' = r ∧ M' = M)
theorem rw_call (pc : Nat) {Z : YY} {rm : Room} {as st0 : List Value} {r : Option Value} {τ' : TT} {idx : Nat} (hd : decode Y.2.1 pc = .ok (.invokevirtual idx, 3)) (ck : ckV Y.1.cls idx Z as.length = true) (hcd : inTbl Z) (hcl : Z.1.cls = RX12) (hM : RD Z rm as τ r τ') (hW : RO τ M0 M) (hst : st0 = as.reverse ++ .ref 25 :: st) (hw : (st.map fun v => v.category).sum ≤ 8) (hR1 : rmOK R rm Z cs ss)
    (kk : ∀ M, RO τ' M0 M → AW Y R Q (pc + 3) ls (r.toList ++ st) M (cs + rm.cells) (ss + rm.slots)) : AW Y R Q pc ls st0 M cs ss := sorry
theorem sd_call (pc : Nat) {Z : YY} {rm : Room} {as st0 : List Value} {r : Option Value} {idx : Nat} (hd : decode Y.2.1 pc = .ok (.invokestatic idx, 3)) (ck : ckS Y.1.cls idx Z as.length = true) (hcd : inTbl Z) (hM : SD Z rm as r) (hst : st0 = as.reverse ++ st) (hw : (st.map fun v => v.category).sum ≤ 8) (hR1 : rmOK R rm Z cs ss)
    (kk : AW Y R Q (pc + 3) ls (r.toList ++ st) M (cs + rm.cells) (ss + rm.slots)) : AW Y R Q pc ls st0 M cs ss := sorry
/-- a condition as the machine has it -/
def bi (c : Prop) [Decidable c] : Int32 := if c then 1 else 0
theorem bi_ne0 {c : Prop} [Decidable c] : ¬ bi c = 0 ↔ c := sorry
theorem bi_eq0 {c : Prop} [Decidable c] : bi c = 0 ↔ ¬ c := sorry
theorem bi_t {c : Prop} [Decidable c] (h : c) : bi c = 1 := sorry
theorem bi_f {c : Prop} [Decidable c] (h : ¬ c) : bi c = 0 := sorry
theorem bi_nar {c : Prop} [Decidable c] : narrow .boolean (.int (bi c)) = .int (bi c) := sorry
theorem aw_ifeq_b (pc tgt : Nat) {c : Prop} [Decidable c] {off : Int} (hd : decode Y.2.1 pc = .ok (.ifCond .eq off, 3)) (ht : (pc : Int) + off = (tgt : Int)) (kt : ¬ c → AW Y R Q tgt ls st M cs ss) (kf : c → AW Y R Q (pc + 3) ls st M cs ss) : AW Y R Q pc ls (.int (bi c) :: st) M cs ss := sorry
theorem aw_ifne_b (pc tgt : Nat) {c : Prop} [Decidable c] {off : Int} (hd : decode Y.2.1 pc = .ok (.ifCond .ne off, 3)) (ht : (pc : Int) + off = (tgt : Int)) (kt : c → AW Y R Q tgt ls st M cs ss) (kf : ¬ c → AW Y R Q (pc + 3) ls st M cs ss) : AW Y R Q pc ls (.int (bi c) :: st) M cs ss := sorry
end
end
section
/-! links, by program (gen/refw.py) -/
set_option maxRecDepth 100000 in
theorem cd_X0_init : inTbl mX0_init := sorry
set_option maxRecDepth 100000 in
theorem cd_X0_kind : inTbl mX0_kind := sorry
set_option maxRecDepth 100000 in
theorem cd_X0_origin : inTbl mX0_origin := sorry
set_option maxRecDepth 100000 in
theorem cd_X0_acts : inTbl mX0_acts := sorry
set_option maxRecDepth 100000 in
theorem cd_X0_telling : inTbl mX0_telling := sorry
set_option maxRecDepth 100000 in
theorem cd_X1_init : inTbl mX1_init := sorry
set_option maxRecDepth 100000 in
theorem cd_X2_init : inTbl mX2_init := sorry
set_option maxRecDepth 100000 in
theorem cd_X3_init : inTbl mX3_init := sorry
set_option maxRecDepth 100000 in
theorem cd_X3_fill : inTbl mX3_fill := sorry
set_option maxRecDepth 100000 in
theorem cd_X3_become : inTbl mX3_become := sorry
set_option maxRecDepth 100000 in
theorem cd_X3_replace : inTbl mX3_replace := sorry
set_option maxRecDepth 100000 in
theorem cd_X3_has : inTbl mX3_has := sorry
set_option maxRecDepth 100000 in
theorem cd_X3_origin : inTbl mX3_origin := sorry
set_option maxRecDepth 100000 in
theorem cd_X3_sum : inTbl mX3_sum := sorry
set_option maxRecDepth 100000 in
theorem cd_X3_mean : inTbl mX3_mean := sorry
set_option maxRecDepth 100000 in
theorem cd_X3_least : inTbl mX3_least := sorry
set_option maxRecDepth 100000 in
theorem cd_X3_greatest : inTbl mX3_greatest := sorry
set_option maxRecDepth 100000 in
theorem cd_X3_imprint : inTbl mX3_imprint := sorry
set_option maxRecDepth 100000 in
theorem cd_X3_agreement : inTbl mX3_agreement := sorry
set_option maxRecDepth 100000 in
theorem cd_X3_tellsBit : inTbl mX3_tellsBit := sorry
set_option maxRecDepth 100000 in
theorem cd_X4_init : inTbl mX4_init := sorry
set_option maxRecDepth 100000 in
theorem cd_X4_keptActs : inTbl mX4_keptActs := sorry
set_option maxRecDepth 100000 in
theorem cd_X4_read : inTbl mX4_read := sorry
set_option maxRecDepth 100000 in
theorem cd_X4_code : inTbl mX4_code := sorry
set_option maxRecDepth 100000 in
theorem cd_X4_isKind : inTbl mX4_isKind := sorry
set_option maxRecDepth 100000 in
theorem cd_X4_readNumber : inTbl mX4_readNumber := sorry
set_option maxRecDepth 100000 in
theorem cd_X4_readShift : inTbl mX4_readShift := sorry
set_option maxRecDepth 100000 in
theorem cd_X4_readDigits : inTbl mX4_readDigits := sorry
set_option maxRecDepth 100000 in
theorem cd_X5_init : inTbl mX5_init := sorry
set_option maxRecDepth 100000 in
theorem cd_X5_renew : inTbl mX5_renew := sorry
set_option maxRecDepth 100000 in
theorem cd_X5_faultOf : inTbl mX5_faultOf := sorry
set_option maxRecDepth 100000 in
theorem cd_X5_lacks : inTbl mX5_lacks := sorry
set_option maxRecDepth 100000 in
theorem cd_X5_holdsSquares : inTbl mX5_holdsSquares := sorry
set_option maxRecDepth 100000 in
theorem cd_X5_at : inTbl mX5_at := sorry
set_option maxRecDepth 100000 in
theorem cd_X5_write : inTbl mX5_write := sorry
set_option maxRecDepth 100000 in
theorem cd_X6_init : inTbl mX6_init := sorry
set_option maxRecDepth 100000 in
theorem cd_X6_kind : inTbl mX6_kind := sorry
set_option maxRecDepth 100000 in
theorem cd_X6_telling : inTbl mX6_telling := sorry
set_option maxRecDepth 100000 in
theorem cd_X6_showing : inTbl mX6_showing := sorry
set_option maxRecDepth 100000 in
theorem cd_X7_init : inTbl mX7_init := sorry
set_option maxRecDepth 100000 in
theorem cd_X7_kind : inTbl mX7_kind := sorry
set_option maxRecDepth 100000 in
theorem cd_X7_origin : inTbl mX7_origin := sorry
set_option maxRecDepth 100000 in
theorem cd_X7_acts : inTbl mX7_acts := sorry
set_option maxRecDepth 100000 in
theorem cd_X7_telling : inTbl mX7_telling := sorry
set_option maxRecDepth 100000 in
theorem cd_X7_takenTelling : inTbl mX7_takenTelling := sorry
set_option maxRecDepth 100000 in
theorem cd_X7_showing : inTbl mX7_showing := sorry
set_option maxRecDepth 100000 in
theorem cd_X8_init : inTbl mX8_init := sorry
set_option maxRecDepth 100000 in
theorem cd_X8_leave : inTbl mX8_leave := sorry
set_option maxRecDepth 100000 in
theorem cd_X9_init : inTbl mX9_init := sorry
set_option maxRecDepth 100000 in
theorem cd_X9_above : inTbl mX9_above := sorry
set_option maxRecDepth 100000 in
theorem cd_X9_rootOf : inTbl mX9_rootOf := sorry
set_option maxRecDepth 100000 in
theorem cd_X9_beside : inTbl mX9_beside := sorry
set_option maxRecDepth 100000 in
theorem cd_X10_init : inTbl mX10_init := sorry
set_option maxRecDepth 100000 in
theorem cd_X10_perform : inTbl mX10_perform := sorry
set_option maxRecDepth 100000 in
theorem cd_X10_performOne : inTbl mX10_performOne := sorry
set_option maxRecDepth 100000 in
theorem cd_X10_holds : inTbl mX10_holds := sorry
set_option maxRecDepth 100000 in
theorem cd_X10_cutOut : inTbl mX10_cutOut := sorry
set_option maxRecDepth 100000 in
theorem cd_X10_blur : inTbl mX10_blur := sorry
set_option maxRecDepth 100000 in
theorem cd_X10_turn : inTbl mX10_turn := sorry
set_option maxRecDepth 100000 in
theorem cd_X10_shift : inTbl mX10_shift := sorry
set_option maxRecDepth 100000 in
theorem cd_X10_saveWorse : inTbl mX10_saveWorse := sorry
set_option maxRecDepth 100000 in
theorem cd_X11_init : inTbl mX11_init := sorry
set_option maxRecDepth 100000 in
theorem cd_X11_picture : inTbl mX11_picture := sorry
set_option maxRecDepth 100000 in
theorem cd_X11_ofPicture : inTbl mX11_ofPicture := sorry
set_option maxRecDepth 100000 in
theorem cd_X11_alter : inTbl mX11_alter := sorry
set_option maxRecDepth 100000 in
theorem cd_X11_lens : inTbl mX11_lens := sorry
set_option maxRecDepth 100000 in
theorem cd_X11_steal : inTbl mX11_steal := sorry
set_option maxRecDepth 100000 in
theorem cd_X11_take : inTbl mX11_take := sorry
set_option maxRecDepth 100000 in
theorem cd_X11_hush : inTbl mX11_hush := sorry
set_option maxRecDepth 100000 in
theorem cd_X11_change : inTbl mX11_change := sorry
set_option maxRecDepth 100000 in
theorem cd_X11_act : inTbl mX11_act := sorry
set_option maxRecDepth 100000 in
theorem cd_X11_tear : inTbl mX11_tear := sorry
set_option maxRecDepth 100000 in
theorem cd_X11_line : inTbl mX11_line := sorry
set_option maxRecDepth 100000 in
theorem cd_X11_speaks : inTbl mX11_speaks := sorry
set_option maxRecDepth 100000 in
theorem cd_X11_play : inTbl mX11_play := sorry
set_option maxRecDepth 100000 in
theorem cd_X11_within : inTbl mX11_within := sorry
set_option maxRecDepth 100000 in
theorem cd_X11_way : inTbl mX11_way := sorry
set_option maxRecDepth 100000 in
theorem cd_X11_doubt : inTbl mX11_doubt := sorry
set_option maxRecDepth 100000 in
theorem cd_X11_whole : inTbl mX11_whole := sorry
set_option maxRecDepth 100000 in
theorem cd_X11_proof : inTbl mX11_proof := sorry
set_option maxRecDepth 100000 in
theorem cd_X11_proves : inTbl mX11_proves := sorry
set_option maxRecDepth 100000 in
theorem cd_X11_hide : inTbl mX11_hide := sorry
set_option maxRecDepth 100000 in
theorem cd_X11_found : inTbl mX11_found := sorry
set_option maxRecDepth 100000 in
theorem cd_X11_falsely : inTbl mX11_falsely := sorry
set_option maxRecDepth 100000 in
theorem cd_X11_like : inTbl mX11_like := sorry
set_option maxRecDepth 100000 in
theorem cd_X11_nearest : inTbl mX11_nearest := sorry
set_option maxRecDepth 100000 in
theorem cd_X11_coarse : inTbl mX11_coarse := sorry
set_option maxRecDepth 100000 in
theorem cd_X11_look : inTbl mX11_look := sorry
set_option maxRecDepth 100000 in
theorem cd_X11_best : inTbl mX11_best := sorry
set_option maxRecDepth 100000 in
theorem cd_X11_doubtful : inTbl mX11_doubtful := sorry
set_option maxRecDepth 100000 in
theorem cd_X11_sheet : inTbl mX11_sheet := sorry
set_option maxRecDepth 100000 in
theorem cd_X11_lose : inTbl mX11_lose := sorry
set_option maxRecDepth 100000 in
theorem cd_X11_put : inTbl mX11_put := sorry
set_option maxRecDepth 100000 in
theorem cd_X11_cell : inTbl mX11_cell := sorry
set_option maxRecDepth 100000 in
theorem cd_X11_copy : inTbl mX11_copy := sorry
set_option maxRecDepth 100000 in
theorem cd_X11_tell : inTbl mX11_tell := sorry
set_option maxRecDepth 100000 in
theorem cd_X11_show : inTbl mX11_show := sorry
set_option maxRecDepth 100000 in
theorem cd_X11_as : inTbl mX11_as := sorry
set_option maxRecDepth 100000 in
theorem cd_X11_trace : inTbl mX11_trace := sorry
set_option maxRecDepth 100000 in
theorem cd_X11_fault : inTbl mX11_fault := sorry
set_option maxRecDepth 100000 in
theorem cd_X11_many : inTbl mX11_many := sorry
set_option maxRecDepth 100000 in
theorem cd_X11_isIn : inTbl mX11_isIn := sorry
set_option maxRecDepth 100000 in
theorem cd_X11_isLane : inTbl mX11_isLane := sorry
set_option maxRecDepth 100000 in
theorem cd_X11_isHour : inTbl mX11_isHour := sorry
set_option maxRecDepth 100000 in
theorem cd_X11_isPlace : inTbl mX11_isPlace := sorry
set_option maxRecDepth 100000 in
theorem cd_X11_isMark : inTbl mX11_isMark := sorry
set_option maxRecDepth 100000 in
theorem cd_X11_pictureAt : inTbl mX11_pictureAt := sorry
set_option maxRecDepth 100000 in
theorem cd_X11_lensAt : inTbl mX11_lensAt := sorry
set_option maxRecDepth 100000 in
theorem cd_X11_sheetAt : inTbl mX11_sheetAt := sorry
set_option maxRecDepth 100000 in
theorem cd_X11_failed : inTbl mX11_failed := sorry
set_option maxRecDepth 100000 in
theorem cd_X11_addPicture : inTbl mX11_addPicture := sorry
set_option maxRecDepth 100000 in
theorem cd_X11_readActs : inTbl mX11_readActs := sorry
set_option maxRecDepth 100000 in
theorem cd_X11_sealOf : inTbl mX11_sealOf := sorry
set_option maxRecDepth 100000 in
theorem cd_X11_voiceOf : inTbl mX11_voiceOf := sorry
set_option maxRecDepth 100000 in
theorem cd_X11_firstFarPlace : inTbl mX11_firstFarPlace := sorry
set_option maxRecDepth 100000 in
theorem cd_X11_firstDoubt : inTbl mX11_firstDoubt := sorry
set_option maxRecDepth 100000 in
theorem cd_X11_waysOfAtLeast : inTbl mX11_waysOfAtLeast := sorry
set_option maxRecDepth 100000 in
theorem cd_X11_likeness : inTbl mX11_likeness := sorry
set_option maxRecDepth 100000 in
theorem cd_X11_countNearer : inTbl mX11_countNearer := sorry
set_option maxRecDepth 100000 in
theorem cd_X11_hoursOf : inTbl mX11_hoursOf := sorry
set_option maxRecDepth 100000 in
theorem cd_X11_worthOf : inTbl mX11_worthOf := sorry
set_option maxRecDepth 100000 in
theorem cd_X11_countPapers : inTbl mX11_countPapers := sorry
set_option maxRecDepth 100000 in
theorem cd_X12_init : inTbl mX12_init := sorry
set_option maxRecDepth 100000 in
theorem cd_X12_in : inTbl mX12_in := sorry
set_option maxRecDepth 100000 in
theorem cd_X12_lost : inTbl mX12_lost := sorry
set_option maxRecDepth 100000 in
theorem cd_X12_hasBit : inTbl mX12_hasBit := sorry
set_option maxRecDepth 100000 in
theorem cd_X12_sizeOf : inTbl mX12_sizeOf := sorry
set_option maxRecDepth 100000 in
theorem cd_X12_lesser : inTbl mX12_lesser := sorry
set_option maxRecDepth 100000 in
theorem cd_X12_greater : inTbl mX12_greater := sorry
set_option maxRecDepth 100000 in
theorem cd_X12_share : inTbl mX12_share := sorry
set_option maxRecDepth 100000 in
theorem cd_X12_refused : inTbl mX12_refused := sorry
set_option maxRecDepth 100000 in
theorem cd_X12_failed : inTbl mX12_failed := sorry
set_option maxRecDepth 100000 in
theorem cd_X12_failedLong : inTbl mX12_failedLong := sorry
set_option maxRecDepth 100000 in
theorem cd_X12_barred : inTbl mX12_barred := sorry
set_option maxRecDepth 100000 in
theorem cd_X12_isLane : inTbl mX12_isLane := sorry
set_option maxRecDepth 100000 in
theorem cd_X12_isHour : inTbl mX12_isHour := sorry
set_option maxRecDepth 100000 in
theorem cd_X12_noPicture : inTbl mX12_noPicture := sorry
set_option maxRecDepth 100000 in
theorem cd_X12_isThere : inTbl mX12_isThere := sorry
set_option maxRecDepth 100000 in
theorem cd_X12_picture : inTbl mX12_picture := sorry
set_option maxRecDepth 100000 in
theorem cd_X12_manySquares : inTbl mX12_manySquares := sorry
set_option maxRecDepth 100000 in
theorem cd_X12_placeOf : inTbl mX12_placeOf := sorry
set_option maxRecDepth 100000 in
theorem cd_X12_sumOf : inTbl mX12_sumOf := sorry
set_option maxRecDepth 100000 in
theorem cd_X12_layTree : inTbl mX12_layTree := sorry
set_option maxRecDepth 100000 in
theorem cd_X12_above : inTbl mX12_above := sorry
set_option maxRecDepth 100000 in
theorem cd_X12_rootOf : inTbl mX12_rootOf := sorry
set_option maxRecDepth 100000 in
theorem cd_X12_ofPicture : inTbl mX12_ofPicture := sorry
set_option maxRecDepth 100000 in
theorem cd_X12_alter : inTbl mX12_alter := sorry
set_option maxRecDepth 100000 in
theorem cd_X12_isDigit : inTbl mX12_isDigit := sorry
set_option maxRecDepth 100000 in
theorem cd_X12_readsNumbers : inTbl mX12_readsNumbers := sorry
set_option maxRecDepth 100000 in
theorem cd_X12_readActs : inTbl mX12_readActs := sorry
set_option maxRecDepth 100000 in
theorem cd_X12_takeInHand : inTbl mX12_takeInHand := sorry
set_option maxRecDepth 100000 in
theorem cd_X12_doPart : inTbl mX12_doPart := sorry
set_option maxRecDepth 100000 in
theorem cd_X12_turn : inTbl mX12_turn := sorry
set_option maxRecDepth 100000 in
theorem cd_X12_tinted : inTbl mX12_tinted := sorry
set_option maxRecDepth 100000 in
theorem cd_X12_doActs : inTbl mX12_doActs := sorry
set_option maxRecDepth 100000 in
theorem cd_X12_act : inTbl mX12_act := sorry
set_option maxRecDepth 100000 in
theorem cd_X12_noLens : inTbl mX12_noLens := sorry
set_option maxRecDepth 100000 in
theorem cd_X12_lens : inTbl mX12_lens := sorry
set_option maxRecDepth 100000 in
theorem cd_X12_steal : inTbl mX12_steal := sorry
set_option maxRecDepth 100000 in
theorem cd_X12_noLine : inTbl mX12_noLine := sorry
set_option maxRecDepth 100000 in
theorem cd_X12_sealOf : inTbl mX12_sealOf := sorry
set_option maxRecDepth 100000 in
theorem cd_X12_write : inTbl mX12_write := sorry
set_option maxRecDepth 100000 in
theorem cd_X12_take : inTbl mX12_take := sorry
set_option maxRecDepth 100000 in
theorem cd_X12_hush : inTbl mX12_hush := sorry
set_option maxRecDepth 100000 in
theorem cd_X12_change : inTbl mX12_change := sorry
set_option maxRecDepth 100000 in
theorem cd_X12_tear : inTbl mX12_tear := sorry
set_option maxRecDepth 100000 in
theorem cd_X12_line : inTbl mX12_line := sorry
set_option maxRecDepth 100000 in
theorem cd_X12_within : inTbl mX12_within := sorry
set_option maxRecDepth 100000 in
theorem cd_X12_played : inTbl mX12_played := sorry
set_option maxRecDepth 100000 in
theorem cd_X12_play : inTbl mX12_play := sorry
set_option maxRecDepth 100000 in
theorem cd_X12_speaking : inTbl mX12_speaking := sorry
set_option maxRecDepth 100000 in
theorem cd_X12_speaks : inTbl mX12_speaks := sorry
set_option maxRecDepth 100000 in
theorem cd_X12_nextOn : inTbl mX12_nextOn := sorry
set_option maxRecDepth 100000 in
theorem cd_X12_way : inTbl mX12_way := sorry
set_option maxRecDepth 100000 in
theorem cd_X12_doubtOn : inTbl mX12_doubtOn := sorry
set_option maxRecDepth 100000 in
theorem cd_X12_doubt : inTbl mX12_doubt := sorry
set_option maxRecDepth 100000 in
theorem cd_X12_whole : inTbl mX12_whole := sorry
set_option maxRecDepth 100000 in
theorem cd_X12_proof : inTbl mX12_proof := sorry
set_option maxRecDepth 100000 in
theorem cd_X12_proves : inTbl mX12_proves := sorry
set_option maxRecDepth 100000 in
theorem cd_X12_looked : inTbl mX12_looked := sorry
set_option maxRecDepth 100000 in
theorem cd_X12_isMark : inTbl mX12_isMark := sorry
set_option maxRecDepth 100000 in
theorem cd_X12_isSo : inTbl mX12_isSo := sorry
set_option maxRecDepth 100000 in
theorem cd_X12_hide : inTbl mX12_hide := sorry
set_option maxRecDepth 100000 in
theorem cd_X12_foundIn : inTbl mX12_foundIn := sorry
set_option maxRecDepth 100000 in
theorem cd_X12_found : inTbl mX12_found := sorry
set_option maxRecDepth 100000 in
theorem cd_X12_falsely : inTbl mX12_falsely := sorry
set_option maxRecDepth 100000 in
theorem cd_X12_extreme : inTbl mX12_extreme := sorry
set_option maxRecDepth 100000 in
theorem cd_X12_likeness : inTbl mX12_likeness := sorry
set_option maxRecDepth 100000 in
theorem cd_X12_like : inTbl mX12_like := sorry
set_option maxRecDepth 100000 in
theorem cd_X12_nearest : inTbl mX12_nearest := sorry
set_option maxRecDepth 100000 in
theorem cd_X12_coarse : inTbl mX12_coarse := sorry
set_option maxRecDepth 100000 in
theorem cd_X12_look : inTbl mX12_look := sorry
set_option maxRecDepth 100000 in
theorem cd_X12_ofLooks : inTbl mX12_ofLooks := sorry
set_option maxRecDepth 100000 in
theorem cd_X12_best : inTbl mX12_best := sorry
set_option maxRecDepth 100000 in
theorem cd_X12_doubtful : inTbl mX12_doubtful := sorry
set_option maxRecDepth 100000 in
theorem cd_X12_noSheet : inTbl mX12_noSheet := sorry
set_option maxRecDepth 100000 in
theorem cd_X12_sheet : inTbl mX12_sheet := sorry
set_option maxRecDepth 100000 in
theorem cd_X12_lose : inTbl mX12_lose := sorry
set_option maxRecDepth 100000 in
theorem cd_X12_noCell : inTbl mX12_noCell := sorry
set_option maxRecDepth 100000 in
theorem cd_X12_put : inTbl mX12_put := sorry
set_option maxRecDepth 100000 in
theorem cd_X12_cell : inTbl mX12_cell := sorry
set_option maxRecDepth 100000 in
theorem cd_X12_isBeyond : inTbl mX12_isBeyond := sorry
set_option maxRecDepth 100000 in
theorem cd_X12_copy : inTbl mX12_copy := sorry
set_option maxRecDepth 100000 in
theorem cd_X12_traced : inTbl mX12_traced := sorry
set_option maxRecDepth 100000 in
theorem cd_X12_tell : inTbl mX12_tell := sorry
set_option maxRecDepth 100000 in
theorem cd_X12_show : inTbl mX12_show := sorry
set_option maxRecDepth 100000 in
theorem cd_X12_as : inTbl mX12_as := sorry
set_option maxRecDepth 100000 in
theorem cd_X12_trace : inTbl mX12_trace := sorry
set_option maxRecDepth 100000 in
theorem cd_X12_fault : inTbl mX12_fault := sorry
set_option maxRecDepth 100000 in
theorem cd_X12_many : inTbl mX12_many := sorry
set_option maxRecDepth 100000 in
theorem cd_J9_abs_0f7a4 : inTbl mJ9_abs_0f7a4 := sorry
set_option maxRecDepth 100000 in
theorem cd_J9_max_7cf53 : inTbl mJ9_max_7cf53 := sorry
set_option maxRecDepth 100000 in
theorem cd_J9_min_7cf53 : inTbl mJ9_min_7cf53 := sorry
set_option maxRecDepth 100000 in
theorem cd_J7_fill_53178 : inTbl mJ7_fill_53178 := sorry
set_option maxRecDepth 100000 in
theorem cd_J7_copyOf_59c91 : inTbl mJ7_copyOf_59c91 := sorry
theorem ckI_RX0_3 : ckI RX0 3 mX7_init 3 = true := sorry
theorem ckF_RX0_9_0 : ckF RX0 9 0 3 = true := sorry
theorem ckF_RX0_9_6 : ckF RX0 9 6 0 = true := sorry
theorem ckF_RX0_15_0 : ckF RX0 15 0 4 = true := sorry
theorem ckF_RX0_15_6 : ckF RX0 15 6 1 = true := sorry
theorem ckV_RX0_19 : ckV RX0 19 mX8_leave 1 = true := sorry
theorem ckSU_RX0_25 : ckSU RX0 25 mX7_telling 1 = true := sorry
theorem ckO_RX1_3 : Cond.methodLink RX1 3 Lib.objectInit ∈ lw_tbl := sorry
theorem ckF_RX1_9_1 : ckF RX1 9 1 2 = true := sorry
theorem ckF_RX1_15_1 : ckF RX1 15 1 0 = true := sorry
theorem ckF_RX1_18_1 : ckF RX1 18 1 1 = true := sorry
theorem ckO_RX2_1 : Cond.methodLink RX2 1 Lib.objectInit ∈ lw_tbl := sorry
theorem ckF_RX2_7_2 : ckF RX2 7 2 0 = true := sorry
theorem ckF_RX2_13_2 : ckF RX2 13 2 1 = true := sorry
theorem ckF_RX2_17_2 : ckF RX2 17 2 2 = true := sorry
theorem ckO_RX3_3 : Cond.methodLink RX3 3 Lib.objectInit ∈ lw_tbl := sorry
theorem ckF_RX3_9_3 : ckF RX3 9 3 1 = true := sorry
theorem ckF_RX3_15_3 : ckF RX3 15 3 0 = true := sorry
theorem ckS_RX3_19 : ckS RX3 19 mJ7_fill_53178 2 = true := sorry
theorem ckF_RX3_25_3 : ckF RX3 25 3 2 = true := sorry
theorem ckF_RX3_28_3 : ckF RX3 28 3 3 = true := sorry
theorem ckV_RX3_31 : ckV RX3 31 mX5_at 1 = true := sorry
theorem ckV_RX3_37 : ckV RX3 37 mX3_replace 3 = true := sorry
theorem ckY_RX3_41 : Cond.methodLink RX3 41 arraycopyName ∈ lw_tbl := sorry
theorem ckS_RX3_47 : ckSN RX3 47 mX11_isPlace 1 = true := sorry
theorem ckF_RX3_51_3 : ckF RX3 51 3 4 = true := sorry
theorem ckU_RX3_55_7 : ckU RX3 55 RX7 RX7 ⟨RX7, "origin", "()LPicturePapers$Picture;"⟩ mX7_origin 0 = true := sorry
theorem ckU_RX3_55_0 : ckU RX3 55 RX0 RX7 ⟨RX7, "origin", "()LPicturePapers$Picture;"⟩ mX0_origin 0 = true := sorry
theorem ckU_RX3_55_6 : ckU RX3 55 RX6 RX7 ⟨RX7, "origin", "()LPicturePapers$Picture;"⟩ mX0_origin 0 = true := sorry
theorem ckM_RX3_61 : Cond.methodLink RX3 61 Lib.Math.max.name ∈ lw_tbl := sorry
theorem ckV_RX3_67 : ckV RX3 67 mX3_sum 0 = true := sorry
theorem ckV_RX3_71 : ckV RX3 71 mX3_has 1 = true := sorry
theorem ckM_RX3_74 : Cond.methodLink RX3 74 Lib.Math.min.name ∈ lw_tbl := sorry
theorem ckV_RX3_77 : ckV RX3 77 mX3_tellsBit 3 = true := sorry
theorem ckO_RX4_3 : Cond.methodLink RX4 3 Lib.objectInit ∈ lw_tbl := sorry
theorem ckF_RX4_9_4 : ckF RX4 9 4 0 = true := sorry
theorem ckF_RX4_15_4 : ckF RX4 15 4 2 = true := sorry
theorem ckF_RX4_18_4 : ckF RX4 18 4 1 = true := sorry
theorem ckS_RX4_22 : ckS RX4 22 mJ7_copyOf_59c91 2 = true := sorry
theorem ckF_RX4_28_5 : ckF RX4 28 5 0 = true := sorry
theorem ckY_RX4_33 : Cond.methodLink RX4 33 arraycopyName ∈ lw_tbl := sorry
theorem ckF_RX4_39_4 : ckF RX4 39 4 3 = true := sorry
theorem ckF_RX4_42_4 : ckF RX4 42 4 4 = true := sorry
theorem ckV_RX4_45 : ckV RX4 45 mX4_code 0 = true := sorry
theorem ckS_RX4_49 : ckS RX4 49 mX4_isKind 1 = true := sorry
theorem ckV_RX4_53 : ckV RX4 53 mX4_readNumber 1 = true := sorry
theorem ckF_RX4_56_4 : ckF RX4 56 4 5 = true := sorry
theorem ckV_RX4_59 : ckV RX4 59 mX4_readDigits 1 = true := sorry
theorem ckV_RX4_63 : ckV RX4 63 mX4_readShift 0 = true := sorry
theorem ckO_RX5_3 : Cond.methodLink RX5 3 Lib.objectInit ∈ lw_tbl := sorry
theorem ckF_RX5_9_5 : ckF RX5 9 5 0 = true := sorry
theorem ckF_RX5_15_5 : ckF RX5 15 5 1 = true := sorry
theorem ckF_RX5_19_5 : ckF RX5 19 5 2 = true := sorry
theorem ckF_RX5_23_5 : ckF RX5 23 5 3 = true := sorry
theorem ckS_RX5_26 : ckS RX5 26 mJ7_fill_53178 2 = true := sorry
theorem ckV_RX5_32 : ckV RX5 32 mX5_lacks 2 = true := sorry
theorem ckV_RX5_36 : ckV RX5 36 mX5_at 1 = true := sorry
theorem ckS_RX5_40 : ckSN RX5 40 mX11_isIn 3 = true := sorry
theorem ckI_RX6_7 : ckI RX6 7 mX0_init 5 = true := sorry
theorem ckV_RX6_13 : ckV RX6 13 mX8_leave 1 = true := sorry
theorem ckSU_RX6_19 : ckSU RX6 19 mX0_telling 1 = true := sorry
theorem ckU_RX6_23_6 : ckU RX6 23 RX6 RX7 ⟨RX6, "takenTelling", "(LPicturePapers$Trace;)I"⟩ mX7_takenTelling 1 = true := sorry
theorem ckO_RX7_3 : Cond.methodLink RX7 3 Lib.objectInit ∈ lw_tbl := sorry
theorem ckF_RX7_9_7 : ckF RX7 9 7 0 = true := sorry
theorem ckF_RX7_9_0 : ckF RX7 9 0 0 = true := sorry
theorem ckF_RX7_9_6 : ckF RX7 9 6 2 = true := sorry
theorem ckF_RX7_15_7 : ckF RX7 15 7 1 = true := sorry
theorem ckF_RX7_15_0 : ckF RX7 15 0 1 = true := sorry
theorem ckF_RX7_15_6 : ckF RX7 15 6 3 = true := sorry
theorem ckF_RX7_19_7 : ckF RX7 19 7 2 = true := sorry
theorem ckF_RX7_19_0 : ckF RX7 19 0 2 = true := sorry
theorem ckF_RX7_19_6 : ckF RX7 19 6 4 = true := sorry
theorem ckU_RX7_26_7 : ckU RX7 26 RX7 RX7 ⟨RX7, "takenTelling", "(LPicturePapers$Trace;)I"⟩ mX7_takenTelling 1 = true := sorry
theorem ckU_RX7_26_0 : ckU RX7 26 RX0 RX7 ⟨RX7, "takenTelling", "(LPicturePapers$Trace;)I"⟩ mX7_takenTelling 1 = true := sorry
theorem ckU_RX7_26_6 : ckU RX7 26 RX6 RX7 ⟨RX7, "takenTelling", "(LPicturePapers$Trace;)I"⟩ mX7_takenTelling 1 = true := sorry
theorem ckV_RX7_30 : ckV RX7 30 mX8_leave 1 = true := sorry
theorem ckO_RX8_1 : Cond.methodLink RX8 1 Lib.objectInit ∈ lw_tbl := sorry
theorem ckF_RX8_7_8 : ckF RX8 7 8 0 = true := sorry
theorem ckO_RX9_3 : Cond.methodLink RX9 3 Lib.objectInit ∈ lw_tbl := sorry
theorem ckF_RX9_9_9 : ckF RX9 9 9 0 = true := sorry
theorem ckF_RX9_15_3 : ckF RX9 15 3 1 = true := sorry
theorem ckS_RX9_20 : ckS RX9 20 mX9_above 2 = true := sorry
theorem ckO_RX10_3 : Cond.methodLink RX10 3 Lib.objectInit ∈ lw_tbl := sorry
theorem ckN_RX10_9 : ckN RX10 9 3 = true := sorry
theorem ckI_RX10_11 : ckI RX10 11 mX3_init 1 = true := sorry
theorem ckF_RX10_14_10 : ckF RX10 14 10 0 = true := sorry
theorem ckF_RX10_20_10 : ckF RX10 20 10 1 = true := sorry
theorem ckV_RX10_24 : ckV RX10 24 mX3_become 1 = true := sorry
theorem ckV_RX10_28 : ckV RX10 28 mX10_performOne 2 = true := sorry
theorem ckV_RX10_32 : ckV RX10 32 mX10_holds 4 = true := sorry
theorem ckV_RX10_36 : ckV RX10 36 mX10_cutOut 4 = true := sorry
theorem ckV_RX10_40 : ckV RX10 40 mX10_blur 4 = true := sorry
theorem ckV_RX10_43 : ckV RX10 43 mX10_turn 0 = true := sorry
theorem ckV_RX10_46 : ckV RX10 46 mX10_shift 1 = true := sorry
theorem ckV_RX10_49 : ckV RX10 49 mX10_saveWorse 1 = true := sorry
theorem ckF_RX10_52_3 : ckF RX10 52 3 2 = true := sorry
theorem ckF_RX10_56_3 : ckF RX10 56 3 3 = true := sorry
theorem ckS_RX10_59 : ckS RX10 59 mJ7_fill_53178 2 = true := sorry
theorem ckF_RX10_65_3 : ckF RX10 65 3 1 = true := sorry
theorem ckV_RX10_68 : ckV RX10 68 mX3_replace 3 = true := sorry
theorem ckM_RX10_72 : Cond.methodLink RX10 72 Lib.Math.min.name ∈ lw_tbl := sorry
theorem ckM_RX10_78 : Cond.methodLink RX10 78 Lib.Math.max.name ∈ lw_tbl := sorry
theorem ckO_RX11_3 : Cond.methodLink RX11 3 Lib.objectInit ∈ lw_tbl := sorry
theorem ckA_RX11_11 : ckA RX11 11 21 = true := sorry
theorem ckF_RX11_13_11 : ckF RX11 13 11 0 = true := sorry
theorem ckA_RX11_17 : ckA RX11 17 22 = true := sorry
theorem ckF_RX11_19_11 : ckF RX11 19 11 1 = true := sorry
theorem ckA_RX11_23 : ckA RX11 23 23 = true := sorry
theorem ckF_RX11_25_11 : ckF RX11 25 11 2 = true := sorry
theorem ckA_RX11_29 : ckA RX11 29 24 = true := sorry
theorem ckF_RX11_31_11 : ckF RX11 31 11 3 = true := sorry
theorem ckN_RX11_35 : ckN RX11 35 9 = true := sorry
theorem ckI_RX11_37 : ckIN RX11 37 mX9_init 0 = true := sorry
theorem ckF_RX11_38_11 : ckF RX11 38 11 4 = true := sorry
theorem ckN_RX11_42 : ckN RX11 42 4 = true := sorry
theorem ckI_RX11_44 : ckIN RX11 44 mX4_init 0 = true := sorry
theorem ckF_RX11_45_11 : ckF RX11 45 11 5 = true := sorry
theorem ckN_RX11_49 : ckN RX11 49 10 = true := sorry
theorem ckI_RX11_51 : ckIN RX11 51 mX10_init 0 = true := sorry
theorem ckF_RX11_52_11 : ckF RX11 52 11 6 = true := sorry
theorem ckN_RX11_56 : ckN RX11 56 8 = true := sorry
theorem ckI_RX11_58 : ckIN RX11 58 mX8_init 0 = true := sorry
theorem ckF_RX11_59_11 : ckF RX11 59 11 7 = true := sorry
theorem ckN_RX11_29 : ckN RX11 29 5 = true := sorry
theorem ckI_RX11_63 : ckIN RX11 63 mX5_init 0 = true := sorry
theorem ckF_RX11_64_11 : ckF RX11 64 11 12 = true := sorry
theorem ckV_RX11_68 : ckV RX11 68 mX11_sheetAt 1 = true := sorry
theorem ckS_RX11_72 : ckS RX11 72 mX11_isIn 3 = true := sorry
theorem ckS_RX11_76 : ckS RX11 76 mX11_isLane 1 = true := sorry
theorem ckV_RX11_80 : ckV RX11 80 mX5_faultOf 3 = true := sorry
theorem ckV_RX11_84 : ckV RX11 84 mX11_failed 1 = true := sorry
theorem ckV_RX11_88 : ckV RX11 88 mX5_holdsSquares 2 = true := sorry
theorem ckF_RX11_92_11 : ckF RX11 92 11 8 = true := sorry
theorem ckV_RX11_95 : ckV RX11 95 mX11_addPicture 0 = true := sorry
theorem ckV_RX11_99 : ckV RX11 99 mX3_fill 4 = true := sorry
theorem ckF_RX11_103_3 : ckF RX11 103 3 0 = true := sorry
theorem ckV_RX11_106 : ckV RX11 106 mX11_pictureAt 1 = true := sorry
theorem ckF_RX11_110_3 : ckF RX11 110 3 2 = true := sorry
theorem ckF_RX11_113_3 : ckF RX11 113 3 3 = true := sorry
theorem ckV_RX11_116 : ckV RX11 116 mX3_sum 0 = true := sorry
theorem ckV_RX11_120 : ckV RX11 120 mX9_rootOf 1 = true := sorry
theorem ckV_RX11_124 : ckV RX11 124 mX3_has 1 = true := sorry
theorem ckF_RX11_127_3 : ckF RX11 127 3 1 = true := sorry
theorem ckF_RX11_131_11 : ckF RX11 131 11 9 = true := sorry
theorem ckN_RX11_17 : ckN RX11 17 1 = true := sorry
theorem ckI_RX11_134 : ckI RX11 134 mX1_init 2 = true := sorry
theorem ckV_RX11_137 : ckV RX11 137 mX11_lensAt 1 = true := sorry
theorem ckF_RX11_141_1 : ckF RX11 141 1 2 = true := sorry
theorem ckS_RX11_144 : ckS RX11 144 mX11_isHour 1 = true := sorry
theorem ckF_RX11_147_3 : ckF RX11 147 3 4 = true := sorry
theorem ckN_RX11_151 : ckN RX11 151 7 = true := sorry
theorem ckV_RX11_153 : ckV RX11 153 mX11_sealOf 3 = true := sorry
theorem ckI_RX11_157 : ckI RX11 157 mX7_init 3 = true := sorry
theorem ckF_RX11_160_7 : ckF RX11 160 7 2 = true := sorry
theorem ckF_RX11_160_0 : ckF RX11 160 0 2 = true := sorry
theorem ckF_RX11_160_6 : ckF RX11 160 6 4 = true := sorry
theorem ckN_RX11_163 : ckN RX11 163 6 = true := sorry
theorem ckI_RX11_165 : ckI RX11 165 mX6_init 4 = true := sorry
theorem ckV_RX11_168 : ckV RX11 168 mX11_readActs 4 = true := sorry
theorem ckN_RX11_172 : ckN RX11 172 0 = true := sorry
theorem ckV_RX11_174 : ckV RX11 174 mX4_keptActs 0 = true := sorry
theorem ckI_RX11_178 : ckI RX11 178 mX0_init 5 = true := sorry
theorem ckF_RX11_181_4 : ckF RX11 181 4 0 = true := sorry
theorem ckF_RX11_184_4 : ckF RX11 184 4 1 = true := sorry
theorem ckV_RX11_187 : ckV RX11 187 mX10_perform 3 = true := sorry
theorem ckF_RX11_191_10 : ckF RX11 191 10 0 = true := sorry
theorem ckV_RX11_195 : ckV RX11 195 mX3_become 1 = true := sorry
theorem ckU_RX11_199_7 : ckU RX11 199 RX7 RX7 ⟨RX7, "kind", "()I"⟩ mX7_kind 0 = true := sorry
theorem ckU_RX11_199_0 : ckU RX11 199 RX0 RX7 ⟨RX7, "kind", "()I"⟩ mX0_kind 0 = true := sorry
theorem ckU_RX11_199_6 : ckU RX11 199 RX6 RX7 ⟨RX7, "kind", "()I"⟩ mX6_kind 0 = true := sorry
theorem ckF_RX11_202_7 : ckF RX11 202 7 0 = true := sorry
theorem ckF_RX11_202_0 : ckF RX11 202 0 0 = true := sorry
theorem ckF_RX11_202_6 : ckF RX11 202 6 2 = true := sorry
theorem ckF_RX11_206_1 : ckF RX11 206 1 0 = true := sorry
theorem ckF_RX11_207_7 : ckF RX11 207 7 1 = true := sorry
theorem ckF_RX11_207_0 : ckF RX11 207 0 1 = true := sorry
theorem ckF_RX11_207_6 : ckF RX11 207 6 3 = true := sorry
theorem ckU_RX11_210_7 : ckU RX11 210 RX7 RX7 ⟨RX7, "origin", "()LPicturePapers$Picture;"⟩ mX7_origin 0 = true := sorry
theorem ckU_RX11_210_0 : ckU RX11 210 RX0 RX7 ⟨RX7, "origin", "()LPicturePapers$Picture;"⟩ mX0_origin 0 = true := sorry
theorem ckU_RX11_210_6 : ckU RX11 210 RX6 RX7 ⟨RX7, "origin", "()LPicturePapers$Picture;"⟩ mX0_origin 0 = true := sorry
theorem ckU_RX11_213_7 : ckU RX11 213 RX7 RX7 ⟨RX7, "acts", "()[I"⟩ mX7_acts 0 = true := sorry
theorem ckU_RX11_213_0 : ckU RX11 213 RX0 RX7 ⟨RX7, "acts", "()[I"⟩ mX0_acts 0 = true := sorry
theorem ckU_RX11_213_6 : ckU RX11 213 RX6 RX7 ⟨RX7, "acts", "()[I"⟩ mX0_acts 0 = true := sorry
theorem ckV_RX11_215 : ckV RX11 215 mX11_voiceOf 2 = true := sorry
theorem ckV_RX11_219 : ckV RX11 219 mX11_firstFarPlace 2 = true := sorry
theorem ckF_RX11_222_11 : ckF RX11 222 11 11 = true := sorry
theorem ckV_RX11_225 : ckV RX11 225 mX3_origin 0 = true := sorry
theorem ckV_RX11_226 : ckV RX11 226 mX11_firstDoubt 1 = true := sorry
theorem ckS_RX11_229 : ckS RX11 229 mX11_isPlace 1 = true := sorry
theorem ckV_RX11_232 : ckV RX11 232 mX9_beside 2 = true := sorry
theorem ckV_RX11_236 : ckV RX11 236 mX5_at 1 = true := sorry
theorem ckS_RX11_239 : ckS RX11 239 mX9_above 2 = true := sorry
theorem ckS_RX11_242 : ckS RX11 242 mX11_isMark 1 = true := sorry
theorem ckV_RX11_245 : ckV RX11 245 mX3_imprint 1 = true := sorry
theorem ckV_RX11_248 : ckV RX11 248 mX3_agreement 1 = true := sorry
theorem ckL_RX11_251 : Cond.constantLong RX11 251 (-9223372036854775808) ∈ lw_tbl := sorry
theorem ckM_RX11_253 : Cond.methodLink RX11 253 Lib.Math.min.name ∈ lw_tbl := sorry
theorem ckS_RX11_258 : ckS RX11 258 mX11_waysOfAtLeast 2 = true := sorry
theorem ckL_RX11_262 : Cond.constantLong RX11 262 (2) ∈ lw_tbl := sorry
theorem ckS_RX11_264 : ckS RX11 264 mX11_likeness 2 = true := sorry
theorem ckV_RX11_268 : ckV RX11 268 mX11_countNearer 2 = true := sorry
theorem ckF_RX11_271_11 : ckF RX11 271 11 10 = true := sorry
theorem ckN_RX11_23 : ckN RX11 23 2 = true := sorry
theorem ckI_RX11_274 : ckI RX11 274 mX2_init 3 = true := sorry
theorem ckV_RX11_277 : ckV RX11 277 mX11_hoursOf 1 = true := sorry
theorem ckV_RX11_280 : ckV RX11 280 mX11_worthOf 1 = true := sorry
theorem ckF_RX11_283_2 : ckF RX11 283 2 0 = true := sorry
theorem ckV_RX11_286 : ckV RX11 286 mX5_renew 2 = true := sorry
theorem ckF_RX11_289_5 : ckF RX11 289 5 1 = true := sorry
theorem ckF_RX11_293_5 : ckF RX11 293 5 2 = true := sorry
theorem ckV_RX11_296 : ckV RX11 296 mX5_write 2 = true := sorry
theorem ckV_RX11_299 : ckV RX11 299 mX5_lacks 2 = true := sorry
theorem ckF_RX11_302_5 : ckF RX11 302 5 0 = true := sorry
theorem ckY_RX11_305 : Cond.methodLink RX11 305 arraycopyName ∈ lw_tbl := sorry
theorem ckU_RX11_311_7 : ckU RX11 311 RX7 RX7 ⟨RX7, "telling", "(LPicturePapers$Trace;)I"⟩ mX7_telling 1 = true := sorry
theorem ckU_RX11_311_0 : ckU RX11 311 RX0 RX7 ⟨RX7, "telling", "(LPicturePapers$Trace;)I"⟩ mX0_telling 1 = true := sorry
theorem ckU_RX11_311_6 : ckU RX11 311 RX6 RX7 ⟨RX7, "telling", "(LPicturePapers$Trace;)I"⟩ mX6_telling 1 = true := sorry
theorem ckU_RX11_315_7 : ckU RX11 315 RX7 RX7 ⟨RX7, "showing", "(LPicturePapers$Trace;)I"⟩ mX7_showing 1 = true := sorry
theorem ckU_RX11_315_0 : ckU RX11 315 RX0 RX7 ⟨RX7, "showing", "(LPicturePapers$Trace;)I"⟩ mX7_showing 1 = true := sorry
theorem ckU_RX11_315_6 : ckU RX11 315 RX6 RX7 ⟨RX7, "showing", "(LPicturePapers$Trace;)I"⟩ mX6_showing 1 = true := sorry
theorem ckF_RX11_318_8 : ckF RX11 318 8 0 = true := sorry
theorem ckV_RX11_321 : ckV RX11 321 mX11_countPapers 0 = true := sorry
theorem ckN_RX11_11 : ckN RX11 11 3 = true := sorry
theorem ckI_RX11_324 : ckI RX11 324 mX3_init 1 = true := sorry
theorem ckV_RX11_327 : ckV RX11 327 mX4_read 3 = true := sorry
theorem ckF_RX11_331_1 : ckF RX11 331 1 1 = true := sorry
theorem ckM_RX11_334 : Cond.methodLink RX11 334 Lib.Math.abs.name ∈ lw_tbl := sorry
theorem ckV_RX11_337 : ckV RX11 337 mX3_mean 0 = true := sorry
theorem ckV_RX11_340 : ckV RX11 340 mX3_least 0 = true := sorry
theorem ckV_RX11_343 : ckV RX11 343 mX3_greatest 0 = true := sorry
theorem ckF_RX11_346_2 : ckF RX11 346 2 1 = true := sorry
theorem ckF_RX11_349_2 : ckF RX11 349 2 2 = true := sorry
theorem ckO_RX12_1 : Cond.methodLink RX12 1 Lib.objectInit ∈ lw_tbl := sorry
theorem ckF_RX12_7_12 : ckF RX12 7 12 2 = true := sorry
theorem ckF_RX12_13_12 : ckF RX12 13 12 3 = true := sorry
theorem ckF_RX12_16_12 : ckF RX12 16 12 4 = true := sorry
theorem ckF_RX12_19_12 : ckF RX12 19 12 5 = true := sorry
theorem ckF_RX12_22_12 : ckF RX12 22 12 7 = true := sorry
theorem ckF_RX12_25_12 : ckF RX12 25 12 11 = true := sorry
theorem ckF_RX12_28_12 : ckF RX12 28 12 12 = true := sorry
theorem ckF_RX12_31_12 : ckF RX12 31 12 14 = true := sorry
theorem ckF_RX12_34_12 : ckF RX12 34 12 15 = true := sorry
theorem ckF_RX12_37_12 : ckF RX12 37 12 16 = true := sorry
theorem ckF_RX12_40_12 : ckF RX12 40 12 17 = true := sorry
theorem ckF_RX12_43_12 : ckF RX12 43 12 18 = true := sorry
theorem ckF_RX12_46_12 : ckF RX12 46 12 19 = true := sorry
theorem ckF_RX12_49_12 : ckF RX12 49 12 20 = true := sorry
theorem ckF_RX12_52_12 : ckF RX12 52 12 21 = true := sorry
theorem ckF_RX12_55_12 : ckF RX12 55 12 22 = true := sorry
theorem ckF_RX12_58_12 : ckF RX12 58 12 25 = true := sorry
theorem ckF_RX12_61_12 : ckF RX12 61 12 26 = true := sorry
theorem ckF_RX12_64_12 : ckF RX12 64 12 27 = true := sorry
theorem ckF_RX12_67_12 : ckF RX12 67 12 28 = true := sorry
theorem ckF_RX12_70_12 : ckF RX12 70 12 29 = true := sorry
theorem ckF_RX12_73_12 : ckF RX12 73 12 30 = true := sorry
theorem ckF_RX12_76_12 : ckF RX12 76 12 31 = true := sorry
theorem ckL_RX12_79 : Cond.constantLong RX12 79 (-9223372036854775808) ∈ lw_tbl := sorry
theorem ckF_RX12_81_12 : ckF RX12 81 12 0 = true := sorry
theorem ckS_RX12_85 : ckS RX12 85 mX12_lost 0 = true := sorry
theorem ckV_RX12_89 : ckV RX12 89 mX12_failed 1 = true := sorry
theorem ckS_RX12_93 : ckS RX12 93 mX12_isBeyond 3 = true := sorry
theorem ckL_RX12_97 : Cond.constantLong RX12 97 (2) ∈ lw_tbl := sorry
theorem ckS_RX12_99 : ckS RX12 99 mX12_in 3 = true := sorry
theorem ckL_RX12_103 : Cond.constantLong RX12 103 (999) ∈ lw_tbl := sorry
theorem ckF_RX12_105_12 : ckF RX12 105 12 1 = true := sorry
theorem ckL_RX12_108 : Cond.constantLong RX12 108 (15) ∈ lw_tbl := sorry
theorem ckS_RX12_110 : ckS RX12 110 mX12_noSheet 1 = true := sorry
theorem ckV_RX12_114 : ckV RX12 114 mX12_refused 1 = true := sorry
theorem ckL_RX12_117 : Cond.constantLong RX12 117 (4) ∈ lw_tbl := sorry
theorem ckS_RX12_119 : ckS RX12 119 mX12_isLane 1 = true := sorry
theorem ckV_RX12_122 : ckV RX12 122 mX12_barred 4 = true := sorry
theorem ckL_RX12_126 : Cond.constantLong RX12 126 (99) ∈ lw_tbl := sorry
theorem ckV_RX12_128 : ckV RX12 128 mX12_manySquares 1 = true := sorry
theorem ckV_RX12_131 : ckV RX12 131 mX12_placeOf 2 = true := sorry
theorem ckV_RX12_135 : ckV RX12 135 mX12_isThere 2 = true := sorry
theorem ckS_RX12_139 : ckS RX12 139 mX12_above 2 = true := sorry
theorem ckV_RX12_142 : ckV RX12 142 mX12_layTree 1 = true := sorry
theorem ckV_RX12_146 : ckV RX12 146 mX12_noPicture 1 = true := sorry
theorem ckV_RX12_149 : ckV RX12 149 mX12_sumOf 1 = true := sorry
theorem ckV_RX12_152 : ckV RX12 152 mX12_rootOf 1 = true := sorry
theorem ckL_RX12_155 : Cond.constantLong RX12 155 (10) ∈ lw_tbl := sorry
theorem ckL_RX12_157 : Cond.constantLong RX12 157 (25) ∈ lw_tbl := sorry
theorem ckF_RX12_159_12 : ckF RX12 159 12 8 = true := sorry
theorem ckL_RX12_162 : Cond.constantLong RX12 162 (48) ∈ lw_tbl := sorry
theorem ckL_RX12_164 : Cond.constantLong RX12 164 (57) ∈ lw_tbl := sorry
theorem ckF_RX12_166_12 : ckF RX12 166 12 6 = true := sorry
theorem ckV_RX12_169 : ckV RX12 169 mX12_isDigit 2 = true := sorry
theorem ckL_RX12_172 : Cond.constantLong RX12 172 (9) ∈ lw_tbl := sorry
theorem ckV_RX12_174 : ckV RX12 174 mX12_readsNumbers 3 = true := sorry
theorem ckF_RX12_178_12 : ckF RX12 178 12 9 = true := sorry
theorem ckF_RX12_181_12 : ckF RX12 181 12 10 = true := sorry
theorem ckS_RX12_184 : ckS RX12 184 mX12_lesser 2 = true := sorry
theorem ckS_RX12_187 : ckS RX12 187 mX12_greater 2 = true := sorry
theorem ckV_RX12_190 : ckV RX12 190 mX12_doPart 2 = true := sorry
theorem ckV_RX12_194 : ckV RX12 194 mX12_turn 0 = true := sorry
theorem ckS_RX12_197 : ckS RX12 197 mX12_tinted 3 = true := sorry
theorem ckV_RX12_201 : ckV RX12 201 mX12_readActs 2 = true := sorry
theorem ckV_RX12_204 : ckV RX12 204 mX12_takeInHand 1 = true := sorry
theorem ckV_RX12_207 : ckV RX12 207 mX12_doActs 3 = true := sorry
theorem ckF_RX12_211_12 : ckF RX12 211 12 13 = true := sorry
theorem ckL_RX12_214 : Cond.constantLong RX12 214 (9972) ∈ lw_tbl := sorry
theorem ckV_RX12_216 : ckV RX12 216 mX12_noLens 1 = true := sorry
theorem ckL_RX12_219 : Cond.constantLong RX12 219 (1000) ∈ lw_tbl := sorry
theorem ckV_RX12_221 : ckV RX12 221 mX12_sealOf 3 = true := sorry
theorem ckS_RX12_224 : ckS RX12 224 mX12_isHour 1 = true := sorry
theorem ckV_RX12_227 : ckV RX12 227 mX12_noLine 1 = true := sorry
theorem ckV_RX12_230 : ckV RX12 230 mX12_write 5 = true := sorry
theorem ckL_RX12_234 : Cond.constantLong RX12 234 (5) ∈ lw_tbl := sorry
theorem ckL_RX12_236 : Cond.constantLong RX12 236 (20) ∈ lw_tbl := sorry
theorem ckF_RX12_238_12 : ckF RX12 238 12 23 = true := sorry
theorem ckS_RX12_241 : ckS RX12 241 mX12_sizeOf 1 = true := sorry
theorem ckV_RX12_244 : ckV RX12 244 mX12_played 1 = true := sorry
theorem ckV_RX12_247 : ckV RX12 247 mX12_speaking 1 = true := sorry
theorem ckL_RX12_250 : Cond.constantLong RX12 250 (-1) ∈ lw_tbl := sorry
theorem ckL_RX12_252 : Cond.constantLong RX12 252 (11) ∈ lw_tbl := sorry
theorem ckV_RX12_254 : ckV RX12 254 mX12_nextOn 1 = true := sorry
theorem ckV_RX12_257 : ckV RX12 257 mX12_doubtOn 1 = true := sorry
theorem ckL_RX12_260 : Cond.constantLong RX12 260 (3) ∈ lw_tbl := sorry
theorem ckS_RX12_262 : ckS RX12 262 mX12_hasBit 2 = true := sorry
theorem ckL_RX12_265 : Cond.constantLong RX12 265 (255) ∈ lw_tbl := sorry
theorem ckS_RX12_267 : ckS RX12 267 mX12_isMark 1 = true := sorry
theorem ckV_RX12_270 : ckV RX12 270 mX12_looked 1 = true := sorry
theorem ckV_RX12_273 : ckV RX12 273 mX12_isSo 3 = true := sorry
theorem ckV_RX12_276 : ckV RX12 276 mX12_foundIn 2 = true := sorry
theorem ckS_RX12_279 : ckS RX12 279 mX12_share 3 = true := sorry
theorem ckV_RX12_283 : ckV RX12 283 mX12_extreme 2 = true := sorry
theorem ckV_RX12_286 : ckV RX12 286 mX12_likeness 2 = true := sorry
theorem ckL_RX12_289 : Cond.constantLong RX12 289 (24) ∈ lw_tbl := sorry
theorem ckF_RX12_291_12 : ckF RX12 291 12 24 = true := sorry
theorem ckV_RX12_294 : ckV RX12 294 mX12_ofLooks 2 = true := sorry
theorem ckV_RX12_297 : ckV RX12 297 mX12_noCell 2 = true := sorry
theorem ckV_RX12_300 : ckV RX12 300 mX12_failedLong 1 = true := sorry
theorem ckF_RX12_304_12 : ckF RX12 304 12 32 = true := sorry
theorem ckV_RX12_307 : ckV RX12 307 mX12_traced 1 = true := sorry
theorem ckM_RJ7_304 : Cond.methodLink RJ7 304 Lib.Math.min.name ∈ lw_tbl := sorry
theorem ckY_RJ7_150 : Cond.methodLink RJ7 150 arraycopyName ∈ lw_tbl := sorry
theorem ckP12_0 : ckP 12 0 = true := sorry
theorem ckP12_1 : ckP 12 1 = true := sorry
theorem ckP12_2 : ckP 12 2 = false := sorry
theorem ckP12_3 : ckP 12 3 = false := sorry
theorem ckP12_4 : ckP 12 4 = false := sorry
theorem ckP12_5 : ckP 12 5 = false := sorry
theorem ckP12_6 : ckP 12 6 = true := sorry
theorem ckP12_7 : ckP 12 7 = false := sorry
theorem ckP12_8 : ckP 12 8 = true := sorry
theorem ckP12_9 : ckP 12 9 = true := sorry
theorem ckP12_10 : ckP 12 10 = true := sorry
theorem ckP12_11 : ckP 12 11 = false := sorry
theorem ckP12_12 : ckP 12 12 = false := sorry
theorem ckP12_13 : ckP 12 13 = true := sorry
theorem ckP12_14 : ckP 12 14 = false := sorry
theorem ckP12_15 : ckP 12 15 = false := sorry
theorem ckP12_16 : ckP 12 16 = false := sorry
theorem ckP12_17 : ckP 12 17 = false := sorry
theorem ckP12_18 : ckP 12 18 = false := sorry
theorem ckP12_19 : ckP 12 19 = false := sorry
theorem ckP12_20 : ckP 12 20 = false := sorry
theorem ckP12_21 : ckP 12 21 = false := sorry
theorem ckP12_22 : ckP 12 22 = false := sorry
theorem ckP12_23 : ckP 12 23 = true := sorry
theorem ckP12_24 : ckP 12 24 = true := sorry
theorem ckP12_25 : ckP 12 25 = false := sorry
theorem ckP12_26 : ckP 12 26 = false := sorry
theorem ckP12_27 : ckP 12 27 = false := sorry
theorem ckP12_28 : ckP 12 28 = false := sorry
theorem ckP12_29 : ckP 12 29 = false := sorry
theorem ckP12_30 : ckP 12 30 = false := sorry
theorem ckP12_31 : ckP 12 31 = false := sorry
theorem ckP12_32 : ckP 12 32 = true := sorry
end
section
/-! the reference: static methods and small readers (rows laid by gen/ref1.py) -/
theorem lt0 : (0 : Int32) = nI 0 := sorry
theorem lt1 : (1 : Int32) = nI 1 := sorry
theorem lt2 : (2 : Int32) = nI 2 := sorry
theorem lt3 : (3 : Int32) = nI 3 := sorry
theorem lt4 : (4 : Int32) = nI 4 := sorry
theorem lt5 : (5 : Int32) = nI 5 := sorry
theorem lt6 : (6 : Int32) = nI 6 := sorry
theorem lt9 : (9 : Int32) = nI 9 := sorry
theorem lt12 : (12 : Int32) = nI 12 := sorry
theorem lt15 : (15 : Int32) = nI 15 := sorry
theorem lt16 : (16 : Int32) = nI 16 := sorry
theorem lt25 : (25 : Int32) = nI 25 := sorry
theorem lt32 : (32 : Int32) = nI 32 := sorry
theorem lt60 : (60 : Int32) = nI 60 := sorry
section
variable {Y : YY} {R : Room} {Q : Option Value → Mem → Prop} {ls : List (Option Value)} {st : List Value} {M M0 : Mem} {cs ss : Nat} {τ : TT}
theorem rw_call1 (pc : Nat) {Z : YY} {rm : Room} {as st0 : List Value} {r : Value} {τ' : TT} {idx : Nat} (hd : decode Y.2.1 pc = .ok (.invokevirtual idx, 3)) (hM : RD Z rm as τ (some r) τ') (ck : ckV Y.1.cls idx Z as.length = true) (hcd : inTbl Z) (hcl : Z.1.cls = RX12) (hW : RO τ M0 M) (hst : st0 = as.reverse ++ .ref 25 :: st) (hw : (st.map fun v => v.category).sum ≤ 8) (hR1 : rmOK R rm Z cs ss) (hz : (rm.cells, rm.slots) = (0, 0))
    (kk : ∀ M, RO τ' M0 M → AW Y R Q (pc + 3) ls (r :: st) M cs ss) : AW Y R Q pc ls st0 M cs ss := sorry
theorem rw_call0 (pc : Nat) {Z : YY} {rm : Room} {as st0 : List Value} {τ' : TT} {idx : Nat} (hd : decode Y.2.1 pc = .ok (.invokevirtual idx, 3)) (hM : RD Z rm as τ none τ') (ck : ckV Y.1.cls idx Z as.length = true) (hcd : inTbl Z) (hcl : Z.1.cls = RX12) (hW : RO τ M0 M) (hst : st0 = as.reverse ++ .ref 25 :: st) (hw : (st.map fun v => v.category).sum ≤ 8) (hR1 : rmOK R rm Z cs ss) (hz : (rm.cells, rm.slots) = (0, 0))
    (kk : ∀ M, RO τ' M0 M → AW Y R Q (pc + 3) ls st M cs ss) : AW Y R Q pc ls st0 M cs ss := sorry
theorem sd_call1 (pc : Nat) {Z : YY} {rm : Room} {as st0 : List Value} {r : Value} {idx : Nat} (hd : decode Y.2.1 pc = .ok (.invokestatic idx, 3)) (hM : SD Z rm as (some r)) (ck : ckS Y.1.cls idx Z as.length = true) (hcd : inTbl Z) (hst : st0 = as.reverse ++ st) (hw : (st.map fun v => v.category).sum ≤ 8) (hR1 : rmOK R rm Z cs ss) (hz : (rm.cells, rm.slots) = (0, 0))
    (kk : AW Y R Q (pc + 3) ls (r :: st) M cs ss) : AW Y R Q pc ls st0 M cs ss := sorry
end
theorem nI_sub' {a b : Nat} (h : b ≤ a) : nI a - nI b = nI (a - b) := sorry
section
variable {Y : YY} {R : Room} {Q : Option Value → Mem → Prop} {ls : List (Option Value)} {st : List Value} {M M0 : Mem} {cs ss : Nat} {τ : TT}
theorem aw_topi {pc : Nat} {v w : Int32} (h : v = w) (kk : AW Y R Q pc ls (.int w :: st) M cs ss) : AW Y R Q pc ls (.int v :: st) M cs ss := sorry
theorem aw_iaddN (pc a b : Nat) {x1 y1 : Int32} (hd : decode Y.2.1 pc = .ok (.iadd, 1)) (hx : x1 = nI a) (hy : y1 = nI b) (kk : AW Y R Q (pc + 1) ls (.int (nI (a + b)) :: st) M cs ss) : AW Y R Q pc ls (.int y1 :: .int x1 :: st) M cs ss := sorry
theorem aw_imulN (pc a b : Nat) {x1 y1 : Int32} (hd : decode Y.2.1 pc = .ok (.imul, 1)) (hx : x1 = nI a) (hy : y1 = nI b) (kk : AW Y R Q (pc + 1) ls (.int (nI (a * b)) :: st) M cs ss) : AW Y R Q pc ls (.int y1 :: .int x1 :: st) M cs ss := sorry
theorem aw_isubN (pc a b : Nat) {x1 y1 : Int32} (hd : decode Y.2.1 pc = .ok (.isub, 1)) (hx : x1 = nI a) (hy : y1 = nI b) (h : b ≤ a) (kk : AW Y R Q (pc + 1) ls (.int (nI (a - b)) :: st) M cs ss) : AW Y R Q pc ls (.int y1 :: .int x1 :: st) M cs ss := sorry
theorem aw_idivN (pc a b : Nat) {x1 y1 : Int32} (hd : decode Y.2.1 pc = .ok (.idiv, 1)) (hx : x1 = nI a) (hy : y1 = nI b) (ha : a < 2 ^ 31) (h0 : 0 < b) (hb : b < 2 ^ 31) (kk : AW Y R Q (pc + 1) ls (.int (nI (a / b)) :: st) M cs ss) : AW Y R Q pc ls (.int y1 :: .int x1 :: st) M cs ss := sorry
theorem aw_iremN (pc a b : Nat) {x1 y1 : Int32} (hd : decode Y.2.1 pc = .ok (.irem, 1)) (hx : x1 = nI a) (hy : y1 = nI b) (ha : a < 2 ^ 31) (h0 : 0 < b) (hb : b < 2 ^ 31) (kk : AW Y R Q (pc + 1) ls (.int (nI (a % b)) :: st) M cs ss) : AW Y R Q pc ls (.int y1 :: .int x1 :: st) M cs ss := sorry
theorem aw_icmp_eqN (pc tgt a b : Nat) {x1 y1 : Int32} {off : Int} (hd : decode Y.2.1 pc = .ok (.if_icmp .eq off, 3)) (ht : (pc : Int) + off = (tgt : Int)) (hx : x1 = nI a) (hy : y1 = nI b) (ha : a < 2 ^ 31) (hb : b < 2 ^ 31) (kt : a = b → AW Y R Q tgt ls st M cs ss) (kf : ¬ a = b → AW Y R Q (pc + 3) ls st M cs ss) : AW Y R Q pc ls (.int y1 :: .int x1 :: st) M cs ss := sorry
theorem aw_icmp_neN (pc tgt a b : Nat) {x1 y1 : Int32} {off : Int} (hd : decode Y.2.1 pc = .ok (.if_icmp .ne off, 3)) (ht : (pc : Int) + off = (tgt : Int)) (hx : x1 = nI a) (hy : y1 = nI b) (ha : a < 2 ^ 31) (hb : b < 2 ^ 31) (kt : ¬ a = b → AW Y R Q tgt ls st M cs ss) (kf : a = b → AW Y R Q (pc + 3) ls st M cs ss) : AW Y R Q pc ls (.int y1 :: .int x1 :: st) M cs ss := sorry
theorem aw_icmp_ltN (pc tgt a b : Nat) {x1 y1 : Int32} {off : Int} (hd : decode Y.2.1 pc = .ok (.if_icmp .lt off, 3)) (ht : (pc : Int) + off = (tgt : Int)) (hx : x1 = nI a) (hy : y1 = nI b) (ha : a < 2 ^ 31) (hb : b < 2 ^ 31) (kt : a < b → AW Y R Q tgt ls st M cs ss) (kf : b ≤ a → AW Y R Q (pc + 3) ls st M cs ss) : AW Y R Q pc ls (.int y1 :: .int x1 :: st) M cs ss := sorry
theorem aw_icmp_geN (pc tgt a b : Nat) {x1 y1 : Int32} {off : Int} (hd : decode Y.2.1 pc = .ok (.if_icmp .ge off, 3)) (ht : (pc : Int) + off = (tgt : Int)) (hx : x1 = nI a) (hy : y1 = nI b) (ha : a < 2 ^ 31) (hb : b < 2 ^ 31) (kt : b ≤ a → AW Y R Q tgt ls st M cs ss) (kf : a < b → AW Y R Q (pc + 3) ls st M cs ss) : AW Y R Q pc ls (.int y1 :: .int x1 :: st) M cs ss := sorry
theorem aw_icmp_gtN (pc tgt a b : Nat) {x1 y1 : Int32} {off : Int} (hd : decode Y.2.1 pc = .ok (.if_icmp .gt off, 3)) (ht : (pc : Int) + off = (tgt : Int)) (hx : x1 = nI a) (hy : y1 = nI b) (ha : a < 2 ^ 31) (hb : b < 2 ^ 31) (kt : b < a → AW Y R Q tgt ls st M cs ss) (kf : a ≤ b → AW Y R Q (pc + 3) ls st M cs ss) : AW Y R Q pc ls (.int y1 :: .int x1 :: st) M cs ss := sorry
theorem aw_icmp_leN (pc tgt a b : Nat) {x1 y1 : Int32} {off : Int} (hd : decode Y.2.1 pc = .ok (.if_icmp .le off, 3)) (ht : (pc : Int) + off = (tgt : Int)) (hx : x1 = nI a) (hy : y1 = nI b) (ha : a < 2 ^ 31) (hb : b < 2 ^ 31) (kt : a ≤ b → AW Y R Q tgt ls st M cs ss) (kf : b < a → AW Y R Q (pc + 3) ls st M cs ss) : AW Y R Q pc ls (.int y1 :: .int x1 :: st) M cs ss := sorry
theorem aw_if_eqN (pc tgt a : Nat) {x1 : Int32} {off : Int} (hd : decode Y.2.1 pc = .ok (.ifCond .eq off, 3)) (ht : (pc : Int) + off = (tgt : Int)) (hx : x1 = nI a) (ha : a < 2 ^ 31) (kt : a = 0 → AW Y R Q tgt ls st M cs ss) (kf : 0 < a → AW Y R Q (pc + 3) ls st M cs ss) : AW Y R Q pc ls (.int x1 :: st) M cs ss := sorry
theorem aw_if_neN (pc tgt a : Nat) {x1 : Int32} {off : Int} (hd : decode Y.2.1 pc = .ok (.ifCond .ne off, 3)) (ht : (pc : Int) + off = (tgt : Int)) (hx : x1 = nI a) (ha : a < 2 ^ 31) (kt : 0 < a → AW Y R Q tgt ls st M cs ss) (kf : a = 0 → AW Y R Q (pc + 3) ls st M cs ss) : AW Y R Q pc ls (.int x1 :: st) M cs ss := sorry
theorem aw_if_leN (pc tgt a : Nat) {x1 : Int32} {off : Int} (hd : decode Y.2.1 pc = .ok (.ifCond .le off, 3)) (ht : (pc : Int) + off = (tgt : Int)) (hx : x1 = nI a) (ha : a < 2 ^ 31) (kt : a = 0 → AW Y R Q tgt ls st M cs ss) (kf : 0 < a → AW Y R Q (pc + 3) ls st M cs ss) : AW Y R Q pc ls (.int x1 :: st) M cs ss := sorry
theorem aw_if_gtN (pc tgt a : Nat) {x1 : Int32} {off : Int} (hd : decode Y.2.1 pc = .ok (.ifCond .gt off, 3)) (ht : (pc : Int) + off = (tgt : Int)) (hx : x1 = nI a) (ha : a < 2 ^ 31) (kt : 0 < a → AW Y R Q tgt ls st M cs ss) (kf : a = 0 → AW Y R Q (pc + 3) ls st M cs ss) : AW Y R Q pc ls (.int x1 :: st) M cs ss := sorry
theorem aw_if_ltN (pc tgt a : Nat) {x1 : Int32} {off : Int} (hd : decode Y.2.1 pc = .ok (.ifCond .lt off, 3)) (ht : (pc : Int) + off = (tgt : Int)) (hx : x1 = nI a) (ha : a < 2 ^ 31) (kf : AW Y R Q (pc + 3) ls st M cs ss) : AW Y R Q pc ls (.int x1 :: st) M cs ss := sorry
theorem aw_if_geN (pc tgt a : Nat) {x1 : Int32} {off : Int} (hd : decode Y.2.1 pc = .ok (.ifCond .ge off, 3)) (ht : (pc : Int) + off = (tgt : Int)) (hx : x1 = nI a) (ha : a < 2 ^ 31) (kt : AW Y R Q tgt ls st M cs ss) : AW Y R Q pc ls (.int x1 :: st) M cs ss := sorry
end
theorem lc_lt {x y : Int64} : lg_cmp x y < 0 ↔ x < y := sorry
theorem lc_gt {x y : Int64} : 0 < lg_cmp x y ↔ y < x := sorry
theorem lc_le {x y : Int64} : lg_cmp x y ≤ 0 ↔ x ≤ y := sorry
theorem lc_ge {x y : Int64} : 0 ≤ lg_cmp x y ↔ y ≤ x := sorry
theorem bi_congr {c d : Prop} [Decidable c] [Decidable d] (h : c ↔ d) : bi c = bi d := sorry
theorem sd_r {Z : YY} {rm : Room} {as : List Value} {r r' : Int32} (h : SD Z rm as (some (.int r))) (e : r = r') : SD Z rm as (some (.int r')) := sorry
theorem nl {a b : Prop} (h : ¬ a) : ¬ (a ∧ b) := sorry
theorem nr {a b : Prop} (h : ¬ b) : ¬ (a ∧ b) := sorry
theorem nn {a : Prop} (h : a) : ¬ ¬ a := sorry
/-- an index as the machine has it -/
abbrev ir (p : Int32) (n : Nat) : Prop := 0 ≤ p.toInt ∧ p.toInt < (n : Int)

def rmX12_in : Room := { frames := 0, cells := 0, slots := 0, locals := 0 }
set_option maxHeartbeats 4000000 in
set_option maxRecDepth 100000 in
theorem c_X12_in {v l h : Int64} : SD mX12_in rmX12_in [.long v, .long l, .long h] (some (.int (bi (l ≤ v ∧ v ≤ h)))) := sorry
theorem c_in2 {v : Int32} {L H : Int64} (l h : Int) (hl : L.toInt = l) (hh : H.toInt = h) : SD mX12_in rmX12_in [.long v.toInt64, .long L, .long H] (some (.int (bi (l ≤ v.toInt ∧ v.toInt ≤ h)))) := sorry
def rmX12_lost : Room := { frames := 0, cells := 0, slots := 0, locals := 0 }
set_option maxHeartbeats 4000000 in
set_option maxRecDepth 100000 in
theorem c_X12_lost  : SD mX12_lost rmX12_lost [] (some (.long (-9223372036854775808))) := sorry
def rmX12_hasBit : Room := { frames := 0, cells := 0, slots := 0, locals := 0 }
set_option maxHeartbeats 4000000 in
set_option maxRecDepth 100000 in
theorem c_X12_hasBit {s k : Int32} : SD mX12_hasBit rmX12_hasBit [.int s, .int k] (some (.int (bi ((s >>> (k &&& 31)) &&& 1 = 1)))) := sorry
def szO (v : Int32) : Int32 := if v < 0 then -v else v
def lsr (a b : Int32) : Int32 := if a < b then a else b
def gtr (a b : Int32) : Int32 := if b < a then a else b
def rmX12_sizeOf : Room := { frames := 0, cells := 0, slots := 0, locals := 0 }
set_option maxHeartbeats 4000000 in
set_option maxRecDepth 100000 in
theorem c_X12_sizeOf {v : Int32} : SD mX12_sizeOf rmX12_sizeOf [.int v] (some (.int (szO v))) := sorry
def rmX12_lesser : Room := { frames := 0, cells := 0, slots := 0, locals := 0 }
set_option maxHeartbeats 4000000 in
set_option maxRecDepth 100000 in
theorem c_X12_lesser {a b : Int32} : SD mX12_lesser rmX12_lesser [.int a, .int b] (some (.int (lsr a b))) := sorry
def rmX12_greater : Room := { frames := 0, cells := 0, slots := 0, locals := 0 }
set_option maxHeartbeats 4000000 in
set_option maxRecDepth 100000 in
theorem c_X12_greater {a b : Int32} : SD mX12_greater rmX12_greater [.int a, .int b] (some (.int (gtr a b))) := sorry
def rmX12_isLane : Room := { frames := 1, cells := 0, slots := 0, locals := 25 }
set_option maxHeartbeats 4000000 in
set_option maxRecDepth 100000 in
theorem c_X12_isLane {v : Int32} : SD mX12_isLane rmX12_isLane [.int v] (some (.int (bi ((0 : Int) ≤ v.toInt ∧ v.toInt ≤ 2)))) := sorry
def rmX12_isHour : Room := { frames := 1, cells := 0, slots := 0, locals := 25 }
set_option maxHeartbeats 4000000 in
set_option maxRecDepth 100000 in
theorem c_X12_isHour {v : Int32} : SD mX12_isHour rmX12_isHour [.int v] (some (.int (bi ((0 : Int) ≤ v.toInt ∧ v.toInt ≤ 999)))) := sorry
def rmX12_isMark : Room := { frames := 1, cells := 0, slots := 0, locals := 25 }
set_option maxHeartbeats 4000000 in
set_option maxRecDepth 100000 in
theorem c_X12_isMark {v : Int32} : SD mX12_isMark rmX12_isMark [.int v] (some (.int (bi ((0 : Int) ≤ v.toInt ∧ v.toInt ≤ 255)))) := sorry
def rmX12_noSheet : Room := { frames := 1, cells := 0, slots := 0, locals := 25 }
set_option maxHeartbeats 4000000 in
set_option maxRecDepth 100000 in
theorem c_X12_noSheet {v : Int32} : SD mX12_noSheet rmX12_noSheet [.int v] (some (.int (bi (¬ ((0 : Int) ≤ v.toInt ∧ v.toInt ≤ 3))))) := sorry
def abv (l r : Int32) : Int32 := 31 * l + 17 * r + 5 - (31 * l + 17 * r + 5) / 9973 * 9973
def rmX12_above : Room := { frames := 0, cells := 0, slots := 0, locals := 0 }
set_option maxHeartbeats 4000000 in
set_option maxRecDepth 100000 in
theorem c_X12_above {l r : Int32} : SD mX12_above rmX12_above [.int l, .int r] (some (.int (abv l r))) := sorry
def rmX12_isBeyond : Room := { frames := 0, cells := 0, slots := 0, locals := 0 }
set_option maxHeartbeats 4000000 in
set_option maxRecDepth 100000 in
theorem c_X12_isBeyond {i : Int32} {n : Int64} {a : Int32} : SD mX12_isBeyond rmX12_isBeyond [.int i, .long n, .int a] (some (.int (bi (i < 0 ∨ n < 0 ∨ a.toInt64 < i.toInt64 + n)))) := sorry
def tnt (v c b : Int32) : Int32 := if c = 108 then lsr 99 (v + b) else if c = 109 then gtr 0 (v - b) else v / b * b
def rmX12_tinted : Room := { frames := 1, cells := 0, slots := 0, locals := 21 }
set_option maxHeartbeats 4000000 in
set_option maxRecDepth 100000 in
theorem c_X12_tinted {v c b : Int32} (hb : ¬ b = 0) : SD mX12_tinted rmX12_tinted [.int v, .int c, .int b] (some (.int (tnt v c b))) := sorry
end
section
/-! the reference: its readers (rows laid by gen/ref2.py). What a table is like -/
def nP (τ : TT) : Nat := (τ 1 0).toNatClampNeg
def nL (τ : TT) : Nat := (τ 13 0).toNatClampNeg
def nK (τ : TT) : Nat := (τ 24 0).toNatClampNeg
def wd (τ : TT) (p : Nat) : Nat := (τ 2 p).toNatClampNeg
def hg (τ : TT) (p : Nat) : Nat := (τ 3 p).toNatClampNeg
/-- pictures: how many, how wide, how high -/
def WP (τ : TT) : Prop := (nP τ ≤ 12 ∧ τ 1 0 = nI (nP τ)) ∧ ∀ p, p < nP τ → (1 ≤ wd τ p ∧ wd τ p ≤ 4 ∧ τ 2 p = nI (wd τ p)) ∧ (1 ≤ hg τ p ∧ hg τ p ≤ 4 ∧ τ 3 p = nI (hg τ p))
abbrev thr (τ : TT) (p k : Nat) : Prop := k % 4 < wd τ p ∧ k / 4 < hg τ p
def plc (τ : TT) (p k : Nat) : Nat := k % wd τ p + 4 * (k / wd τ p)
def rsum (τ : TT) (p : Nat) : Nat → Int32
  | 0 => 0
  | k + 1 => rsum τ p k + τ 4 (16 * p + plc τ p k)
theorem n12m1 : ∀ n, n < 61 → ((nI n).toInt64 - 1).toInt = (n : Int) - 1 := sorry
theorem ir_of {v : Int32} {n : Nat} (h : ir v n) (hn : n < 2 ^ 31) : ∃ k, k < n ∧ v = nI k := sorry
theorem ir_nI {k n : Nat} (hn : n < 2 ^ 31) (h : k < n) : ir (nI k) n := sorry
theorem rd_r {Z : YY} {rm : Room} {as : List Value} {τ τ' : TT} {r r' : Int32} (h : RD Z rm as τ (some (.int r)) τ') (e : r = r') : RD Z rm as τ (some (.int r')) τ' := sorry
theorem wmul {a b : Nat} (ha : a ≤ 4) (hb : b ≤ 4) : a * b ≤ 16 := sorry
theorem plc_lt {τ : TT} {p k : Nat} (hw : 1 ≤ wd τ p ∧ wd τ p ≤ 4) (hh : hg τ p ≤ 4) (hk : k < wd τ p * hg τ p) : plc τ p k < 16 ∧ thr τ p (plc τ p k) := sorry
def rmX12_refused : Room := { frames := 0, cells := 0, slots := 0, locals := 0 }
set_option maxHeartbeats 4000000 in
set_option maxRecDepth 100000 in
theorem c_X12_refused {τ : TT} {c : Int32} : RD mX12_refused rmX12_refused [.int c] τ (some (.int c)) (tu τ 0 0 0) := sorry
def rmX12_failed : Room := { frames := 0, cells := 0, slots := 0, locals := 0 }
set_option maxHeartbeats 4000000 in
set_option maxRecDepth 100000 in
theorem c_X12_failed {τ : TT} {c : Int32} : RD mX12_failed rmX12_failed [.int c] τ (some (.int (-10 - c))) (tu τ 0 0 c) := sorry
def rmX12_failedLong : Room := { frames := 1, cells := 0, slots := 0, locals := 19 }
set_option maxHeartbeats 4000000 in
set_option maxRecDepth 100000 in
theorem c_X12_failedLong {τ : TT} {c : Int32} : RD mX12_failedLong rmX12_failedLong [.int c] τ (some (.long (-9223372036854775808))) (tu τ 0 0 c) := sorry
def rmX12_noPicture : Room := { frames := 1, cells := 0, slots := 0, locals := 25 }
set_option maxHeartbeats 4000000 in
set_option maxRecDepth 100000 in
theorem c_X12_noPicture {τ : TT} {v : Int32} (hw : WP τ) : RD mX12_noPicture rmX12_noPicture [.int v] τ (some (.int (bi (¬ ir v (nP τ))))) (τ) := sorry
def rmX12_isThere : Room := { frames := 1, cells := 0, slots := 0, locals := 25 }
set_option maxHeartbeats 4000000 in
set_option maxRecDepth 100000 in
theorem c_X12_isThere {τ : TT} {p : Nat} {j : Int32} (hw : WP τ) (hp : p < nP τ) : RD mX12_isThere rmX12_isThere [.int (nI p), .int j] τ (some (.int (bi (ir j 16 ∧ thr τ p j.toNatClampNeg)))) (τ) := sorry
theorem c_isThereN {τ : TT} {p k : Nat} (hw : WP τ) (hp : p < nP τ) (hk : k < 16) : RD mX12_isThere rmX12_isThere [.int (nI p), .int (nI k)] τ (some (.int (bi (thr τ p k)))) τ := sorry
def rmX12_manySquares : Room := { frames := 0, cells := 0, slots := 0, locals := 0 }
set_option maxHeartbeats 4000000 in
set_option maxRecDepth 100000 in
theorem c_X12_manySquares {τ : TT} {p : Nat} (hw : WP τ) (hp : p < nP τ) : RD mX12_manySquares rmX12_manySquares [.int (nI p)] τ (some (.int (nI (wd τ p * hg τ p)))) (τ) := sorry
def rmX12_placeOf : Room := { frames := 0, cells := 0, slots := 0, locals := 0 }
set_option maxHeartbeats 4000000 in
set_option maxRecDepth 100000 in
theorem c_X12_placeOf {τ : TT} {p k : Nat} (hw : WP τ) (hp : p < nP τ) (hk : k < 100) : RD mX12_placeOf rmX12_placeOf [.int (nI p), .int (nI k)] τ (some (.int (nI (plc τ p k)))) (τ) := sorry
def rmX12_sumOf : Room := { frames := 1, cells := 0, slots := 0, locals := 22 }
set_option maxHeartbeats 4000000 in
set_option maxRecDepth 100000 in
theorem c_X12_sumOf {τ : TT} {p : Nat} (hw : WP τ) (hp : p < nP τ) : RD mX12_sumOf rmX12_sumOf [.int (nI p)] τ (some (.int (rsum τ p (wd τ p * hg τ p)))) (τ) := sorry
def ov (τ : TT) (i lo hi : Nat) (f : Nat → Int32) : TT := fun a b => if a = i ∧ lo ≤ b ∧ b < hi then f b else τ a b
theorem ov_nil {τ : TT} {i lo : Nat} {f : Nat → Int32} : ov τ i lo lo f = τ := sorry
theorem ov_up {τ : TT} {i lo hi : Nat} {f : Nat → Int32} {v : Int32} (h : lo ≤ hi) (hv : v = f hi) : tu (ov τ i lo hi f) i hi v = ov τ i lo (hi + 1) f := sorry
theorem ov_dn {τ : TT} {i lo hi : Nat} {f : Nat → Int32} {v : Int32} (h : lo < hi) (hv : v = f lo) : tu (ov τ i (lo + 1) hi f) i lo v = ov τ i lo hi f := sorry
theorem ov_ne {τ : TT} {i lo hi a : Nat} {f : Nat → Int32} (h : a ≠ i) : ov τ i lo hi f a = τ a := sorry
theorem ov_in {τ : TT} {i lo hi b : Nat} {f : Nat → Int32} (h : lo ≤ b ∧ b < hi) : ov τ i lo hi f i b = f b := sorry
theorem ov_out {τ : TT} {i lo hi b : Nat} {f : Nat → Int32} (h : ¬ (lo ≤ b ∧ b < hi)) : ov τ i lo hi f i b = τ i b := sorry
theorem ov_congr {τ : TT} {i lo hi : Nat} {f g : Nat → Int32} (h : ∀ b, lo ≤ b → b < hi → f b = g b) : ov τ i lo hi f = ov τ i lo hi g := sorry
theorem tu_ne {τ : TT} {i k a : Nat} {v : Int32} (h : a ≠ i) : tu τ i k v a = τ a := sorry
theorem tu_at {τ : TT} {i k : Nat} {v : Int32} : tu τ i k v i k = v := sorry
theorem tu_nk {τ : TT} {i k b : Nat} {v : Int32} (h : b ≠ k) : tu τ i k v i b = τ i b := sorry
theorem ro_eq {τ τ' : TT} {M0 M : Mem} (h : RO τ M0 M) (e : τ = τ') : RO τ' M0 M := sorry
/-- pictures' numbers are in three rows of the table -/
theorem WP.of {τ τ' : TT} (h : WP τ) (h1 : τ' 1 = τ 1) (h2 : τ' 2 = τ 2) (h3 : τ' 3 = τ 3) : WP τ' := sorry
def leaf (τ : TT) (p j : Nat) : Int32 := if thr τ p j then τ 4 (16 * p + j) + 1 else 0
def tn (lf : Nat → Int32) : Nat → Nat → Int32
  | 0, k => lf (k - 16)
  | d + 1, k => if 16 ≤ k then lf (k - 16) else abv (tn lf d (2 * k)) (tn lf d (2 * k + 1))
def TN (lf : Nat → Int32) (k : Nat) : Int32 := tn lf 4 k
theorem TN_lo (lf : Nat → Int32) {k : Nat} (h1 : 1 ≤ k) (h2 : k < 16) : TN lf k = abv (TN lf (2 * k)) (TN lf (2 * k + 1)) := sorry
theorem TN_hi (lf : Nat → Int32) {k : Nat} (h : 16 ≤ k) : TN lf k = lf (k - 16) := sorry
def lay (τ : TT) (p : Nat) : TT := ov τ 5 1 32 (TN (leaf τ p))

def rmX12_layTree : Room := { frames := 2, cells := 0, slots := 0, locals := 47 }
set_option maxHeartbeats 4000000 in
set_option maxRecDepth 100000 in
theorem c_X12_layTree {τ : TT} {p : Nat} (hw : WP τ) (hp : p < nP τ) : RD mX12_layTree rmX12_layTree [.int (nI p)] τ (none) (lay τ p) := sorry
def rmX12_rootOf : Room := { frames := 3, cells := 0, slots := 0, locals := 69 }
set_option maxHeartbeats 4000000 in
set_option maxRecDepth 100000 in
theorem c_X12_rootOf {τ : TT} {p : Nat} (hw : WP τ) (hp : p < nP τ) : RD mX12_rootOf rmX12_rootOf [.int (nI p)] τ (some (.int (TN (leaf τ p) 1))) (lay τ p) := sorry
end
section
/-! the reference: more readers (rows laid by gen/ref3.py) -/
def WL (τ : TT) : Prop := nL τ ≤ 6 ∧ τ 13 0 = nI (nL τ)
def ssz (τ : TT) (k : Nat) : Nat := (τ 28 k).toNatClampNeg
def WS (τ : TT) : Prop := ∀ k, k < 4 → τ 28 k = -1 ∨ (ssz τ k ≤ 60 ∧ τ 28 k = nI (ssz τ k))
def slv (τ : TT) (p l : Nat) (h : Int32) : Int32 := TN (leaf τ p) 1 * τ 14 l + 13 * h + 5 * τ 2 p + τ 3 p - (TN (leaf τ p) 1 * τ 14 l + 13 * h + 5 * τ 2 p + τ 3 p) / 9973 * 9973

def rmX12_noLens : Room := { frames := 1, cells := 0, slots := 0, locals := 25 }
set_option maxHeartbeats 4000000 in
set_option maxRecDepth 100000 in
theorem c_X12_noLens {τ : TT} {v : Int32} (hw : WL τ) : RD mX12_noLens rmX12_noLens [.int v] τ (some (.int (bi (¬ ir v (nL τ))))) (τ) := sorry
def rmX12_noLine : Room := { frames := 0, cells := 0, slots := 0, locals := 0 }
set_option maxHeartbeats 4000000 in
set_option maxRecDepth 100000 in
theorem c_X12_noLine {τ : TT} {p : Nat} (hp : p < 12) : RD mX12_noLine rmX12_noLine [.int (nI p)] τ (some (.int (bi (τ 16 p < 0)))) (τ) := sorry
def rmX12_sealOf : Room := { frames := 4, cells := 0, slots := 0, locals := 90 }
set_option maxHeartbeats 4000000 in
set_option maxRecDepth 100000 in
theorem c_X12_sealOf {τ : TT} {p l : Nat} {h : Int32} (hw : WP τ) (hp : p < nP τ) (hl : l < 6) : RD mX12_sealOf rmX12_sealOf [.int (nI p), .int (nI l), .int h] τ (some (.int (slv τ p l h))) (lay τ p) := sorry
def wrt (τ : TT) (p l : Nat) (k f h : Int32) : TT := tu (tu (lay (tu (tu (tu (tu τ 16 p k) 17 p (nI l)) 18 p h) 20 p f) p) 19 p (slv τ p l h)) 21 p 0

def rmX12_write : Room := { frames := 5, cells := 0, slots := 0, locals := 113 }
set_option maxHeartbeats 4000000 in
set_option maxRecDepth 100000 in
theorem c_X12_write {τ : TT} {p l : Nat} {k f h : Int32} (hw : WP τ) (hp : p < nP τ) (hl : l < 6) : RD mX12_write rmX12_write [.int (nI p), .int k, .int f, .int (nI l), .int h] τ (some (.int (slv τ p l h))) (wrt τ p l k f h) := sorry
theorem lsr8 {n : Nat} (h : n ≤ 16) : lsr 8 (nI n) = nI (min 8 n) := sorry
def rmX12_looked : Room := { frames := 1, cells := 0, slots := 0, locals := 21 }
set_option maxHeartbeats 4000000 in
set_option maxRecDepth 100000 in
theorem c_X12_looked {τ : TT} {p : Nat} (hw : WP τ) (hp : p < nP τ) : RD mX12_looked rmX12_looked [.int (nI p)] τ (some (.int (nI (min 8 (wd τ p * hg τ p))))) (τ) := sorry
abbrev soI (τ : TT) (p k : Nat) (mark : Int32) : Prop := τ 4 (16 * p + plc τ p k) - τ 4 (16 * p + plc τ p k) / 2 * 2 = (mark >>> (nI k &&& 31)) &&& 1
def fnd (τ : TT) (p : Nat) (mark : Int32) : Nat → Int32
  | 0 => 0
  | k + 1 => fnd τ p mark k + bi (soI τ p k mark)

def rmX12_isSo : Room := { frames := 1, cells := 0, slots := 0, locals := 22 }
set_option maxHeartbeats 4000000 in
set_option maxRecDepth 100000 in
theorem c_X12_isSo {τ : TT} {p k : Nat} {mark : Int32} (hw : WP τ) (hp : p < nP τ) (hk : k < wd τ p * hg τ p) : RD mX12_isSo rmX12_isSo [.int (nI p), .int (nI k), .int mark] τ (some (.int (bi (soI τ p k mark)))) (τ) := sorry
def rmX12_foundIn : Room := { frames := 2, cells := 0, slots := 0, locals := 45 }
set_option maxHeartbeats 4000000 in
set_option maxRecDepth 100000 in
theorem c_X12_foundIn {τ : TT} {p : Nat} {mark : Int32} (hw : WP τ) (hp : p < nP τ) : RD mX12_foundIn rmX12_foundIn [.int (nI p), .int mark] τ (some (.int (fnd τ p mark (min 8 (wd τ p * hg τ p))))) (τ) := sorry
def ext (τ : TT) (p : Nat) (what : Int32) : Nat → Int32
  | 0 => τ 4 (16 * p)
  | k + 1 => if what = 0 then lsr (ext τ p what k) (τ 4 (16 * p + plc τ p k)) else gtr (ext τ p what k) (τ 4 (16 * p + plc τ p k))

def rmX12_extreme : Room := { frames := 1, cells := 0, slots := 0, locals := 22 }
set_option maxHeartbeats 4000000 in
set_option maxRecDepth 100000 in
theorem c_X12_extreme {τ : TT} {p : Nat} {what : Int32} (hw : WP τ) (hp : p < nP τ) : RD mX12_extreme rmX12_extreme [.int (nI p), .int what] τ (some (.int (ext τ p what (wd τ p * hg τ p)))) (τ) := sorry
def mny (τ : TT) (p : Nat) : Nat := wd τ p * hg τ p
def lkn (τ : TT) (p q : Nat) : Int32 := szO (rsum τ p (mny τ p) / nI (mny τ p) - rsum τ q (mny τ q) / nI (mny τ q)) + szO (ext τ p 0 (mny τ p) - ext τ q 0 (mny τ q)) + szO (ext τ p 1 (mny τ p) - ext τ q 1 (mny τ q))
theorem mny_ne {τ : TT} {p : Nat} (hw : WP τ) (hp : p < nP τ) : ¬ nI (wd τ p * hg τ p) = 0 := sorry
def rmX12_likeness : Room := { frames := 2, cells := 0, slots := 0, locals := 47 }
set_option maxHeartbeats 4000000 in
set_option maxRecDepth 100000 in
theorem c_X12_likeness {τ : TT} {p q : Nat} (hw : WP τ) (hp : p < nP τ) (hq : q < nP τ) : RD mX12_likeness rmX12_likeness [.int (nI p), .int (nI q)] τ (some (.int (lkn τ p q))) (τ) := sorry
def nxt (τ : TT) (p : Nat) : Int32 := if τ 16 p < 0 ∨ τ 16 p = 0 then -9 else τ 20 p

def rmX12_nextOn : Room := { frames := 1, cells := 0, slots := 0, locals := 21 }
set_option maxHeartbeats 4000000 in
set_option maxRecDepth 100000 in
theorem c_X12_nextOn {τ : TT} {p : Nat} (hp : p < 12) : RD mX12_nextOn rmX12_nextOn [.int (nI p)] τ (some (.int (nxt τ p))) (τ) := sorry
def ncl (τ : TT) (k : Nat) (i : Int32) : Int32 := if τ 28 k < 0 then 1 else if ir i (ssz τ k) then 0 else 3

def rmX12_noCell : Room := { frames := 1, cells := 0, slots := 0, locals := 25 }
set_option maxHeartbeats 4000000 in
set_option maxRecDepth 100000 in
theorem c_X12_noCell {τ : TT} {k : Nat} {i : Int32} (hw : WS τ) (hk : k < 4) : RD mX12_noCell rmX12_noCell [.int (nI k), .int i] τ (some (.int (ncl τ k i))) (τ) := sorry
def rmX12_traced : Room := { frames := 0, cells := 0, slots := 0, locals := 0 }
set_option maxHeartbeats 4000000 in
set_option maxRecDepth 100000 in
theorem c_X12_traced {τ : TT} {n : Int32} : RD mX12_traced rmX12_traced [.int n] τ (none) (tu τ 32 0 (31 * τ 32 0 + n)) := sorry
abbrev hbt (s : Int32) (k : Nat) : Prop := (s >>> (nI k &&& 31)) &&& 1 = 1
def olk (τ : TT) (s w : Int32) : Nat → Int32
  | 0 => 0
  | k + 1 => olk τ s w k + (if ¬ hbt s k then 0 else if w = 1 then τ 27 k else τ 26 k)

def rmX12_ofLooks : Room := { frames := 1, cells := 0, slots := 0, locals := 21 }
set_option maxHeartbeats 4000000 in
set_option maxRecDepth 100000 in
theorem c_X12_ofLooks {τ : TT} {s w : Int32} (hw : nK τ ≤ 9 ∧ τ 24 0 = nI (nK τ)) : RD mX12_ofLooks rmX12_ofLooks [.int s, .int w] τ (some (.int (olk τ s w (nK τ)))) (τ) := sorry
def bar (τ : TT) (k : Nat) (lane i : Int32) (c : Int64) : Int32 := if 0 ≤ τ 28 k ∧ ¬ τ 29 k = lane then 2 else if τ 28 k < 0 then 1 else if c < 0 then 4 else if i < 0 ∨ c < 0 ∨ (τ 28 k).toInt64 < i.toInt64 + c then 3 else 0
def barR (b : Int32) : Int32 := if b = 0 then 0 else -10 - b
def barT (τ : TT) (b : Int32) : TT := if b = 0 then τ else tu τ 0 0 b
theorem rd_rt {Z : YY} {rm : Room} {as : List Value} {τ τ1 τ2 : TT} {r1 r2 : Int32} (h : RD Z rm as τ (some (.int r1)) τ1) (e1 : r1 = r2) (e2 : τ1 = τ2) : RD Z rm as τ (some (.int r2)) τ2 := sorry
def rmX12_barred : Room := { frames := 1, cells := 0, slots := 0, locals := 23 }
set_option maxHeartbeats 4000000 in
set_option maxRecDepth 100000 in
theorem c_X12_barred {τ : TT} {k : Nat} {lane i : Int32} {c : Int64} (hk : k < 4) : RD mX12_barred rmX12_barred [.int (nI k), .int lane, .int i, .long c] τ (some (.int (barR (bar τ k lane i c)))) (barT τ (bar τ k lane i c)) := sorry
end
section
/-! the reference: its plain calls (rows laid by gen/ref4.py) -/

def rmX12_trace : Room := { frames := 0, cells := 0, slots := 0, locals := 0 }
set_option maxHeartbeats 4000000 in
set_option maxRecDepth 100000 in
theorem c_X12_trace {τ : TT}  : RD mX12_trace rmX12_trace [] τ (some (.int (τ 32 0))) (τ) := sorry
def rmX12_fault : Room := { frames := 0, cells := 0, slots := 0, locals := 0 }
set_option maxHeartbeats 4000000 in
set_option maxRecDepth 100000 in
theorem c_X12_fault {τ : TT}  : RD mX12_fault rmX12_fault [] τ (some (.int (τ 0 0))) (τ) := sorry
abbrev irg (v : Int32) (a b : Int) : Prop := a ≤ v.toInt ∧ v.toInt ≤ b
def rmX12_within : Room := { frames := 1, cells := 0, slots := 0, locals := 25 }
set_option maxHeartbeats 4000000 in
set_option maxRecDepth 100000 in
theorem c_X12_within {τ : TT} {v : Int32} : RD mX12_within rmX12_within [.int v] τ (some (.int (if irg v 0 20 then τ 23 0 else -2))) (if irg v 0 20 then tu τ 23 0 v else τ) := sorry
def rmX12_ofPicture : Room := { frames := 4, cells := 0, slots := 0, locals := 90 }
set_option maxHeartbeats 4000000 in
set_option maxRecDepth 100000 in
theorem n_X12_ofPicture {τ : TT} {v w : Int32} (hw : WP τ) (hno : ¬ ir v (nP τ)) : RD mX12_ofPicture rmX12_ofPicture [.int v, .int w] τ (some (.int (-1))) (τ) := sorry
def sOf (τ : TT) (p : Nat) (w : Int32) : Int32 := if w = 0 then τ 2 p else if w = 1 then τ 3 p else if w = 2 then rsum τ p (mny τ p) else if w = 3 then TN (leaf τ p) 1 else if irg w 10 25 ∧ thr τ p (w.toNatClampNeg - 10) then τ 4 (16 * p + (w.toNatClampNeg - 10)) else -2
def tOf (τ : TT) (p : Nat) (w : Int32) : TT := if w = 3 then lay τ p else τ

set_option maxHeartbeats 4000000 in
set_option maxRecDepth 100000 in
theorem c_X12_ofPicture {τ : TT} {p : Nat} {w : Int32} (hw : WP τ) (hp : p < nP τ) : RD mX12_ofPicture rmX12_ofPicture [.int (nI p), .int w] τ (some (.int (sOf τ p w))) (tOf τ p w) := sorry
def rmX12_alter : Room := { frames := 2, cells := 0, slots := 0, locals := 47 }
set_option maxHeartbeats 4000000 in
set_option maxRecDepth 100000 in
theorem n_X12_alter {τ : TT} {v j w : Int32} (hw : WP τ) (hno : ¬ ir v (nP τ)) : RD mX12_alter rmX12_alter [.int v, .int j, .int w] τ (some (.int (-1))) (τ) := sorry
set_option maxHeartbeats 4000000 in
set_option maxRecDepth 100000 in
theorem n2_X12_alter {τ : TT} {p : Nat} {j w : Int32} (hw : WP τ) (hp : p < nP τ) (hj : ¬ (ir j 16 ∧ thr τ p j.toNatClampNeg)) : RD mX12_alter rmX12_alter [.int (nI p), .int j, .int w] τ (some (.int (-1))) (τ) := sorry
set_option maxHeartbeats 4000000 in
set_option maxRecDepth 100000 in
theorem c_X12_alter {τ : TT} {p k : Nat} {v : Int32} (hw : WP τ) (hp : p < nP τ) (hk : k < 16) (ht : thr τ p k) : RD mX12_alter rmX12_alter [.int (nI p), .int (nI k), .int v] τ (some (.int (if irg v 0 99 then τ 4 (16 * p + k) else -2))) (if irg v 0 99 then tu τ 4 (16 * p + k) v else τ) := sorry
def rmX12_lens : Room := { frames := 1, cells := 0, slots := 0, locals := 25 }
set_option maxHeartbeats 4000000 in
set_option maxRecDepth 100000 in
theorem c_X12_lens {τ : TT} {v : Int32} (hl : WL τ) : RD mX12_lens rmX12_lens [.int v] τ (some (.int (if irg v 1 9972 then if nL τ = 6 then -4 else nI (nL τ) else -2))) (if irg v 1 9972 ∧ ¬ nL τ = 6 then tu (tu (tu τ 14 (nL τ) v) 15 (nL τ) 1000) 13 0 (nI (nL τ + 1)) else τ) := sorry
def rmX12_steal : Room := { frames := 2, cells := 0, slots := 0, locals := 46 }
set_option maxHeartbeats 4000000 in
set_option maxRecDepth 100000 in
theorem n_X12_steal {τ : TT} {v w : Int32} (hl : WL τ) (hno : ¬ ir v (nL τ)) : RD mX12_steal rmX12_steal [.int v, .int w] τ (some (.int (-1))) (τ) := sorry
set_option maxHeartbeats 4000000 in
set_option maxRecDepth 100000 in
theorem c_X12_steal {τ : TT} {l : Nat} {v : Int32} (hl : WL τ) (hll : l < nL τ) : RD mX12_steal rmX12_steal [.int (nI l), .int v] τ (some (.int (if irg v 0 1000 then τ 15 l else -2))) (if irg v 0 1000 then tu τ 15 l v else τ) := sorry
def rmX12_take : Room := { frames := 6, cells := 0, slots := 0, locals := 138 }
set_option maxHeartbeats 4000000 in
set_option maxRecDepth 100000 in
theorem n_X12_take {τ : TT} {v w h : Int32} (hw : WP τ) (hl : WL τ) (hno : ¬ ir v (nP τ) ∨ ¬ ir w (nL τ)) : RD mX12_take rmX12_take [.int v, .int w, .int h] τ (some (.int (-1))) (τ) := sorry
set_option maxHeartbeats 4000000 in
set_option maxRecDepth 100000 in
theorem c_X12_take {τ : TT} {p l : Nat} {h : Int32} (hw : WP τ) (hp : p < nP τ) (hl : WL τ) (hll : l < nL τ) : RD mX12_take rmX12_take [.int (nI p), .int (nI l), .int h] τ (some (.int (if irg h 0 999 then if τ 16 p < 0 then slv τ p l h else -3 else -2))) (if irg h 0 999 ∧ τ 16 p < 0 then wrt τ p l 0 (-9) h else τ) := sorry
def rmX12_hush : Room := { frames := 6, cells := 0, slots := 0, locals := 138 }
set_option maxHeartbeats 4000000 in
set_option maxRecDepth 100000 in
theorem n_X12_hush {τ : TT} {v u w h : Int32} (hw : WP τ) (hl : WL τ) (hno : ¬ ir v (nP τ) ∨ ¬ ir u (nP τ) ∨ ¬ ir w (nL τ)) : RD mX12_hush rmX12_hush [.int v, .int u, .int w, .int h] τ (some (.int (-1))) (τ) := sorry
set_option maxHeartbeats 4000000 in
set_option maxRecDepth 100000 in
theorem c_X12_hush {τ : TT} {p f l : Nat} {h : Int32} (hw : WP τ) (hp : p < nP τ) (hl : WL τ) (hll : l < nL τ) (hf : f < nP τ) : RD mX12_hush rmX12_hush [.int (nI p), .int (nI f), .int (nI l), .int h] τ (some (.int (if irg h 0 999 then if τ 16 p < 0 ∧ f < p then slv τ p l h else -3 else -2))) (if irg h 0 999 ∧ τ 16 p < 0 ∧ f < p then wrt τ p l 2 (nI f) h else τ) := sorry
def rmX12_tear : Room := { frames := 2, cells := 0, slots := 0, locals := 46 }
set_option maxHeartbeats 4000000 in
set_option maxRecDepth 100000 in
theorem n_X12_tear {τ : TT} {v : Int32} (hw : WP τ) (hno : ¬ ir v (nP τ)) : RD mX12_tear rmX12_tear [.int v] τ (some (.int (-1))) (τ) := sorry
def rmX12_line : Room := { frames := 2, cells := 0, slots := 0, locals := 46 }
set_option maxHeartbeats 4000000 in
set_option maxRecDepth 100000 in
theorem n_X12_line {τ : TT} {v w : Int32} (hw : WP τ) (hno : ¬ ir v (nP τ)) : RD mX12_line rmX12_line [.int v, .int w] τ (some (.int (-1))) (τ) := sorry
def rmX12_coarse : Room := { frames := 2, cells := 0, slots := 0, locals := 46 }
set_option maxHeartbeats 4000000 in
set_option maxRecDepth 100000 in
theorem n_X12_coarse {τ : TT} {v w : Int32} (hw : WP τ) (hno : ¬ ir v (nP τ)) : RD mX12_coarse rmX12_coarse [.int v, .int w] τ (some (.int (-1))) (τ) := sorry
def rmX12_found : Room := { frames := 3, cells := 0, slots := 0, locals := 69 }
set_option maxHeartbeats 4000000 in
set_option maxRecDepth 100000 in
theorem n_X12_found {τ : TT} {v w : Int32} (hw : WP τ) (hno : ¬ ir v (nP τ)) : RD mX12_found rmX12_found [.int v, .int w] τ (some (.int (-1))) (τ) := sorry
def rmX12_look : Room := { frames := 2, cells := 0, slots := 0, locals := 46 }
set_option maxHeartbeats 4000000 in
set_option maxRecDepth 100000 in
theorem n_X12_look {τ : TT} {v w u : Int32} (hw : WP τ) (hno : ¬ ir v (nP τ)) : RD mX12_look rmX12_look [.int v, .int w, .int u] τ (some (.int (-1))) (τ) := sorry
def rmX12_tell : Room := { frames := 2, cells := 0, slots := 0, locals := 46 }
set_option maxHeartbeats 4000000 in
set_option maxRecDepth 100000 in
theorem n_X12_tell {τ : TT} {v : Int32} (hw : WP τ) (hno : ¬ ir v (nP τ)) : RD mX12_tell rmX12_tell [.int v] τ (some (.int (-1))) (τ) := sorry
def rmX12_show : Room := { frames := 2, cells := 0, slots := 0, locals := 46 }
set_option maxHeartbeats 4000000 in
set_option maxRecDepth 100000 in
theorem n_X12_show {τ : TT} {v : Int32} (hw : WP τ) (hno : ¬ ir v (nP τ)) : RD mX12_show rmX12_show [.int v] τ (some (.int (-1))) (τ) := sorry
set_option maxHeartbeats 4000000 in
set_option maxRecDepth 100000 in
theorem c_X12_tear {τ : TT} {p : Nat} (hw : WP τ) (hp : p < nP τ) : RD mX12_tear rmX12_tear [.int (nI p)] τ (some (.int (if τ 16 p < 0 then 0 else 1))) (tu τ 16 p (-9)) := sorry
def sLn (τ : TT) (p : Nat) (w : Int32) : Int32 := if irg w 0 5 then if τ 16 p < 0 then -3 else if w = 0 then τ 16 p else if w = 1 then τ 17 p else if w = 2 then τ 18 p else if w = 3 then τ 19 p else if w = 4 then τ 20 p else τ 21 p else -2

set_option maxHeartbeats 4000000 in
set_option maxRecDepth 100000 in
theorem c_X12_line {τ : TT} {p : Nat} {w : Int32} (hw : WP τ) (hp : p < nP τ) : RD mX12_line rmX12_line [.int (nI p), .int w] τ (some (.int (sLn τ p w))) (τ) := sorry
theorem irg_ne0 {v : Int32} {b : Int} (h : irg v 1 b) : ¬ v = 0 := sorry
set_option maxHeartbeats 4000000 in
set_option maxRecDepth 100000 in
theorem c_X12_coarse {τ : TT} {p : Nat} {w : Int32} (hw : WP τ) (hp : p < nP τ) : RD mX12_coarse rmX12_coarse [.int (nI p), .int w] τ (some (.int (if irg w 1 24 then if τ 16 p < 0 then -3 else τ 18 p / w * w else -2))) (τ) := sorry
set_option maxHeartbeats 4000000 in
set_option maxRecDepth 100000 in
theorem c_X12_found {τ : TT} {p : Nat} {w : Int32} (hw : WP τ) (hp : p < nP τ) : RD mX12_found rmX12_found [.int (nI p), .int w] τ (some (.int (if irg w 0 255 then fnd τ p w (min 8 (wd τ p * hg τ p)) else -2))) (τ) := sorry
def rmX12_like : Room := { frames := 3, cells := 0, slots := 0, locals := 70 }
set_option maxHeartbeats 4000000 in
set_option maxRecDepth 100000 in
theorem n_X12_like {τ : TT} {v w : Int32} (hw : WP τ) (hno : ¬ ir v (nP τ) ∨ ¬ ir w (nP τ)) : RD mX12_like rmX12_like [.int v, .int w] τ (some (.int (-1))) (τ) := sorry
set_option maxHeartbeats 4000000 in
set_option maxRecDepth 100000 in
theorem c_X12_like {τ : TT} {p q : Nat} (hw : WP τ) (hp : p < nP τ) (hq : q < nP τ) : RD mX12_like rmX12_like [.int (nI p), .int (nI q)] τ (some (.int (lkn τ p q))) (τ) := sorry
theorem prf_ix : ∀ j, j < 16 → ∀ k, k < 4 → (nI (16 + j) >>> (nI k &&& 31)) ^^^ 1 = nI (((16 + j) / 2 ^ k) ^^^ 1) ∧ 1 ≤ ((16 + j) / 2 ^ k) ^^^ 1 ∧ ((16 + j) / 2 ^ k) ^^^ 1 < 32 := sorry
theorem irg_of {v : Int32} {b : Nat} (hb : b < 2 ^ 30) (h : irg v 0 b) : ∃ k : Nat, k < b + 1 ∧ v = nI k := sorry
theorem irg_nI {k b : Nat} (hb : b < 2 ^ 30) (h : k ≤ b) : irg (nI k) 0 b := sorry
def rmX12_proof : Room := { frames := 3, cells := 0, slots := 0, locals := 69 }
set_option maxHeartbeats 4000000 in
set_option maxRecDepth 100000 in
theorem n_X12_proof {τ : TT} {v w u : Int32} (hw : WP τ) (hno : ¬ ir v (nP τ) ∨ ¬ irg w 0 15 ∨ ¬ irg u 0 3) : RD mX12_proof rmX12_proof [.int v, .int w, .int u] τ (some (.int (-1))) (τ) := sorry
set_option maxHeartbeats 4000000 in
set_option maxRecDepth 100000 in
theorem c_X12_proof {τ : TT} {p j k : Nat} (hw : WP τ) (hp : p < nP τ) (hj : j < 16) (hk : k < 4) : RD mX12_proof rmX12_proof [.int (nI p), .int (nI j), .int (nI k)] τ (some (.int (TN (leaf τ p) (((16 + j) / 2 ^ k) ^^^ 1)))) (lay τ p) := sorry
def tLk (τ : TT) (p : Nat) (h w : Int32) : TT := tu (tu (tu (tu τ 25 (nK τ) (nI p)) 26 (nK τ) h) 27 (nK τ) w) 24 0 (nI (nK τ + 1))

set_option maxHeartbeats 4000000 in
set_option maxRecDepth 100000 in
theorem c_X12_look {τ : TT} {p : Nat} {h w : Int32} (hw : WP τ) (hp : p < nP τ) (hk : nK τ ≤ 9 ∧ τ 24 0 = nI (nK τ)) : RD mX12_look rmX12_look [.int (nI p), .int h, .int w] τ (some (.int (if irg h 1 9 ∧ irg w 0 99 then if nK τ = 9 then -4 else nI (nK τ) else -2))) (if irg h 1 9 ∧ irg w 0 99 ∧ ¬ nK τ = 9 then tLk τ p h w else τ) := sorry
end
section
/-! the reference: telling, sheets (rows laid by gen/ref5.py) -/
def trc (τ : TT) (n : Int32) : TT := tu τ 32 0 (31 * τ 32 0 + n)

set_option maxHeartbeats 4000000 in
set_option maxRecDepth 100000 in
theorem n3_X12_tell {τ : TT} {p : Nat} (hw : WP τ) (hp : p < nP τ) (hk : τ 16 p < 0) : RD mX12_tell rmX12_tell [.int (nI p)] τ (some (.int (-3))) (τ) := sorry
set_option maxHeartbeats 4000000 in
set_option maxRecDepth 100000 in
theorem c0_X12_tell {τ : TT} {p : Nat} (hw : WP τ) (hp : p < nP τ) (hk : τ 16 p = 0) : RD mX12_tell rmX12_tell [.int (nI p)] τ (some (.int (τ 18 p))) (trc τ 1) := sorry
set_option maxHeartbeats 4000000 in
set_option maxRecDepth 100000 in
theorem c1_X12_tell {τ : TT} {p : Nat} (hw : WP τ) (hp : p < nP τ) (hk : τ 16 p = 1) : RD mX12_tell rmX12_tell [.int (nI p)] τ (some (.int (τ 18 p + 1000))) (trc (trc τ 2) 1) := sorry
set_option maxHeartbeats 4000000 in
set_option maxRecDepth 100000 in
theorem c2_X12_tell {τ : TT} {p : Nat} (hw : WP τ) (hp : p < nP τ) (hk : τ 16 p = 2) : RD mX12_tell rmX12_tell [.int (nI p)] τ (some (.int (2 * τ 18 p + 1000))) (trc (trc (trc (trc τ 3) 2) 1) 1) := sorry
set_option maxHeartbeats 4000000 in
set_option maxRecDepth 100000 in
theorem n3_X12_show {τ : TT} {p : Nat} (hw : WP τ) (hp : p < nP τ) (hk : τ 16 p < 0) : RD mX12_show rmX12_show [.int (nI p)] τ (some (.int (-3))) (τ) := sorry
set_option maxHeartbeats 4000000 in
set_option maxRecDepth 100000 in
theorem c2_X12_show {τ : TT} {p : Nat} (hw : WP τ) (hp : p < nP τ) (hk : τ 16 p = 2) : RD mX12_show rmX12_show [.int (nI p)] τ (some (.int 33)) (trc τ 5) := sorry
set_option maxHeartbeats 4000000 in
set_option maxRecDepth 100000 in
theorem c_X12_show {τ : TT} {p : Nat} (hw : WP τ) (hp : p < nP τ) (hk : ¬ τ 16 p < 0) (hk2 : ¬ τ 16 p = 2) : RD mX12_show rmX12_show [.int (nI p)] τ (some (.int (τ 19 p))) (trc τ 4) := sorry
def rmX12_as : Room := { frames := 2, cells := 0, slots := 0, locals := 46 }
set_option maxHeartbeats 4000000 in
set_option maxRecDepth 100000 in
theorem n_X12_as {τ : TT} {v w : Int32} (hw : WP τ) (hno : ¬ ir v (nP τ)) : RD mX12_as rmX12_as [.int v, .int w] τ (some (.int (-1))) (tu τ 0 0 0) := sorry
def sAs (τ : TT) (p : Nat) (w : Int32) : Int32 := if irg w 0 2 then if τ 16 p < 0 then -3 else if τ 16 p < w then -12 else 1 else -2
def tAs (τ : TT) (p : Nat) (w : Int32) : TT := if irg w 0 2 ∧ ¬ τ 16 p < 0 ∧ τ 16 p < w then tu τ 0 0 2 else tu τ 0 0 0

set_option maxHeartbeats 4000000 in
set_option maxRecDepth 100000 in
theorem c_X12_as {τ : TT} {p : Nat} {w : Int32} (hw : WP τ) (hp : p < nP τ) : RD mX12_as rmX12_as [.int (nI p), .int w] τ (some (.int (sAs τ p w))) (tAs τ p w) := sorry
def cnt (τ : TT) : Nat → Int32
  | 0 => 0
  | k + 1 => cnt τ k + (if τ 16 k < 0 then 0 else 1)
def sMn (τ : TT) (w : Int32) : Int32 := if w = 0 then nI (nP τ) else if w = 1 then τ 13 0 else if w = 2 then cnt τ (nP τ) else if w = 3 then τ 24 0 else -2

def rmX12_many : Room := { frames := 1, cells := 0, slots := 0, locals := 21 }
set_option maxHeartbeats 4000000 in
set_option maxRecDepth 100000 in
theorem c_X12_many {τ : TT} {w : Int32} (hw : WP τ) : RD mX12_many rmX12_many [.int w] τ (some (.int (sMn τ w))) (τ) := sorry
def rmX12_lose : Room := { frames := 2, cells := 0, slots := 0, locals := 45 }
set_option maxHeartbeats 4000000 in
set_option maxRecDepth 100000 in
theorem n_X12_lose {τ : TT} {v : Int32} (hno : ¬ irg v 0 3) : RD mX12_lose rmX12_lose [.int v] τ (some (.int (-1))) (τ) := sorry
set_option maxHeartbeats 4000000 in
set_option maxRecDepth 100000 in
theorem c_X12_lose {τ : TT} {k : Nat} (hk : k < 4) : RD mX12_lose rmX12_lose [.int (nI k)] τ (some (.int (if τ 28 k < 0 then 0 else 1))) (tu τ 28 k (-1)) := sorry
def rmX12_sheet : Room := { frames := 2, cells := 0, slots := 0, locals := 45 }
set_option maxHeartbeats 4000000 in
set_option maxRecDepth 100000 in
theorem n_X12_sheet {τ : TT} {v w u : Int32} (hno : ¬ irg v 0 3) : RD mX12_sheet rmX12_sheet [.int v, .int w, .int u] τ (some (.int (-1))) (tu τ 0 0 0) := sorry
set_option maxHeartbeats 4000000 in
set_option maxRecDepth 100000 in
theorem n2_X12_sheet {τ : TT} {k : Nat} {w u : Int32} (hk : k < 4) (hno : ¬ irg w 0 2 ∨ 60 < u) : RD mX12_sheet rmX12_sheet [.int (nI k), .int w, .int u] τ (some (.int (-2))) (tu τ 0 0 0) := sorry
set_option maxHeartbeats 4000000 in
set_option maxRecDepth 100000 in
theorem n3_X12_sheet {τ : TT} {k : Nat} {w u : Int32} (hk : k < 4) (hok : irg w 0 2) (hu : u < 0) : RD mX12_sheet rmX12_sheet [.int (nI k), .int w, .int u] τ (some (.int (-14))) (tu τ 0 0 4) := sorry
def tSh (τ : TT) (k m : Nat) (w : Int32) : TT := tu (ov (tu (tu τ 28 k (nI m)) 29 k w) 30 (60 * k) (60 * k + m) (fun _ => 0)) 0 0 0

set_option maxHeartbeats 4000000 in
set_option maxRecDepth 100000 in
theorem c_X12_sheet {τ : TT} {k m : Nat} {w : Int32} (hk : k < 4) (hok : irg w 0 2) (hm : m ≤ 60) : RD mX12_sheet rmX12_sheet [.int (nI k), .int w, .int (nI m)] τ (some (.int 1)) (tSh τ k m w) := sorry
def rmX12_put : Room := { frames := 2, cells := 0, slots := 0, locals := 47 }
set_option maxHeartbeats 4000000 in
set_option maxRecDepth 100000 in
theorem n_X12_put {τ : TT} {v w u : Int32} (hno : ¬ irg v 0 3) : RD mX12_put rmX12_put [.int v, .int w, .int u] τ (some (.int (-1))) (tu τ 0 0 0) := sorry
set_option maxHeartbeats 4000000 in
set_option maxRecDepth 100000 in
theorem n2_X12_put {τ : TT} {k : Nat} {i v : Int32} (hs : WS τ) (hk : k < 4) (hc : 0 < ncl τ k i) : RD mX12_put rmX12_put [.int (nI k), .int i, .int v] τ (some (.int (-10 - ncl τ k i))) (tu τ 0 0 (ncl τ k i)) := sorry
def nrw (l v : Int32) : Int32 := if l = 0 then v.toInt8.toInt32 else if l = 1 then v.toInt16.toInt32 else v
theorem ncl_ok {τ : TT} {k : Nat} {i : Int32} (hs : WS τ) (hk : k < 4) (h : ¬ 0 < ncl τ k i) : ¬ τ 28 k < 0 ∧ ir i (ssz τ k) := sorry
theorem WS.ok {τ : TT} {k : Nat} (hs : WS τ) (hk : k < 4) (h : ¬ τ 28 k < 0) : ssz τ k ≤ 60 ∧ τ 28 k = nI (ssz τ k) := sorry
theorem ncl_0 {τ : TT} {k j : Nat} (hs : WS τ) (hk : k < 4) (h : ¬ τ 28 k < 0) (hj : j < ssz τ k) : ncl τ k (nI j) = 0 := sorry
set_option maxHeartbeats 4000000 in
set_option maxRecDepth 100000 in
theorem c_X12_put {τ : TT} {k j : Nat} {v : Int32} (hs : WS τ) (hk : k < 4) (h0 : ¬ τ 28 k < 0) (hj : j < ssz τ k) : RD mX12_put rmX12_put [.int (nI k), .int (nI j), .int v] τ (some (.int 1)) (tu (tu τ 30 (60 * k + j) (nrw (τ 29 k) v)) 0 0 0) := sorry
def rmX12_cell : Room := { frames := 2, cells := 0, slots := 0, locals := 47 }
set_option maxHeartbeats 4000000 in
set_option maxRecDepth 100000 in
theorem n_X12_cell {τ : TT} {v w u : Int32} (hno : ¬ irg v 0 3 ∨ ¬ irg u 0 2) : RD mX12_cell rmX12_cell [.int v, .int w, .int u] τ (some (.long (-9223372036854775808))) (tu τ 0 0 0) := sorry
def fCl (τ : TT) (k : Nat) (i l : Int32) : Int32 := if 0 ≤ τ 28 k ∧ ¬ τ 29 k = l then 2 else ncl τ k i
theorem tu_tu {τ : TT} {i k : Nat} {u v : Int32} : tu (tu τ i k u) i k v = tu τ i k v := sorry
set_option maxHeartbeats 4000000 in
set_option maxRecDepth 100000 in
theorem n2_X12_cell {τ : TT} {k : Nat} {i l : Int32} (hs : WS τ) (hk : k < 4) (hl : irg l 0 2) (hc : 0 < fCl τ k i l) : RD mX12_cell rmX12_cell [.int (nI k), .int i, .int l] τ (some (.long (-9223372036854775808))) (tu τ 0 0 (fCl τ k i l)) := sorry
set_option maxHeartbeats 4000000 in
set_option maxRecDepth 100000 in
theorem c_X12_cell {τ : TT} {k j : Nat} {l : Int32} (hs : WS τ) (hk : k < 4) (hl : irg l 0 2) (h0 : ¬ τ 28 k < 0) (hll : τ 29 k = l) (hj : j < ssz τ k) : RD mX12_cell rmX12_cell [.int (nI k), .int (nI j), .int l] τ (some (.long (τ 30 (60 * k + j)).toInt64)) (tu τ 0 0 0) := sorry
end
section
/-! the reference: copy, hide, picture, proves, best (rows laid by gen/ref6.py) -/
abbrev bey (i : Int32) (c : Int64) (s : Int32) : Prop := i < 0 ∨ c < 0 ∨ s.toInt64 < i.toInt64 + c
theorem bey_no {i n s : Nat} (hs : s ≤ 60) (h : i + n ≤ s) : ¬ bey (nI i) (nI n).toInt64 (nI s) := sorry
def fCp (τ : TT) (k o : Nat) (i j n : Int32) : Int32 := if τ 28 k < 0 ∨ τ 28 o < 0 then 1 else if ¬ τ 29 k = τ 29 o then 2 else if bey i n.toInt64 (τ 28 k) ∨ bey j n.toInt64 (τ 28 o) then 3 else 0

def rmX12_copy : Room := { frames := 2, cells := 0, slots := 0, locals := 45 }
set_option maxHeartbeats 4000000 in
set_option maxRecDepth 100000 in
theorem n_X12_copy {τ : TT} {v i w j n : Int32} (hno : ¬ irg v 0 3 ∨ ¬ irg w 0 3) : RD mX12_copy rmX12_copy [.int v, .int i, .int w, .int j, .int n] τ (some (.int (-1))) (tu τ 0 0 0) := sorry
set_option maxHeartbeats 4000000 in
set_option maxRecDepth 100000 in
theorem n2_X12_copy {τ : TT} {k o : Nat} {i j n : Int32} (hk : k < 4) (ho : o < 4) (hf : ¬ fCp τ k o i j n = 0) : RD mX12_copy rmX12_copy [.int (nI k), .int i, .int (nI o), .int j, .int n] τ (some (.int (-10 - fCp τ k o i j n))) (tu τ 0 0 (fCp τ k o i j n)) := sorry
def tCp (τ : TT) (k o i j n : Nat) : TT := tu (ov (ov τ 31 0 n (fun b => τ 30 (60 * k + i + b))) 30 (60 * o + j) (60 * o + j + n) (fun b => τ 30 (60 * k + i + (b - (60 * o + j))))) 0 0 0

set_option maxHeartbeats 4000000 in
set_option maxRecDepth 100000 in
theorem c_X12_copy {τ : TT} {k o i j n : Nat} (hs : WS τ) (hk : k < 4) (ho : o < 4) (h0 : ¬ τ 28 k < 0) (h1 : ¬ τ 28 o < 0) (hl : τ 29 k = τ 29 o) (hi : i + n ≤ ssz τ k) (hj : j + n ≤ ssz τ o) : RD mX12_copy rmX12_copy [.int (nI k), .int (nI i), .int (nI o), .int (nI j), .int (nI n)] τ (some (.int (nI n))) (tCp τ k o i j n) := sorry
def flp (v : Int32) : Int32 := if v = 0 then 1 else v - 1
def hdT (τ : TT) (p : Nat) (mark : Int32) : Nat → TT
  | 0 => τ
  | k + 1 => if soI (hdT τ p mark k) p k mark then hdT τ p mark k else tu (hdT τ p mark k) 4 (16 * p + plc τ p k) (flp (hdT τ p mark k 4 (16 * p + plc τ p k)))
def hdN (τ : TT) (p : Nat) (mark : Int32) : Nat → Int32
  | 0 => 0
  | k + 1 => if soI (hdT τ p mark k) p k mark then hdN τ p mark k else hdN τ p mark k + 1
theorem hdT_ne {τ : TT} {p k i : Nat} {mark : Int32} (h : i ≠ 4) : hdT τ p mark k i = τ i := sorry
theorem hd_wd {τ : TT} {p k : Nat} {mark : Int32} (q : Nat) : wd (hdT τ p mark k) q = wd τ q := sorry
theorem hd_hg {τ : TT} {p k : Nat} {mark : Int32} (q : Nat) : hg (hdT τ p mark k) q = hg τ q := sorry
theorem hd_plc {τ : TT} {p k : Nat} {mark : Int32} (q j : Nat) : plc (hdT τ p mark k) q j = plc τ q j := sorry
theorem hd_nP {τ : TT} {p k : Nat} {mark : Int32} : nP (hdT τ p mark k) = nP τ := sorry
theorem hd_WP {τ : TT} {p k : Nat} {mark : Int32} (h : WP τ) : WP (hdT τ p mark k) := sorry
def rmX12_hide : Room := { frames := 2, cells := 0, slots := 0, locals := 46 }
set_option maxHeartbeats 4000000 in
set_option maxRecDepth 100000 in
theorem n_X12_hide {τ : TT} {v w : Int32} (hw : WP τ) (hno : ¬ ir v (nP τ)) : RD mX12_hide rmX12_hide [.int v, .int w] τ (some (.int (-1))) (τ) := sorry
set_option maxHeartbeats 4000000 in
set_option maxRecDepth 100000 in
theorem n2_X12_hide {τ : TT} {p : Nat} {w : Int32} (hw : WP τ) (hp : p < nP τ) (hm : ¬ irg w 0 255) : RD mX12_hide rmX12_hide [.int (nI p), .int w] τ (some (.int (-2))) (τ) := sorry
set_option maxHeartbeats 4000000 in
set_option maxRecDepth 100000 in
theorem c_X12_hide {τ : TT} {p : Nat} {w : Int32} (hw : WP τ) (hp : p < nP τ) (hm : irg w 0 255) : RD mX12_hide rmX12_hide [.int (nI p), .int w] τ (some (.int (hdN τ p w (min 8 (wd τ p * hg τ p))))) (hdT τ p w (min 8 (wd τ p * hg τ p))) := sorry
end
section
/-! the reference: picture, proves, best (rows laid by gen/ref7.py) -/
theorem bar_cs (τ : TT) (k : Nat) (lane i : Int32) (c : Int64) : bar τ k lane i c = 0 ∨ bar τ k lane i c = 1 ∨ bar τ k lane i c = 2 ∨ bar τ k lane i c = 3 ∨ bar τ k lane i c = 4 := sorry
theorem bar_neg {τ : TT} {k : Nat} {lane i : Int32} {c : Int64} (h : ¬ bar τ k lane i c = 0) : ¬ 0 ≤ -10 - bar τ k lane i c := sorry
theorem c_bar0 {τ : TT} {k : Nat} {lane i : Int32} {c : Int64} (hk : k < 4) (hb : bar τ k lane i c = 0) : RD mX12_barred rmX12_barred [.int (nI k), .int lane, .int i, .long c] τ (some (.int 0)) τ := sorry
theorem c_barN {τ : TT} {k : Nat} {lane i : Int32} {c : Int64} (hk : k < 4) (hb : ¬ bar τ k lane i c = 0) : RD mX12_barred rmX12_barred [.int (nI k), .int lane, .int i, .long c] τ (some (.int (-10 - bar τ k lane i c))) (tu τ 0 0 (bar τ k lane i c)) := sorry
theorem bar_0 {τ : TT} {k i n : Nat} {lane : Int32} (hs : WS τ) (hk : k < 4) (h0 : ¬ τ 28 k < 0) (hl : τ 29 k = lane) (hi : i + n ≤ ssz τ k) : bar τ k lane (nI i) (nI n).toInt64 = 0 := sorry
theorem l_nI {n : Nat} (h : n < 2 ^ 31) : (nI n).toInt64 = lN n := sorry
/-- what a bar that lets through says -/
theorem bar_ok {τ : TT} {k : Nat} {lane i n : Int32} (hs : WS τ) (hk : k < 4) (hb : bar τ k lane i n.toInt64 = 0) : ∃ i' n' : Nat, i = nI i' ∧ n = nI n' ∧ ¬ τ 28 k < 0 ∧ τ 29 k = lane ∧ i' + n' ≤ ssz τ k := sorry
def rmX12_picture : Room := { frames := 2, cells := 0, slots := 0, locals := 48 }
set_option maxHeartbeats 4000000 in
set_option maxRecDepth 100000 in
theorem n_X12_picture {τ : TT} {w h v l i : Int32} (hno : ¬ irg v 0 3) : RD mX12_picture rmX12_picture [.int w, .int h, .int v, .int l, .int i] τ (some (.int (-1))) (tu τ 0 0 0) := sorry
set_option maxHeartbeats 4000000 in
set_option maxRecDepth 100000 in
theorem n2_X12_picture {τ : TT} {k : Nat} {w h l i : Int32} (hk : k < 4) (hno : ¬ irg w 1 4 ∨ ¬ irg h 1 4 ∨ ¬ irg l 0 2) : RD mX12_picture rmX12_picture [.int w, .int h, .int (nI k), .int l, .int i] τ (some (.int (-2))) (tu τ 0 0 0) := sorry
set_option maxHeartbeats 4000000 in
set_option maxRecDepth 100000 in
theorem n3_X12_picture {τ : TT} {w h k : Nat} {l i : Int32} (hw1 : 1 ≤ w ∧ w ≤ 4) (hh1 : 1 ≤ h ∧ h ≤ 4) (hk : k < 4) (hl : irg l 0 2) (hb : ¬ bar τ k l i (nI (w * h)).toInt64 = 0) : RD mX12_picture rmX12_picture [.int (nI w), .int (nI h), .int (nI k), .int l, .int i] τ (some (.int (-10 - bar τ k l i (nI (w * h)).toInt64))) (tu τ 0 0 (bar τ k l i (nI (w * h)).toInt64)) := sorry
set_option maxHeartbeats 4000000 in
set_option maxRecDepth 100000 in
theorem n4_X12_picture {τ : TT} {w h k i : Nat} {l : Int32} (hw1 : 1 ≤ w ∧ w ≤ 4) (hh1 : 1 ≤ h ∧ h ≤ 4) (hk : k < 4) (hl : irg l 0 2) (hs : WS τ) (h0 : ¬ τ 28 k < 0) (hll : τ 29 k = l) (hi : i + w * h ≤ ssz τ k) (hbad : ∃ y, y < w * h ∧ ¬ irg (τ 30 (60 * k + i + y)) 0 99) : RD mX12_picture rmX12_picture [.int (nI w), .int (nI h), .int (nI k), .int l, .int (nI i)] τ (some (.int (-2))) (tu τ 0 0 0) := sorry
set_option maxHeartbeats 4000000 in
set_option maxRecDepth 100000 in
theorem n5_X12_picture {τ : TT} {w h k i : Nat} {l : Int32} (hw1 : 1 ≤ w ∧ w ≤ 4) (hh1 : 1 ≤ h ∧ h ≤ 4) (hk : k < 4) (hl : irg l 0 2) (hs : WS τ) (h0 : ¬ τ 28 k < 0) (hll : τ 29 k = l) (hi : i + w * h ≤ ssz τ k) (hw : WP τ) (hall : ∀ y, y < w * h → irg (τ 30 (60 * k + i + y)) 0 99) (hf : nP τ = 12) : RD mX12_picture rmX12_picture [.int (nI w), .int (nI h), .int (nI k), .int l, .int (nI i)] τ (some (.int (-4))) (tu τ 0 0 0) := sorry
def pcT (τ : TT) (n w b : Nat) : Nat → TT
  | 0 => τ
  | x + 1 => tu (pcT τ n w b x) 4 (16 * n + x % w + 4 * (x / w)) (τ 30 (b + x))
theorem pcT_ne {τ : TT} {n w b x i : Nat} (h : i ≠ 4) : pcT τ n w b x i = τ i := sorry
def tPc (τ : TT) (w h k i : Nat) : TT := tu (tu (pcT (tu (tu τ 2 (nP τ) (nI w)) 3 (nP τ) (nI h)) (nP τ) w (60 * k + i) (w * h)) 1 0 (nI (nP τ + 1))) 0 0 0

set_option maxHeartbeats 4000000 in
set_option maxRecDepth 100000 in
theorem c_X12_picture {τ : TT} {w h k i : Nat} {l : Int32} (hw1 : 1 ≤ w ∧ w ≤ 4) (hh1 : 1 ≤ h ∧ h ≤ 4) (hk : k < 4) (hl : irg l 0 2) (hs : WS τ) (h0 : ¬ τ 28 k < 0) (hll : τ 29 k = l) (hi : i + w * h ≤ ssz τ k) (hw : WP τ) (hall : ∀ y, y < w * h → irg (τ 30 (60 * k + i + y)) 0 99) (hf : ¬ nP τ = 12) : RD mX12_picture rmX12_picture [.int (nI w), .int (nI h), .int (nI k), .int l, .int (nI i)] τ (some (.int (nI (nP τ)))) (tPc τ w h k i) := sorry
end
section
/-! the reference: proves, best, nearest, falsely (rows laid by gen/ref8.py) -/
def prG (τ : TT) (b : Nat) : Nat → Int32
  | 0 => 1
  | x + 1 => if ¬ prG τ b x = 0 ∧ irg (τ 30 (b + x)) 0 9972 then 1 else 0
def prU (τ : TT) (b : Nat) (pl u : Int32) : Nat → Int32
  | 0 => u
  | x + 1 => if prG τ b (x + 1) = 0 then 0 else if hbt pl x then abv (τ 30 (b + x)) (prU τ b pl u x) else abv (prU τ b pl u x) (τ 30 (b + x))
theorem prG_s {τ : TT} {b x : Nat} : prG τ b (x + 1) = if ¬ prG τ b x = 0 ∧ irg (τ 30 (b + x)) 0 9972 then 1 else 0 := sorry
theorem prU_s {τ : TT} {b x : Nat} {pl u : Int32} : prU τ b pl u (x + 1) = if prG τ b (x + 1) = 0 then 0 else if hbt pl x then abv (τ 30 (b + x)) (prU τ b pl u x) else abv (prU τ b pl u x) (τ 30 (b + x)) := sorry
def rmX12_proves : Room := { frames := 2, cells := 0, slots := 0, locals := 48 }
set_option maxHeartbeats 4000000 in
set_option maxRecDepth 100000 in
theorem n_X12_proves {τ : TT} {j u r v l i : Int32} (hno : ¬ irg v 0 3 ∨ ¬ irg j 0 15) : RD mX12_proves rmX12_proves [.int j, .int u, .int r, .int v, .int l, .int i] τ (some (.int (-1))) (tu τ 0 0 0) := sorry
set_option maxHeartbeats 4000000 in
set_option maxRecDepth 100000 in
theorem n2_X12_proves {τ : TT} {k : Nat} {j u r l i : Int32} (hk : k < 4) (hj : irg j 0 15) (hno : ¬ irg u (-1) 99 ∨ ¬ irg l 0 2) : RD mX12_proves rmX12_proves [.int j, .int u, .int r, .int (nI k), .int l, .int i] τ (some (.int (-2))) (tu τ 0 0 0) := sorry
set_option maxHeartbeats 4000000 in
set_option maxRecDepth 100000 in
theorem n3_X12_proves {τ : TT} {k : Nat} {j u r l i : Int32} (hk : k < 4) (hj : irg j 0 15) (hu : irg u (-1) 99) (hl : irg l 0 2) (hb : ¬ bar τ k l i 4 = 0) : RD mX12_proves rmX12_proves [.int j, .int u, .int r, .int (nI k), .int l, .int i] τ (some (.int (-10 - bar τ k l i 4))) (tu τ 0 0 (bar τ k l i 4)) := sorry
set_option maxHeartbeats 4000000 in
set_option maxRecDepth 100000 in
theorem c_X12_proves {τ : TT} {k i : Nat} {j u r l : Int32} (hk : k < 4) (hj : irg j 0 15) (hu : irg u (-1) 99) (hl : irg l 0 2) (hs : WS τ) (h0 : ¬ τ 28 k < 0) (hll : τ 29 k = l) (hi : i + 4 ≤ ssz τ k) : RD mX12_proves rmX12_proves [.int j, .int u, .int r, .int (nI k), .int l, .int (nI i)] τ (some (.int (if ¬ prG τ (60 * k + i) 4 = 0 ∧ prU τ (60 * k + i) j (u + 1) 4 = r then 1 else 0))) (tu τ 0 0 0) := sorry
def olks (τ : TT) (s : Nat) (w : Int32) : Int32 := olk τ (nI s) w (nK τ)
abbrev betr (τ : TT) (s b : Nat) : Prop := 0 < olks τ s 1 - olks τ b 1 ∨ (olks τ s 1 - olks τ b 1 = 0 ∧ olks τ s 2 < olks τ b 2)
def bst (τ : TT) (hours : Int32) : Nat → Nat
  | 0 => 0
  | n + 1 => if olks τ (n + 1) 2 ≤ hours ∧ betr τ (n + 1) (bst τ hours n) then n + 1 else bst τ hours n
theorem bst_s {τ : TT} {hours : Int32} {n : Nat} : bst τ hours (n + 1) = if olks τ (n + 1) 2 ≤ hours ∧ betr τ (n + 1) (bst τ hours n) then n + 1 else bst τ hours n := sorry
theorem bst_le (τ : TT) (hours : Int32) (n : Nat) : bst τ hours n ≤ n := sorry
theorem shl1 : ∀ k, k < 13 → (1 : Int32) <<< (nI k &&& 31) = nI (2 ^ k) := sorry
theorem pw9 {k : Nat} (h : k ≤ 9) : 1 ≤ 2 ^ k ∧ 2 ^ k ≤ 512 := sorry
def sBe (τ : TT) (h w : Int32) : Int32 := if w = 0 then nI (bst τ h (2 ^ nK τ - 1)) else olks τ (bst τ h (2 ^ nK τ - 1)) w

def rmX12_best : Room := { frames := 2, cells := 0, slots := 0, locals := 45 }
set_option maxHeartbeats 4000000 in
set_option maxRecDepth 100000 in
theorem n_X12_best {τ : TT} {h w : Int32} (hno : ¬ irg h 0 99 ∨ ¬ irg w 0 2) : RD mX12_best rmX12_best [.int h, .int w] τ (some (.int (-2))) (τ) := sorry
set_option maxHeartbeats 4000000 in
set_option maxRecDepth 100000 in
theorem c_X12_best {τ : TT} {h w : Int32} (hk : nK τ ≤ 9 ∧ τ 24 0 = nI (nK τ)) (h1 : irg h 0 99) (h2 : irg w 0 2) : RD mX12_best rmX12_best [.int h, .int w] τ (some (.int (sBe τ h w))) (τ) := sorry
def nbo (τ : TT) (p : Nat) (tk : Int32) : Nat → Option Nat
  | 0 => none
  | q + 1 => if hbt tk q then nbo τ p tk q else (nbo τ p tk q).elim (some q) (fun b => if lkn τ p q < lkn τ p b then some q else some b)
theorem nbo_s {τ : TT} {p q : Nat} {tk : Int32} : nbo τ p tk (q + 1) = if hbt tk q then nbo τ p tk q else (nbo τ p tk q).elim (some q) (fun b => if lkn τ p q < lkn τ p b then some q else some b) := sorry
def ob (x : Option Nat) : Int32 := x.elim (-9) nI
theorem nbo_lt {τ : TT} {p : Nat} {tk : Int32} {n b : Nat} (h : nbo τ p tk n = some b) : b < n := sorry
def nrs (τ : TT) (p : Nat) : Nat → Int32
  | 0 => 1 <<< (nI p &&& 31)
  | x + 1 => nrs τ p x ||| (1 <<< (ob (nbo τ p (nrs τ p x) (nP τ)) &&& 31))
theorem nrs_s {τ : TT} {p x : Nat} : nrs τ p (x + 1) = nrs τ p x ||| (1 <<< (ob (nbo τ p (nrs τ p x) (nP τ)) &&& 31)) := sorry
def rmX12_nearest : Room := { frames := 3, cells := 0, slots := 0, locals := 70 }
set_option maxHeartbeats 4000000 in
set_option maxRecDepth 100000 in
theorem n_X12_nearest {τ : TT} {v w : Int32} (hw : WP τ) (hno : ¬ ir v (nP τ) ∨ ¬ irg w 0 10) : RD mX12_nearest rmX12_nearest [.int v, .int w] τ (some (.int (-1))) (τ) := sorry
set_option maxHeartbeats 4000000 in
set_option maxRecDepth 100000 in
theorem c_X12_nearest {τ : TT} {p k : Nat} (hw : WP τ) (hp : p < nP τ) (hk : k ≤ 10) (hsome : ∀ y, y ≤ k → ∃ b, nbo τ p (nrs τ p y) (nP τ) = some b) : RD mX12_nearest rmX12_nearest [.int (nI p), .int (nI k)] τ (some (.int (ob (nbo τ p (nrs τ p k) (nP τ))))) (τ) := sorry
set_option maxHeartbeats 4000000 in
set_option maxRecDepth 100000 in
theorem n2_X12_nearest {τ : TT} {p k : Nat} (hw : WP τ) (hp : p < nP τ) (hk : k ≤ 10) (hnone : ∃ y, y ≤ k ∧ nbo τ p (nrs τ p y) (nP τ) = none) : RD mX12_nearest rmX12_nearest [.int (nI p), .int (nI k)] τ (some (.int (-9))) (τ) := sorry
end
section
/-! the reference: falsely (rows laid by gen/ref9.py) -/
/-- the loop of share: what it leaves, and whether it ends within so many turns -/
def gcl : Nat → Int64 → Int64 → Int64
  | 0, x, _ => x
  | f + 1, x, y => if y = 0 then x else gcl f y (x - x / y * y)
def gce : Nat → Int64 → Int64 → Bool
  | 0, _, y => y == 0
  | f + 1, x, y => if y = 0 then true else gce f y (x - x / y * y)
theorem lc_eq {x y : Int64} : lg_cmp x y = 0 ↔ x = y := sorry
def rmX12_share : Room := { frames := 0, cells := 0, slots := 0, locals := 0 }
set_option maxHeartbeats 4000000 in
set_option maxRecDepth 100000 in
theorem c_share_loop {a b : Int64} {w : Int32} {M : Mem} (g : Int64) : ∀ (f : Nat) (x y : Int64) (z : Option Value), gce f x y = true → gcl f x y = g → ¬ g = 0 → AW mX12_share rmX12_share (fun r' M' => r' = (some (.long ((if w = 0 then a else b) / g))) ∧ M' = M) 6 [some (.long a), none, some (.long b), none, some (.int w), some (.long x), none, some (.long y), none, z, none] [] M 0 0 := sorry
set_option maxHeartbeats 4000000 in
set_option maxRecDepth 100000 in
theorem c_X12_share {a b : Int64} {w : Int32} (f : Nat) (he : gce f a b = true) (hz : ¬ gcl f a b = 0) : SD mX12_share rmX12_share [.long a, .long b, .int w] (some (.long ((if w = 0 then a else b) / gcl f a b))) := sorry
/-- how many ways there are to have just k of n -/
def wys (n : Nat) : Nat → Int64
  | 0 => 1
  | k + 1 => wys n k * (nI n - nI k).toInt64 / (nI k + 1).toInt64
/-- how many to have c or more, counted up to k -/
def asl (n : Nat) (c : Int32) : Nat → Int64
  | 0 => 0
  | k + 1 => asl n c k + (if nI k < c then 0 else wys n k)
theorem fls_ok : ∀ n, n < 9 → ∀ c, c < 9 → gce 20 (asl n (nI c) (n + 1)) ((1 : Int32) <<< (nI n &&& 31)).toInt64 = true ∧ ¬ gcl 20 (asl n (nI c) (n + 1)) ((1 : Int32) <<< (nI n &&& 31)).toInt64 = 0 := sorry
theorem fnd_nat {τ : TT} {p : Nat} {m : Int32} : ∀ n, ∃ c, c ≤ n ∧ fnd τ p m n = nI c := sorry
def fls (n : Nat) (c w : Int32) : Int64 := (if w = 0 then asl n c (n + 1) else ((1 : Int32) <<< (nI n &&& 31)).toInt64) / gcl 20 (asl n c (n + 1)) ((1 : Int32) <<< (nI n &&& 31)).toInt64
theorem k1_ne {k : Nat} (h : k < 100) : ¬ (nI k + 1).toInt64 = 0 := sorry
def rmX12_falsely : Room := { frames := 3, cells := 0, slots := 0, locals := 69 }
set_option maxHeartbeats 4000000 in
set_option maxRecDepth 100000 in
theorem n_X12_falsely {τ : TT} {v m w : Int32} (hw : WP τ) (hno : ¬ ir v (nP τ) ∨ ¬ irg m 0 255 ∨ ¬ irg w 0 1) : RD mX12_falsely rmX12_falsely [.int v, .int m, .int w] τ (some (.long (-9223372036854775808))) (τ) := sorry
set_option maxHeartbeats 4000000 in
set_option maxRecDepth 100000 in
theorem c_X12_falsely {τ : TT} {p : Nat} {m w : Int32} (hw : WP τ) (hp : p < nP τ) (hm : irg m 0 255) (hw1 : irg w 0 1) : RD mX12_falsely rmX12_falsely [.int (nI p), .int m, .int w] τ (some (.long (fls (min 8 (wd τ p * hg τ p)) (fnd τ p m (min 8 (wd τ p * hg τ p))) w))) (τ) := sorry
end
section
/-! the reference: what it does in its hand (rows laid by gen/refA.py) -/
theorem tu_same {τ : TT} {i k : Nat} : tu τ i k (τ i k) = τ := sorry
def tih (τ : TT) (p : Nat) : TT := ov (tu (tu τ 9 0 (τ 2 p)) 10 0 (τ 3 p)) 11 0 16 (fun b => τ 4 (16 * p + b))

def rmX12_takeInHand : Room := { frames := 0, cells := 0, slots := 0, locals := 0 }
set_option maxHeartbeats 4000000 in
set_option maxRecDepth 100000 in
theorem c_X12_takeInHand {τ : TT} {p : Nat} (hp : p < 12) : RD mX12_takeInHand rmX12_takeInHand [.int (nI p)] τ (none) (tih τ p) := sorry
def pPl (x y w k : Nat) : Nat := x + k % w + 4 * (y + k / w)
def dPl (w k : Nat) : Nat := k % w + 4 * (k / w)
def smH (τ : TT) (x y w : Nat) : Nat → Int32
  | 0 => 0
  | k + 1 => smH τ x y w k + τ 11 (pPl x y w k)
def blT (τ : TT) (x y w : Nat) (s : Int32) : Nat → TT
  | 0 => τ
  | k + 1 => tu (blT τ x y w s k) 11 (pPl x y w k) s
def ctT (τ : TT) (x y w : Nat) : Nat → TT
  | 0 => τ
  | k + 1 => tu (ctT τ x y w k) 11 (dPl w k) (ctT τ x y w k 11 (pPl x y w k))
def tBl (τ : TT) (x y w h : Nat) : TT := blT τ x y w (smH τ x y w (w * h) / nI (w * h)) (w * h)
def tCt (τ : TT) (x y w h : Nat) : TT := tu (tu (ctT τ x y w (w * h)) 9 0 (nI w)) 10 0 (nI h)
theorem blT_ne {τ : TT} {x y w k i : Nat} {s : Int32} (h : i ≠ 11) : blT τ x y w s k i = τ i := sorry
theorem ctT_ne {τ : TT} {x y w k i : Nat} (h : i ≠ 11) : ctT τ x y w k i = τ i := sorry
def rmX12_doPart : Room := { frames := 0, cells := 0, slots := 0, locals := 0 }
set_option maxHeartbeats 4000000 in
set_option maxRecDepth 100000 in
theorem n_X12_doPart {τ : TT} {f a0 x y w h W H : Nat} (hf : f = 7 ∨ f = 22) (ha : a0 + 4 < rLen f) (hx : τ f (a0 + 1) = nI x) (hy : τ f (a0 + 2) = nI y) (hw : τ f (a0 + 3) = nI w) (hh : τ f (a0 + 4) = nI h) (h9 : x ≤ 9 ∧ y ≤ 9 ∧ w ≤ 9 ∧ h ≤ 9) (hWW : τ 9 0 = nI W ∧ W ≤ 4) (hHH : τ 10 0 = nI H ∧ H ≤ 4) (hno : ¬ (1 ≤ w ∧ 1 ≤ h ∧ x + w ≤ W ∧ y + h ≤ H)) : RD mX12_doPart rmX12_doPart [.ref (rAd f), .int (nI a0)] τ (some (.int 0)) (τ) := sorry
set_option maxHeartbeats 4000000 in
set_option maxRecDepth 100000 in
theorem b_X12_doPart {τ : TT} {f a0 x y w h W H : Nat} (hf : f = 7 ∨ f = 22) (ha : a0 + 4 < rLen f) (hx : τ f (a0 + 1) = nI x) (hy : τ f (a0 + 2) = nI y) (hw : τ f (a0 + 3) = nI w) (hh : τ f (a0 + 4) = nI h) (h9 : x ≤ 9 ∧ y ≤ 9 ∧ w ≤ 9 ∧ h ≤ 9) (hWW : τ 9 0 = nI W ∧ W ≤ 4) (hHH : τ 10 0 = nI H ∧ H ≤ 4) (hok : 1 ≤ w ∧ 1 ≤ h ∧ x + w ≤ W ∧ y + h ≤ H) (hc : τ f a0 = 98) : RD mX12_doPart rmX12_doPart [.ref (rAd f), .int (nI a0)] τ (some (.int 1)) (tBl τ x y w h) := sorry
set_option maxHeartbeats 4000000 in
set_option maxRecDepth 100000 in
theorem c_X12_doPart {τ : TT} {f a0 x y w h W H : Nat} (hf : f = 7 ∨ f = 22) (ha : a0 + 4 < rLen f) (hx : τ f (a0 + 1) = nI x) (hy : τ f (a0 + 2) = nI y) (hw : τ f (a0 + 3) = nI w) (hh : τ f (a0 + 4) = nI h) (h9 : x ≤ 9 ∧ y ≤ 9 ∧ w ≤ 9 ∧ h ≤ 9) (hWW : τ 9 0 = nI W ∧ W ≤ 4) (hHH : τ 10 0 = nI H ∧ H ≤ 4) (hok : 1 ≤ w ∧ 1 ≤ h ∧ x + w ≤ W ∧ y + h ≤ H) (hc : τ f a0 = 99) : RD mX12_doPart rmX12_doPart [.ref (rAd f), .int (nI a0)] τ (some (.int 1)) (tCt τ x y w h) := sorry
def trT (τ : TT) (w H : Nat) : Nat → TT
  | 0 => ov τ 12 0 16 (fun b => τ 11 b)
  | k + 1 => tu (trT τ w H k) 11 (dPl w k) (τ 11 (k / w + 4 * (H - 1 - k % w)))
theorem trT_ne {τ : TT} {w H k i : Nat} (h : i ≠ 11) (h2 : i ≠ 12) : trT τ w H k i = τ i := sorry
theorem trT_12 {τ : TT} {w H k b : Nat} (hb : b < 16) : trT τ w H k 12 b = τ 11 b := sorry
def tTr (τ : TT) (W H : Nat) : TT := tu (tu (trT τ H H (H * W)) 9 0 (nI H)) 10 0 (nI W)

def rmX12_turn : Room := { frames := 0, cells := 0, slots := 0, locals := 0 }
set_option maxHeartbeats 4000000 in
set_option maxRecDepth 100000 in
theorem c_X12_turn {τ : TT} {W H : Nat} (hWW : τ 9 0 = nI W ∧ 1 ≤ W ∧ W ≤ 4) (hHH : τ 10 0 = nI H ∧ 1 ≤ H ∧ H ≤ 4) : RD mX12_turn rmX12_turn [] τ (none) (tTr τ W H) := sorry
end
section
/-! the reference: acts done (rows laid by gen/refB.py) -/
/-- what acts are as read: code and numbers -/
def actOK (A : Nat → Int32) (a : Nat) : Prop :=
  (∃ x y w h : Nat, (A a = 99 ∨ A a = 98) ∧ A (a + 1) = nI x ∧ A (a + 2) = nI y ∧ A (a + 3) = nI w ∧ A (a + 4) = nI h ∧ (x ≤ 9 ∧ y ≤ 9 ∧ w ≤ 9 ∧ h ≤ 9)) ∨ A a = 116 ∨
  ∃ d : Nat, (A a = 108 ∨ A a = 109 ∨ A a = 113) ∧ A (a + 1) = nI d ∧ 1 ≤ d ∧ d ≤ 99
def dgt (A : Nat → Int32) (k : Nat) : Nat := (A k).toNatClampNeg
def hWd (τ : TT) : Nat := (τ 9 0).toNatClampNeg
def hHg (τ : TT) : Nat := (τ 10 0).toNatClampNeg
def WHd (τ : TT) : Prop := (τ 9 0 = nI (hWd τ) ∧ 1 ≤ hWd τ ∧ hWd τ ≤ 4) ∧ (τ 10 0 = nI (hHg τ) ∧ 1 ≤ hHg τ ∧ hHg τ ≤ 4)
def tTn (τ : TT) (c b : Int32) : TT := ov τ 11 0 16 (fun k => tnt (τ 11 k) c b)
abbrev fitP (τ : TT) (x y w h : Nat) : Prop := 1 ≤ w ∧ 1 ≤ h ∧ x + w ≤ hWd τ ∧ y + h ≤ hHg τ
def stp (f a : Nat) (σ : TT) : Bool × TT :=
  if σ f a = 99 ∨ σ f a = 98 then
    if fitP σ (dgt (σ f) (a + 1)) (dgt (σ f) (a + 2)) (dgt (σ f) (a + 3)) (dgt (σ f) (a + 4)) then
      (true, if σ f a = 98 then tBl σ (dgt (σ f) (a + 1)) (dgt (σ f) (a + 2)) (dgt (σ f) (a + 3)) (dgt (σ f) (a + 4)) else tCt σ (dgt (σ f) (a + 1)) (dgt (σ f) (a + 2)) (dgt (σ f) (a + 3)) (dgt (σ f) (a + 4)))
    else (false, σ)
  else if σ f a = 116 then (true, tTr σ (hWd σ) (hHg σ)) else (true, tTn σ (σ f a) (σ f (a + 1)))
def dAs (f fr : Nat) (τ : TT) : Nat → Bool × TT
  | 0 => (true, τ)
  | n + 1 => if (dAs f fr τ n).1 = true then stp f (fr + 5 * n) (dAs f fr τ n).2 else dAs f fr τ n
theorem dAs_s {f fr : Nat} {τ σ : TT} {n : Nat} (h : dAs f fr τ n = (true, σ)) : dAs f fr τ (n + 1) = stp f (fr + 5 * n) σ := sorry
theorem dAs_f {f fr : Nat} {τ σ : TT} {n : Nat} (h : dAs f fr τ n = (false, σ)) : ∀ m, n ≤ m → dAs f fr τ m = (false, σ) := sorry
theorem dgt_n {A : Nat → Int32} {k n : Nat} (h : A k = nI n) (hn : n ≤ 100) : dgt A k = n := sorry
theorem stp_b {f a x y w h : Nat} {σ : TT} (hc : σ f a = 98) (hx : σ f (a + 1) = nI x) (hy : σ f (a + 2) = nI y) (hw : σ f (a + 3) = nI w) (hh : σ f (a + 4) = nI h) (h9 : x ≤ 9 ∧ y ≤ 9 ∧ w ≤ 9 ∧ h ≤ 9) (hok : fitP σ x y w h) : stp f a σ = (true, tBl σ x y w h) := sorry
theorem stp_c {f a x y w h : Nat} {σ : TT} (hc : σ f a = 99) (hx : σ f (a + 1) = nI x) (hy : σ f (a + 2) = nI y) (hw : σ f (a + 3) = nI w) (hh : σ f (a + 4) = nI h) (h9 : x ≤ 9 ∧ y ≤ 9 ∧ w ≤ 9 ∧ h ≤ 9) (hok : fitP σ x y w h) : stp f a σ = (true, tCt σ x y w h) := sorry
theorem stp_n {f a x y w h : Nat} {σ : TT} (hc : σ f a = 99 ∨ σ f a = 98) (hx : σ f (a + 1) = nI x) (hy : σ f (a + 2) = nI y) (hw : σ f (a + 3) = nI w) (hh : σ f (a + 4) = nI h) (h9 : x ≤ 9 ∧ y ≤ 9 ∧ w ≤ 9 ∧ h ≤ 9) (hok : ¬ fitP σ x y w h) : stp f a σ = (false, σ) := sorry
theorem stp_t {f a : Nat} {σ : TT} (hc : σ f a = 116) : stp f a σ = (true, tTr σ (hWd σ) (hHg σ)) := sorry
theorem stp_i {f a : Nat} {σ : TT} {c b : Int32} (hc : σ f a = c) (h1 : ¬ (c = 99 ∨ c = 98)) (h2 : ¬ c = 116) (hb : σ f (a + 1) = b) : stp f a σ = (true, tTn σ c b) := sorry
theorem tBl_ne {τ : TT} {x y w h i : Nat} (hi : i ≠ 11) : tBl τ x y w h i = τ i := sorry
theorem tCt_ne {τ : TT} {x y w h i : Nat} (hi : i ≠ 9 ∧ i ≠ 10 ∧ i ≠ 11) : tCt τ x y w h i = τ i := sorry
theorem tTr_ne {τ : TT} {W H i : Nat} (hi : i ≠ 9 ∧ i ≠ 10 ∧ i ≠ 11 ∧ i ≠ 12) : tTr τ W H i = τ i := sorry
theorem stp_ne {f a : Nat} {σ : TT} {i : Nat} (hi : i ≠ 9 ∧ i ≠ 10 ∧ i ≠ 11 ∧ i ≠ 12) : (stp f a σ).2 i = σ i := sorry
theorem dAs_ne {f fr : Nat} {τ : TT} {n i : Nat} (hi : i ≠ 9 ∧ i ≠ 10 ∧ i ≠ 11 ∧ i ≠ 12) : (dAs f fr τ n).2 i = τ i := sorry
theorem WHd.of {σ : TT} {w h : Nat} (h1 : σ 9 0 = nI w) (h2 : σ 10 0 = nI h) (h3 : 1 ≤ w ∧ w ≤ 4) (h4 : 1 ≤ h ∧ h ≤ 4) : WHd σ ∧ hWd σ = w ∧ hHg σ = h := sorry
theorem stp_WH {f a : Nat} {σ : TT} (h : WHd σ) : WHd (stp f a σ).2 := sorry
theorem dAs_WH {f fr : Nat} {τ : TT} {n : Nat} (h : WHd τ) : WHd (dAs f fr τ n).2 := sorry
def rmX12_doActs : Room := { frames := 2, cells := 0, slots := 0, locals := 43 }
set_option maxHeartbeats 4000000 in
set_option maxRecDepth 100000 in
theorem c_X12_doActs {τ : TT} {f fr n : Nat} (hf : f = 7 ∨ f = 22) (hn : n ≤ 5) (hfr : fr + 5 * n ≤ rLen f) (hwh0 : WHd τ) (hact : ∀ k, k < n → actOK (τ f) (fr + 5 * k)) : RD mX12_doActs rmX12_doActs [.ref (rAd f), .int (nI fr), .int (nI n)] τ (some (.int (bi ((dAs f fr τ n).1 = true)))) ((dAs f fr τ n).2) := sorry
end
section
/-! acts on a hand alone: a row of 16 squares, how wide, how high (gen/refC.py) -/
abbrev HS : Type := (Nat → Int32) × Nat × Nat
def blG (g : Nat → Int32) (x y w : Nat) (s : Int32) : Nat → Nat → Int32
  | 0 => g
  | k + 1 => fun b => if b = pPl x y w k then s else blG g x y w s k b
def ctG (g : Nat → Int32) (x y w : Nat) : Nat → Nat → Int32
  | 0 => g
  | k + 1 => fun b => if b = dPl w k then ctG g x y w k (pPl x y w k) else ctG g x y w k b
def smG (g : Nat → Int32) (x y w : Nat) : Nat → Int32
  | 0 => 0
  | k + 1 => smG g x y w k + g (pPl x y w k)
def trG (g : Nat → Int32) (w H : Nat) : Nat → Nat → Int32
  | 0 => g
  | k + 1 => fun b => if b = dPl w k then g (k / w + 4 * (H - 1 - k % w)) else trG g w H k b
abbrev fitH (u : HS) (x y w h : Nat) : Prop := 1 ≤ w ∧ 1 ≤ h ∧ x + w ≤ u.2.1 ∧ y + h ≤ u.2.2
def stH (A : Nat → Int32) (a : Nat) (u : HS) : Option HS :=
  if A a = 99 ∨ A a = 98 then
    if fitH u (dgt A (a + 1)) (dgt A (a + 2)) (dgt A (a + 3)) (dgt A (a + 4)) then
      some (if A a = 98 then (blG u.1 (dgt A (a + 1)) (dgt A (a + 2)) (dgt A (a + 3)) (smG u.1 (dgt A (a + 1)) (dgt A (a + 2)) (dgt A (a + 3)) (dgt A (a + 3) * dgt A (a + 4)) / nI (dgt A (a + 3) * dgt A (a + 4))) (dgt A (a + 3) * dgt A (a + 4)), u.2.1, u.2.2)
        else (ctG u.1 (dgt A (a + 1)) (dgt A (a + 2)) (dgt A (a + 3)) (dgt A (a + 3) * dgt A (a + 4)), dgt A (a + 3), dgt A (a + 4)))
    else none
  else if A a = 116 then some (trG u.1 u.2.2 u.2.2 (u.2.2 * u.2.1), u.2.2, u.2.1) else some (fun b => tnt (u.1 b) (A a) (A (a + 1)), u.2.1, u.2.2)
def dH (A : Nat → Int32) (fr : Nat) (u : HS) : Nat → Option HS
  | 0 => some u
  | n + 1 => (dH A fr u n).bind (stH A (fr + 5 * n))
/-- the table's hand is this one -/
def HR (σ : TT) (u : HS) : Prop := (∀ b, b < 16 → σ 11 b = u.1 b) ∧ hWd σ = u.2.1 ∧ hHg σ = u.2.2
theorem pPl_lt {x y w h W H k : Nat} (hok : 1 ≤ w ∧ 1 ≤ h ∧ x + w ≤ W ∧ y + h ≤ H) (hW : W ≤ 4) (hH : H ≤ 4) (hk : k < w * h) : pPl x y w k < 16 ∧ dPl w k < 16 ∧ k % w < w ∧ k / w < h := sorry
theorem sm_rel {σ : TT} {g : Nat → Int32} {x y w h W H : Nat} (hg : ∀ b, b < 16 → σ 11 b = g b) (hok : 1 ≤ w ∧ 1 ≤ h ∧ x + w ≤ W ∧ y + h ≤ H) (hW : W ≤ 4) (hH : H ≤ 4) : ∀ n, n ≤ w * h → smH σ x y w n = smG g x y w n := sorry
theorem bl_rel {σ : TT} {g : Nat → Int32} {x y w : Nat} {s : Int32} (hg : ∀ b, b < 16 → σ 11 b = g b) : ∀ n b, b < 16 → blT σ x y w s n 11 b = blG g x y w s n b := sorry
theorem ct_rel {σ : TT} {g : Nat → Int32} {x y w h W H : Nat} (hg : ∀ b, b < 16 → σ 11 b = g b) (hok : 1 ≤ w ∧ 1 ≤ h ∧ x + w ≤ W ∧ y + h ≤ H) (hW : W ≤ 4) (hH : H ≤ 4) : ∀ n, n ≤ w * h → ∀ b, b < 16 → ctT σ x y w n 11 b = ctG g x y w n b := sorry
theorem tr_rel {σ : TT} {g : Nat → Int32} {W H : Nat} (hg : ∀ b, b < 16 → σ 11 b = g b) (hW : 1 ≤ W ∧ W ≤ 4) (hH : 1 ≤ H ∧ H ≤ 4) : ∀ n, n ≤ H * W → ∀ b, b < 16 → trT σ H H n 11 b = trG g H H n b := sorry
/-- one act: the table's and the hand's -/
theorem stp_rel {f a : Nat} {σ : TT} {u : HS} (h : HR σ u) (hw : WHd σ) (hf : f = 7 ∨ f = 22) : (∀ u', stH (σ f) a u = some u' → (stp f a σ).1 = true ∧ HR (stp f a σ).2 u') ∧ (stH (σ f) a u = none → (stp f a σ).1 = false) := sorry
theorem dAs_rel {f fr : Nat} {τ : TT} {u : HS} (h : HR τ u) (hw : WHd τ) (hf : f = 7 ∨ f = 22) : ∀ n, (∀ u', dH (τ f) fr u n = some u' → (dAs f fr τ n).1 = true ∧ HR (dAs f fr τ n).2 u') ∧ (dH (τ f) fr u n = none → (dAs f fr τ n).1 = false) := sorry
/-- a picture as a hand -/
def hOf (τ : TT) (p : Nat) : HS := (fun b => τ 4 (16 * p + b), wd τ p, hg τ p)
theorem tih_ne {τ : TT} {p i : Nat} (h : i ≠ 9 ∧ i ≠ 10 ∧ i ≠ 11) : tih τ p i = τ i := sorry
theorem tih_HR {τ : TT} {p : Nat} (hw : WP τ) (hp : p < nP τ) : HR (tih τ p) (hOf τ p) ∧ WHd (tih τ p) := sorry
end
section
/-! the reference: played, speaking, the way (rows laid by gen/refD.py) -/
/-- rows that no answer shows -/
abbrev scr (i : Nat) : Prop := i = 5 ∨ i = 6 ∨ i = 7 ∨ i = 8 ∨ i = 9 ∨ i = 10 ∨ i = 11 ∨ i = 12 ∨ i = 31
def Obs (σ τ : TT) : Prop := ∀ i, ¬ scr i → σ i = τ i
theorem Obs.rf (τ : TT) : Obs τ τ := sorry
theorem Obs.trans {a b c : TT} (h : Obs a b) (g : Obs b c) : Obs a c := sorry
theorem Obs.symm {a b : TT} (h : Obs a b) : Obs b a := sorry
def RE (Z : YY) (rm : Room) (as : List Value) (τ : TT) (r : Option Value) (τ' : TT) : Prop := ∀ M, RW τ M → AM Z rm (.ref 25 :: as) M (fun r' M' => r' = r ∧ ∃ σ, RO σ M M' ∧ Obs σ τ')
theorem RD.toRE {Z : YY} {rm : Room} {as : List Value} {τ τ' τ2 : TT} {r : Option Value} (h : RD Z rm as τ r τ') (ho : Obs τ' τ2) : RE Z rm as τ r τ2 := sorry
section
variable {Y : YY} {R : Room} {Q : Option Value → Mem → Prop} {ls : List (Option Value)} {st : List Value} {M M0 : Mem} {cs ss : Nat} {τ : TT}
theorem re_call1 (pc : Nat) {Z : YY} {rm : Room} {as st0 : List Value} {r : Value} {τ' : TT} {idx : Nat} (hd : decode Y.2.1 pc = .ok (.invokevirtual idx, 3)) (hM : RE Z rm as τ (some r) τ') (ck : ckV Y.1.cls idx Z as.length = true) (hcd : inTbl Z) (hcl : Z.1.cls = RX12) (hW : RO τ M0 M) (hst : st0 = as.reverse ++ .ref 25 :: st) (hw : (st.map fun v => v.category).sum ≤ 8) (hR1 : rmOK R rm Z cs ss) (hz : (rm.cells, rm.slots) = (0, 0))
    (kk : ∀ σ M, Obs σ τ' → RO σ M0 M → AW Y R Q (pc + 3) ls (r :: st) M cs ss) : AW Y R Q pc ls st0 M cs ss := sorry
end
theorem Obs.WPe {σ τ : TT} (h : Obs σ τ) (w : WP τ) : WP σ := sorry
theorem Obs.nPe {σ τ : TT} (h : Obs σ τ) : nP σ = nP τ := sorry
theorem Obs.wde {σ τ : TT} (h : Obs σ τ) (p : Nat) : wd σ p = wd τ p := sorry
theorem Obs.hge {σ τ : TT} (h : Obs σ τ) (p : Nat) : hg σ p = hg τ p := sorry
theorem Obs.nLe {σ τ : TT} (h : Obs σ τ) : nL σ = nL τ := sorry
theorem Obs.nKe {σ τ : TT} (h : Obs σ τ) : nK σ = nK τ := sorry
theorem Obs.leafe {σ τ : TT} (h : Obs σ τ) (p : Nat) : leaf σ p = leaf τ p := sorry
theorem Obs.hOfe {σ τ : TT} (h : Obs σ τ) (p : Nat) : hOf σ p = hOf τ p := sorry
theorem Obs.slve {σ τ : TT} (h : Obs σ τ) (p l : Nat) (t : Int32) : slv σ p l t = slv τ p l t := sorry
theorem lay_obs {τ : TT} {p : Nat} : Obs (lay τ p) τ := sorry
theorem tih_obs {τ : TT} {p : Nat} : Obs (tih τ p) τ := sorry
theorem dAs_obs {f fr : Nat} {τ : TT} {n : Nat} : Obs (dAs f fr τ n).2 τ := sorry
/-- lines -/
def lnOK (τ : TT) (p : Nat) : Prop := (τ 16 p = 0 ∨ τ 16 p = 1 ∨ τ 16 p = 2) ∧ (∃ l, l < nL τ ∧ τ 17 p = nI l) ∧ (∃ h, h < 1000 ∧ τ 18 p = nI h) ∧ (¬ τ 16 p = 0 → ∃ f, f < p ∧ τ 20 p = nI f) ∧ (τ 16 p = 1 → ∃ a, a ≤ 5 ∧ τ 21 p = nI a ∧ ∀ j, j < a → actOK (τ 22) (25 * p + 5 * j))
def WN (τ : TT) : Prop := ∀ p, p < nP τ → τ 16 p = -9 ∨ lnOK τ p
theorem Obs.WNe {σ τ : TT} (h : Obs σ τ) (w : WN τ) : WN σ := sorry
theorem Obs.WLe {σ τ : TT} (h : Obs σ τ) (w : WL τ) : WL σ := sorry
abbrev bad (g : Nat → Int32) (τ : TT) (p k : Nat) : Prop := thr τ p k ∧ τ 23 0 < szO (g k - τ 4 (16 * p + k))
def ffp (g : Nat → Int32) (τ : TT) (p : Nat) : Nat → Nat → Int32
  | 0, _ => -9
  | d + 1, k => if bad g τ p k then nI k else ffp g τ p d (k + 1)
theorem ffp_s {g : Nat → Int32} {τ : TT} {p d k : Nat} : ffp g τ p (d + 1) k = if bad g τ p k then nI k else ffp g τ p d (k + 1) := sorry
def plR (τ : TT) (p : Nat) : Int32 := (dH (τ 22) (25 * p) (hOf τ (dgt (τ 20) p)) (dgt (τ 21) p)).elim (-20) (fun u => if ¬ (u.2.1 = wd τ p ∧ u.2.2 = hg τ p) then -21 else ffp u.1 τ p 16 0)
theorem Obs.ffpe {σ τ : TT} (h : Obs σ τ) (g : Nat → Int32) (p : Nat) : ∀ d k, ffp g σ p d k = ffp g τ p d k := sorry
theorem Obs.plRe {σ τ : TT} (h : Obs σ τ) (p : Nat) : plR σ p = plR τ p := sorry
def rmX12_played : Room := { frames := 3, cells := 0, slots := 0, locals := 70 }
set_option maxHeartbeats 4000000 in
set_option maxRecDepth 100000 in
theorem c_X12_played {τ : TT} {p : Nat} (hw : WP τ) (hp : p < nP τ) (hln : lnOK τ p) (hk1 : τ 16 p = 1) : RE mX12_played rmX12_played [.int (nI p)] τ (some (.int (plR τ p))) (τ) := sorry
def spk (τ : TT) (p : Nat) : Int32 := if τ 15 (dgt (τ 17) p) ≤ τ 18 p then 3 else if ¬ slv τ p (dgt (τ 17) p) (τ 18 p) = τ 19 p then 2 else if τ 16 p = 1 ∧ ¬ plR τ p = -9 then 4 else if τ 16 p = 2 then 1 else 0
theorem Obs.spke {σ τ : TT} (h : Obs σ τ) (p : Nat) : spk σ p = spk τ p := sorry
theorem lnOK.obs {σ τ : TT} {p : Nat} (h : Obs σ τ) (w : lnOK τ p) : lnOK σ p := sorry
def rmX12_speaking : Room := { frames := 5, cells := 0, slots := 0, locals := 113 }
set_option maxHeartbeats 4000000 in
set_option maxRecDepth 100000 in
theorem c_X12_speaking {τ : TT} {p : Nat} (hw : WP τ) (hp : p < nP τ) (hl : WL τ) (hln : lnOK τ p) : RE mX12_speaking rmX12_speaking [.int (nI p)] τ (some (.int (spk τ p))) (τ) := sorry
def rmX12_play : Room := { frames := 4, cells := 0, slots := 0, locals := 92 }
set_option maxHeartbeats 4000000 in
set_option maxRecDepth 100000 in
theorem n_X12_play {τ : TT} {v : Int32} (hw : WP τ) (hno : ¬ ir v (nP τ)) : RD mX12_play rmX12_play [.int v] τ (some (.int (-1))) (τ) := sorry
set_option maxHeartbeats 4000000 in
set_option maxRecDepth 100000 in
theorem c_X12_play {τ : TT} {p : Nat} (hw : WP τ) (hp : p < nP τ) (hl : WL τ) (hn : WN τ) : RE mX12_play rmX12_play [.int (nI p)] τ (some (.int (if τ 16 p = 1 then plR τ p else -3))) (τ) := sorry
def rmX12_speaks : Room := { frames := 6, cells := 0, slots := 0, locals := 134 }
set_option maxHeartbeats 4000000 in
set_option maxRecDepth 100000 in
theorem n_X12_speaks {τ : TT} {v : Int32} (hw : WP τ) (hno : ¬ ir v (nP τ)) : RD mX12_speaks rmX12_speaks [.int v] τ (some (.int (-1))) (τ) := sorry
set_option maxHeartbeats 4000000 in
set_option maxRecDepth 100000 in
theorem c_X12_speaks {τ : TT} {p : Nat} (hw : WP τ) (hp : p < nP τ) (hl : WL τ) (hn : WN τ) : RE mX12_speaks rmX12_speaks [.int (nI p)] τ (some (.int (if τ 16 p < 0 then -3 else spk τ p))) (τ) := sorry
/-- where the way goes on -/
theorem nxt_ok {τ : TT} {x : Nat} (hn : WN τ) (hx : x < nP τ) : nxt τ x = -9 ∨ ∃ f, f < x ∧ nxt τ x = nI f := sorry
theorem Obs.nxte {σ τ : TT} (h : Obs σ τ) (p : Nat) : nxt σ p = nxt τ p := sorry
/-- what is next, if anything is -/
def nx (τ : TT) (x : Nat) : Option Nat := if nxt τ x < 0 then none else some (dgt (nxt τ) x)
theorem nx_ok {τ : TT} {x : Nat} (hn : WN τ) (hx : x < nP τ) (h12 : nP τ ≤ 12) : nxt τ x = ob (nx τ x) ∧ (nx τ x).elim 0 (· + 1) < x + 1 ∧ ∀ y, nx τ x = some y → y < x := sorry
theorem Obs.nxe {σ τ : TT} (h : Obs σ τ) (p : Nat) : nx σ p = nx τ p := sorry
def wyO (τ : TT) (k : Int32) : Nat → Option Nat → Int32 → Int32 → Int32 × Int32
  | 0, _, m, fd => (m, fd)
  | _ + 1, none, m, fd => (m, fd)
  | d + 1, some x, m, fd => wyO τ k d (nx τ x) (m + 1) (if m = k then nI x else fd)
def sWy (τ : TT) (p : Nat) (k : Int32) : Int32 := if k < 0 then (wyO τ k 13 (some p) 0 (-9)).1 else (wyO τ k 13 (some p) 0 (-9)).2
def dbO (τ : TT) : Nat → Option Nat → Int32
  | 0, _ => -9
  | _ + 1, none => -9
  | d + 1, some x => if τ 16 x < 0 ∨ 1 < spk τ x then nI x else dbO τ d (nx τ x)
def dbt (τ : TT) (p : Nat) : Int32 := dbO τ 13 (some p)
theorem Obs.dbOe {σ τ : TT} (h : Obs σ τ) : ∀ d xo, dbO σ d xo = dbO τ d xo := sorry
def whO (τ : TT) : Nat → Option Nat → Int32 → Int32
  | 0, _, b => b
  | _ + 1, none, b => b
  | d + 1, some x, b => whO τ d (nx τ x) (if ¬ b = 0 ∧ ¬ τ 16 x = 2 then 1 else 0)
def sWh (τ : TT) (p : Nat) : Int32 := if ¬ whO τ 13 (some p) (if dbt τ p < 0 then 1 else 0) = 0 then 1 else 0
def WK (τ : TT) : Prop := (nK τ ≤ 9 ∧ τ 24 0 = nI (nK τ)) ∧ ∀ k, k < nK τ → ∃ q, q < nP τ ∧ τ 25 k = nI q
def dfl (τ : TT) : Nat → Int32
  | 0 => 0
  | k + 1 => dfl τ k ||| (if dbt τ (dgt (τ 25) k) < 0 then (0 : Int32) else (1 : Int32) <<< (nI k &&& 31))
theorem dfl_s {τ : TT} {k : Nat} : dfl τ (k + 1) = dfl τ k ||| (if dbt τ (dgt (τ 25) k) < 0 then (0 : Int32) else (1 : Int32) <<< (nI k &&& 31)) := sorry
def rmX12_way : Room := { frames := 2, cells := 0, slots := 0, locals := 46 }
set_option maxHeartbeats 4000000 in
set_option maxRecDepth 100000 in
theorem n_X12_way {τ : TT} {v w : Int32} (hw : WP τ) (hno : ¬ ir v (nP τ) ∨ ¬ irg w (-1) 11) : RD mX12_way rmX12_way [.int v, .int w] τ (some (.int (-1))) (τ) := sorry
set_option maxHeartbeats 4000000 in
set_option maxRecDepth 100000 in
theorem c_X12_way {τ : TT} {p : Nat} {k : Int32} (hw : WP τ) (hp : p < nP τ) (hn : WN τ) (hk : irg k (-1) 11) : RD mX12_way rmX12_way [.int (nI p), .int k] τ (some (.int (sWy τ p k))) (τ) := sorry
def rmX12_doubtOn : Room := { frames := 6, cells := 0, slots := 0, locals := 134 }
set_option maxHeartbeats 4000000 in
set_option maxRecDepth 100000 in
theorem c_X12_doubtOn {τ : TT} {p : Nat} (hw : WP τ) (hp : p < nP τ) (hl : WL τ) (hn : WN τ) : RE mX12_doubtOn rmX12_doubtOn [.int (nI p)] τ (some (.int (dbt τ p))) (τ) := sorry
def rmX12_doubt : Room := { frames := 7, cells := 0, slots := 0, locals := 156 }
set_option maxHeartbeats 4000000 in
set_option maxRecDepth 100000 in
theorem n_X12_doubt {τ : TT} {v : Int32} (hw : WP τ) (hno : ¬ ir v (nP τ)) : RD mX12_doubt rmX12_doubt [.int v] τ (some (.int (-1))) (τ) := sorry
set_option maxHeartbeats 4000000 in
set_option maxRecDepth 100000 in
theorem c_X12_doubt {τ : TT} {p : Nat} (hw : WP τ) (hp : p < nP τ) (hl : WL τ) (hn : WN τ) : RE mX12_doubt rmX12_doubt [.int (nI p)] τ (some (.int (dbt τ p))) (τ) := sorry
def rmX12_whole : Room := { frames := 7, cells := 0, slots := 0, locals := 156 }
set_option maxHeartbeats 4000000 in
set_option maxRecDepth 100000 in
theorem n_X12_whole {τ : TT} {v : Int32} (hw : WP τ) (hno : ¬ ir v (nP τ)) : RD mX12_whole rmX12_whole [.int v] τ (some (.int (-1))) (τ) := sorry
set_option maxHeartbeats 4000000 in
set_option maxRecDepth 100000 in
theorem c_X12_whole {τ : TT} {p : Nat} (hw : WP τ) (hp : p < nP τ) (hl : WL τ) (hn : WN τ) : RE mX12_whole rmX12_whole [.int (nI p)] τ (some (.int (sWh τ p))) (τ) := sorry
def rmX12_doubtful : Room := { frames := 7, cells := 0, slots := 0, locals := 156 }
set_option maxHeartbeats 4000000 in
set_option maxRecDepth 100000 in
theorem c_X12_doubtful {τ : TT}  (hw : WP τ) (hl : WL τ) (hn : WN τ) (hk : WK τ) : RE mX12_doubtful rmX12_doubtful [] τ (some (.int (dfl τ (nK τ)))) (τ) := sorry
end
section
/-! reading acts: the words of it, and the reference's digits (gen/refE.py) -/
abbrev isD (t : Nat → Int32) (n i : Nat) : Prop := i < n ∧ irg (t i) 48 57
def dv (t : Nat → Int32) (i : Nat) : Nat := ((t i).toInt - 48).toNat
theorem isD_v {t : Nat → Int32} {n i : Nat} (h : isD t n i) : dv t i ≤ 9 ∧ t i = nI (48 + dv t i) ∧ t i - 48 = nI (dv t i) := sorry
/-- the numbers behind a code: whether they are right, where the reader stands then, the number -/
def rdN (t : Nat → Int32) (n : Nat) (c : Int32) (i : Nat) : Bool × Nat × Nat :=
  if c = 99 ∨ c = 98 then
    if ¬ isD t n i then (false, i, 0) else if ¬ isD t n (i + 1) then (false, i + 1, 0) else if ¬ isD t n (i + 2) then (false, i + 2, 0) else if ¬ isD t n (i + 3) then (false, i + 3, 0)
    else (true, i + 4, 1000 * dv t i + 100 * dv t (i + 1) + 10 * dv t (i + 2) + dv t (i + 3))
  else if c = 116 then (true, i, 0)
  else if c = 113 then if isD t n i ∧ 2 ≤ dv t i then (true, i + 1, dv t i) else (false, i, 0)
  else if ¬ isD t n i then (false, i, 0) else if ¬ isD t n (i + 1) then (if dv t i = 0 then (false, i, 0) else (true, i + 1, dv t i))
  else if 10 * dv t i + dv t (i + 1) = 0 then (false, i, 0) else (true, i + 2, 10 * dv t i + dv t (i + 1))
abbrev isKd (c : Int32) : Prop := c = 99 ∨ c = 98 ∨ c = 116 ∨ c = 108 ∨ c = 109 ∨ c = 113
def cdA (t : Nat → Int32) (n i : Nat) : Int32 := if i < n then t i else 0
def rdA (t : Nat → Int32) (n : Nat) : Nat → Nat → List (Int32 × Nat) → Nat ⊕ List (Int32 × Nat)
  | 0, i, _ => .inl i
  | f + 1, i, acc => if ¬ isKd (cdA t n i) then .inl i else if (rdN t n (cdA t n i) (i + 1)).1 = false then .inl (rdN t n (cdA t n i) (i + 1)).2.1
    else if n ≤ (rdN t n (cdA t n i) (i + 1)).2.1 then .inr (acc ++ [(cdA t n i, (rdN t n (cdA t n i) (i + 1)).2.2)])
    else if ¬ t (rdN t n (cdA t n i) (i + 1)).2.1 = 59 ∨ f = 0 then .inl (rdN t n (cdA t n i) (i + 1)).2.1
    else rdA t n f ((rdN t n (cdA t n i) (i + 1)).2.1 + 1) (acc ++ [(cdA t n i, (rdN t n (cdA t n i) (i + 1)).2.2)])
/-- the reference's five numbers of an act -/
def actR (A : Nat → Int32) (a : Nat) (q : Int32 × Nat) : Prop := A a = q.1 ∧ ((q.1 = 99 ∨ q.1 = 98) → A (a + 1) = nI (q.2 / 1000) ∧ A (a + 2) = nI (q.2 / 100 % 10) ∧ A (a + 3) = nI (q.2 / 10 % 10) ∧ A (a + 4) = nI (q.2 % 10)) ∧ (¬ (q.1 = 99 ∨ q.1 = 98) → A (a + 1) = nI q.2)
def RP (Z : YY) (rm : Room) (as : List Value) (τ : TT) (r : Option Value) (P : TT → Prop) : Prop := ∀ M, RW τ M → AM Z rm (.ref 25 :: as) M (fun r' M' => r' = r ∧ ∃ σ, RO σ M M' ∧ P σ)
section
variable {Y : YY} {R : Room} {Q : Option Value → Mem → Prop} {ls : List (Option Value)} {st : List Value} {M M0 : Mem} {cs ss : Nat} {τ : TT}
theorem rp_call1 (pc : Nat) {Z : YY} {rm : Room} {as st0 : List Value} {r : Value} {P : TT → Prop} {idx : Nat} (hd : decode Y.2.1 pc = .ok (.invokevirtual idx, 3)) (hM : RP Z rm as τ (some r) P) (ck : ckV Y.1.cls idx Z as.length = true) (hcd : inTbl Z) (hcl : Z.1.cls = RX12) (hW : RO τ M0 M) (hst : st0 = as.reverse ++ .ref 25 :: st) (hw : (st.map fun v => v.category).sum ≤ 8) (hR1 : rmOK R rm Z cs ss) (hz : (rm.cells, rm.slots) = (0, 0))
    (kk : ∀ σ M, P σ → RO σ M0 M → AW Y R Q (pc + 3) ls (r :: st) M cs ss) : AW Y R Q pc ls st0 M cs ss := sorry
end

def rmX12_isDigit : Room := { frames := 1, cells := 0, slots := 0, locals := 25 }
set_option maxHeartbeats 4000000 in
set_option maxRecDepth 100000 in
theorem c_X12_isDigit {τ : TT} {b n i : Nat} (hbn : b + n ≤ 240) (hi : τ 8 0 = nI i) (hi2 : i ≤ 100) : RD mX12_isDigit rmX12_isDigit [.int (nI b), .int (nI n)] τ (some (.int (bi (isD (fun j => τ 30 (b + j)) n i)))) (τ) := sorry
def rnP (τ : TT) (m : Nat) (c : Int32) (q : Bool × Nat × Nat) (σ : TT) : Prop := Obs σ τ ∧ σ 6 0 = nI m ∧ σ 8 0 = nI q.2.1 ∧ (∀ j, j ≤ 5 * m → σ 7 j = τ 7 j) ∧ (q.1 = true → actR (σ 7) (5 * m) (c, q.2.2))
theorem obs_tu {σ τ : TT} {i k : Nat} {v : Int32} (h : Obs σ τ) (hs : scr i) : Obs (tu σ i k v) τ := sorry
theorem rdN_bad {t : Nat → Int32} {n : Nat} {c : Int32} {i k : Nat} (hc : c = 99 ∨ c = 98) (hk : k < 4) (hd : ∀ q, q < k → isD t n (i + q)) (hb : ¬ isD t n (i + k)) : rdN t n c i = (false, i + k, 0) := sorry
theorem rdN_good {t : Nat → Int32} {n : Nat} {c : Int32} {i : Nat} (hc : c = 99 ∨ c = 98) (hd : ∀ q, q < 4 → isD t n (i + q)) : rdN t n c i = (true, i + 4, 1000 * dv t i + 100 * dv t (i + 1) + 10 * dv t (i + 2) + dv t (i + 3)) := sorry
theorem act4 {a b c d : Nat} (ha : a ≤ 9) (hb : b ≤ 9) (hc : c ≤ 9) (hd : d ≤ 9) : (1000 * a + 100 * b + 10 * c + d) / 1000 = a ∧ (1000 * a + 100 * b + 10 * c + d) / 100 % 10 = b ∧ (1000 * a + 100 * b + 10 * c + d) / 10 % 10 = c ∧ (1000 * a + 100 * b + 10 * c + d) % 10 = d := sorry
def rmX12_readsNumbers : Room := { frames := 2, cells := 0, slots := 0, locals := 47 }
set_option maxHeartbeats 4000000 in
set_option maxRecDepth 100000 in
theorem c99_X12_readsNumbers {τ : TT} {b n m i : Nat} (hbn : b + n ≤ 240) (hm : m < 5) (h6 : τ 6 0 = nI m) (h8 : τ 8 0 = nI i) (hi : i ≤ 60) (h7 : τ 7 (5 * m) = 99) : RP mX12_readsNumbers rmX12_readsNumbers [.int 99, .int (nI b), .int (nI n)] τ (some (.int (bi ((rdN (fun j => τ 30 (b + j)) n 99 i).1 = true)))) (rnP τ m 99 (rdN (fun j => τ 30 (b + j)) n 99 i)) := sorry
set_option maxHeartbeats 4000000 in
set_option maxRecDepth 100000 in
theorem c98_X12_readsNumbers {τ : TT} {b n m i : Nat} (hbn : b + n ≤ 240) (hm : m < 5) (h6 : τ 6 0 = nI m) (h8 : τ 8 0 = nI i) (hi : i ≤ 60) (h7 : τ 7 (5 * m) = 98) : RP mX12_readsNumbers rmX12_readsNumbers [.int 98, .int (nI b), .int (nI n)] τ (some (.int (bi ((rdN (fun j => τ 30 (b + j)) n 98 i).1 = true)))) (rnP τ m 98 (rdN (fun j => τ 30 (b + j)) n 98 i)) := sorry
set_option maxHeartbeats 4000000 in
set_option maxRecDepth 100000 in
theorem c116_X12_readsNumbers {τ : TT} {b n m i : Nat} (hbn : b + n ≤ 240) (hm : m < 5) (h6 : τ 6 0 = nI m) (h8 : τ 8 0 = nI i) (hi : i ≤ 60) (h7 : τ 7 (5 * m) = 116) : RP mX12_readsNumbers rmX12_readsNumbers [.int 116, .int (nI b), .int (nI n)] τ (some (.int (bi ((rdN (fun j => τ 30 (b + j)) n 116 i).1 = true)))) (rnP τ m 116 (rdN (fun j => τ 30 (b + j)) n 116 i)) := sorry
set_option maxHeartbeats 4000000 in
set_option maxRecDepth 100000 in
theorem c113_X12_readsNumbers {τ : TT} {b n m i : Nat} (hbn : b + n ≤ 240) (hm : m < 5) (h6 : τ 6 0 = nI m) (h8 : τ 8 0 = nI i) (hi : i ≤ 60) (h7 : τ 7 (5 * m) = 113) : RP mX12_readsNumbers rmX12_readsNumbers [.int 113, .int (nI b), .int (nI n)] τ (some (.int (bi ((rdN (fun j => τ 30 (b + j)) n 113 i).1 = true)))) (rnP τ m 113 (rdN (fun j => τ 30 (b + j)) n 113 i)) := sorry
set_option maxHeartbeats 4000000 in
set_option maxRecDepth 100000 in
theorem c108_X12_readsNumbers {τ : TT} {b n m i : Nat} (hbn : b + n ≤ 240) (hm : m < 5) (h6 : τ 6 0 = nI m) (h8 : τ 8 0 = nI i) (hi : i ≤ 60) (h7 : τ 7 (5 * m) = 108) : RP mX12_readsNumbers rmX12_readsNumbers [.int 108, .int (nI b), .int (nI n)] τ (some (.int (bi ((rdN (fun j => τ 30 (b + j)) n 108 i).1 = true)))) (rnP τ m 108 (rdN (fun j => τ 30 (b + j)) n 108 i)) := sorry
set_option maxHeartbeats 4000000 in
set_option maxRecDepth 100000 in
theorem c109_X12_readsNumbers {τ : TT} {b n m i : Nat} (hbn : b + n ≤ 240) (hm : m < 5) (h6 : τ 6 0 = nI m) (h8 : τ 8 0 = nI i) (hi : i ≤ 60) (h7 : τ 7 (5 * m) = 109) : RP mX12_readsNumbers rmX12_readsNumbers [.int 109, .int (nI b), .int (nI n)] τ (some (.int (bi ((rdN (fun j => τ 30 (b + j)) n 109 i).1 = true)))) (rnP τ m 109 (rdN (fun j => τ 30 (b + j)) n 109 i)) := sorry
theorem c_X12_readsNumbers {τ : TT} {b n m i : Nat} {c : Int32} (hc : isKd c) (hbn : b + n ≤ 240) (hm : m < 5) (h6 : τ 6 0 = nI m) (h8 : τ 8 0 = nI i) (hi : i ≤ 60) (h7 : τ 7 (5 * m) = c) : RP mX12_readsNumbers rmX12_readsNumbers [.int c, .int (nI b), .int (nI n)] τ (some (.int (bi ((rdN (fun j => τ 30 (b + j)) n c i).1 = true)))) (rnP τ m c (rdN (fun j => τ 30 (b + j)) n c i)) := sorry
theorem rdN_le {t : Nat → Int32} {n i : Nat} {c : Int32} (hi : i ≤ n + 1) : (rdN t n c i).2.1 ≤ n + 1 ∧ ((rdN t n c i).1 = true → (rdN t n c i).2.1 ≤ n ∨ (rdN t n c i).2.1 = i) := sorry
def raR (q : Nat ⊕ List (Int32 × Nat)) : Int32 := match q with
  | .inl p => nI p
  | .inr _ => -1
def raP (τ : TT) (q : Nat ⊕ List (Int32 × Nat)) (σ : TT) : Prop := Obs σ τ ∧ ∀ l, q = .inr l → σ 6 0 = nI l.length ∧ l.length ≤ 5 ∧ ∀ j, j < l.length → ∃ a, l[j]? = some a ∧ actR (σ 7) (5 * j) a
theorem actR_of {A B : Nat → Int32} {k : Nat} {q : Int32 × Nat} (h : actR A k q) (he : ∀ j, k ≤ j → j < k + 5 → B j = A j) : actR B k q := sorry
theorem rdA_s {t : Nat → Int32} {n f i : Nat} {l : List (Int32 × Nat)} : rdA t n (f + 1) i l = if ¬ isKd (cdA t n i) then .inl i else if (rdN t n (cdA t n i) (i + 1)).1 = false then .inl (rdN t n (cdA t n i) (i + 1)).2.1
    else if n ≤ (rdN t n (cdA t n i) (i + 1)).2.1 then .inr (l ++ [(cdA t n i, (rdN t n (cdA t n i) (i + 1)).2.2)])
    else if ¬ t (rdN t n (cdA t n i) (i + 1)).2.1 = 59 ∨ f = 0 then .inl (rdN t n (cdA t n i) (i + 1)).2.1
    else rdA t n f ((rdN t n (cdA t n i) (i + 1)).2.1 + 1) (l ++ [(cdA t n i, (rdN t n (cdA t n i) (i + 1)).2.2)]) := sorry
theorem act_ext {A B : Nat → Int32} {l : List (Int32 × Nat)} {m : Nat} {q : Int32 × Nat} (hl : l.length = m) (h : ∀ j, j < m → ∃ a, l[j]? = some a ∧ actR A (5 * j) a) (he : ∀ j, j < 5 * m → B j = A j) (hq : actR B (5 * m) q) : ∀ j, j < m + 1 → ∃ a, (l ++ [q])[j]? = some a ∧ actR B (5 * j) a := sorry
theorem isKd_lt {t : Nat → Int32} {n i : Nat} (h : isKd (cdA t n i)) : i < n ∧ cdA t n i = t i := sorry
def rmX12_readActs : Room := { frames := 3, cells := 0, slots := 0, locals := 74 }
set_option maxHeartbeats 4000000 in
set_option maxRecDepth 100000 in
theorem c_X12_readActs {τ : TT} {b n : Nat} (hbn : b + n ≤ 240) (hn : n ≤ 60) : RP mX12_readActs rmX12_readActs [.int (nI b), .int (nI n)] τ (some (.int (raR (rdA (fun j => τ 30 (b + j)) n 5 0 [])))) (raP τ (rdA (fun j => τ 30 (b + j)) n 5 0 [])) := sorry
end
section
/-! acts on a list, and the reference's act and change (rows laid by gen/refF.py) -/
/-- an act as read -/
def okA (q : Int32 × Nat) : Prop := ((q.1 = 99 ∨ q.1 = 98) ∧ q.2 ≤ 9999) ∨ (q.1 = 116 ∧ q.2 = 0) ∨ ((q.1 = 108 ∨ q.1 = 109 ∨ q.1 = 113) ∧ 1 ≤ q.2 ∧ q.2 ≤ 99)
def stL (q : Int32 × Nat) (u : HS) : Option HS :=
  if q.1 = 99 ∨ q.1 = 98 then
    if fitH u (q.2 / 1000) (q.2 / 100 % 10) (q.2 / 10 % 10) (q.2 % 10) then
      some (if q.1 = 98 then (blG u.1 (q.2 / 1000) (q.2 / 100 % 10) (q.2 / 10 % 10) (smG u.1 (q.2 / 1000) (q.2 / 100 % 10) (q.2 / 10 % 10) (q.2 / 10 % 10 * (q.2 % 10)) / nI (q.2 / 10 % 10 * (q.2 % 10))) (q.2 / 10 % 10 * (q.2 % 10)), u.2.1, u.2.2)
        else (ctG u.1 (q.2 / 1000) (q.2 / 100 % 10) (q.2 / 10 % 10) (q.2 / 10 % 10 * (q.2 % 10)), q.2 / 10 % 10, q.2 % 10))
    else none
  else if q.1 = 116 then some (trG u.1 u.2.2 u.2.2 (u.2.2 * u.2.1), u.2.2, u.2.1) else some (fun b => tnt (u.1 b) q.1 (nI q.2), u.2.1, u.2.2)
def dL (u : HS) : List (Int32 × Nat) → Option HS
  | [] => some u
  | q :: l => (stL q u).elim none (fun u' => dL u' l)
theorem actR_OK {A : Nat → Int32} {a : Nat} {q : Int32 × Nat} (h : actR A a q) (hq : okA q) : actOK A a := sorry
theorem stH_L {A : Nat → Int32} {a : Nat} {q : Int32 × Nat} (h : actR A a q) (hq : okA q) (u : HS) : stH A a u = stL q u := sorry
theorem dL_app (u : HS) (l : List (Int32 × Nat)) (q : Int32 × Nat) : dL u (l ++ [q]) = (dL u l).bind (stL q) := sorry
theorem dH_L {A : Nat → Int32} {fr : Nat} {l : List (Int32 × Nat)} (h : ∀ j, j < l.length → ∃ a, l[j]? = some a ∧ actR A (fr + 5 * j) a) (hq : ∀ q, q ∈ l → okA q) (u : HS) : dH A fr u l.length = dL u l := sorry
theorem rdN_ok {t : Nat → Int32} {n i : Nat} {c : Int32} (hc : isKd c) (h : (rdN t n c i).1 = true) : okA (c, (rdN t n c i).2.2) := sorry
theorem rdA_ok {t : Nat → Int32} {n : Nat} : ∀ (f i : Nat) (acc l : List (Int32 × Nat)), rdA t n f i acc = .inr l → (∀ q, q ∈ acc → okA q) → ∀ q, q ∈ l → okA q := sorry
theorem rdA_pos {t : Nat → Int32} {n : Nat} : ∀ (f i : Nat) (acc : List (Int32 × Nat)) (p : Nat), i ≤ n → rdA t n f i acc = .inl p → p ≤ n + 1 := sorry
theorem obs_tu2 {σ τ : TT} {i k : Nat} {v : Int32} (h : Obs σ τ) : Obs (tu σ i k v) (tu τ i k v) := sorry
theorem obs_ov2 {σ τ : TT} {i lo hi : Nat} {f g : Nat → Int32} (h : Obs σ τ) (hf : ∀ b, lo ≤ b → b < hi → f b = g b) : Obs (ov σ i lo hi f) (ov τ i lo hi g) := sorry
theorem ro_obs {σ : TT} {M0 M : Mem} (h : RO σ M0 M) {ρ : TT} (he : σ = ρ) : RO ρ M0 M := sorry
/-- a picture made of a hand -/
def tAc (τ : TT) (u : HS) : TT := tu (tu (ov (tu (tu τ 2 (nP τ) (nI u.2.1)) 3 (nP τ) (nI u.2.2)) 4 (16 * nP τ) (16 * nP τ + 16) (fun b => u.1 (b - 16 * nP τ))) 1 0 (nI (nP τ + 1))) 0 0 0

def rmX12_act : Room := { frames := 4, cells := 0, slots := 0, locals := 99 }
set_option maxHeartbeats 4000000 in
set_option maxRecDepth 100000 in
theorem n_X12_act {τ : TT} {v u l i n : Int32} (hw : WP τ) (hno : ¬ ir v (nP τ) ∨ ¬ irg u 0 3) : RD mX12_act rmX12_act [.int v, .int u, .int l, .int i, .int n] τ (some (.int (-1))) (tu τ 0 0 0) := sorry
set_option maxHeartbeats 4000000 in
set_option maxRecDepth 100000 in
theorem n2_X12_act {τ : TT} {p k : Nat} {l i n : Int32} (hw : WP τ) (hp : p < nP τ) (hk : k < 4) (hl : ¬ irg l 0 2) : RD mX12_act rmX12_act [.int (nI p), .int (nI k), .int l, .int i, .int n] τ (some (.int (-2))) (tu τ 0 0 0) := sorry
set_option maxHeartbeats 4000000 in
set_option maxRecDepth 100000 in
theorem n3_X12_act {τ : TT} {p k : Nat} {l i n : Int32} (hw : WP τ) (hp : p < nP τ) (hk : k < 4) (hl : irg l 0 2) (hb : ¬ bar τ k l i n.toInt64 = 0) : RD mX12_act rmX12_act [.int (nI p), .int (nI k), .int l, .int i, .int n] τ (some (.int (-10 - bar τ k l i n.toInt64))) (tu τ 0 0 (bar τ k l i n.toInt64)) := sorry
set_option maxHeartbeats 4000000 in
set_option maxRecDepth 100000 in
theorem n4_X12_act {τ : TT} {p k i n f : Nat} {l : Int32} (hw : WP τ) (hp : p < nP τ) (hk : k < 4) (hl : irg l 0 2) (hs : WS τ) (h0 : ¬ τ 28 k < 0) (hll : τ 29 k = l) (hi : i + n ≤ ssz τ k) (hq : rdA (fun j => τ 30 (60 * k + i + j)) n 5 0 [] = .inl f) : RE mX12_act rmX12_act [.int (nI p), .int (nI k), .int l, .int (nI i), .int (nI n)] τ (some (.int (-100 - nI f))) (tu τ 0 0 0) := sorry
set_option maxHeartbeats 4000000 in
set_option maxRecDepth 100000 in
theorem n5_X12_act {τ : TT} {p k i n : Nat} {l : Int32} {ls : List (Int32 × Nat)} (hw : WP τ) (hp : p < nP τ) (hk : k < 4) (hl : irg l 0 2) (hs : WS τ) (h0 : ¬ τ 28 k < 0) (hll : τ 29 k = l) (hi : i + n ≤ ssz τ k) (hq : rdA (fun j => τ 30 (60 * k + i + j)) n 5 0 [] = .inr ls) (hd : dL (hOf τ p) ls = none) : RE mX12_act rmX12_act [.int (nI p), .int (nI k), .int l, .int (nI i), .int (nI n)] τ (some (.int (-3))) (tu τ 0 0 0) := sorry
set_option maxHeartbeats 4000000 in
set_option maxRecDepth 100000 in
theorem n6_X12_act {τ : TT} {p k i n : Nat} {l : Int32} {ls : List (Int32 × Nat)} {u : HS} (hw : WP τ) (hp : p < nP τ) (hk : k < 4) (hl : irg l 0 2) (hs : WS τ) (h0 : ¬ τ 28 k < 0) (hll : τ 29 k = l) (hi : i + n ≤ ssz τ k) (hq : rdA (fun j => τ 30 (60 * k + i + j)) n 5 0 [] = .inr ls) (hd : dL (hOf τ p) ls = some u) (hf : nP τ = 12) : RE mX12_act rmX12_act [.int (nI p), .int (nI k), .int l, .int (nI i), .int (nI n)] τ (some (.int (-4))) (tu τ 0 0 0) := sorry
set_option maxHeartbeats 4000000 in
set_option maxRecDepth 100000 in
theorem c_X12_act {τ : TT} {p k i n : Nat} {l : Int32} {ls : List (Int32 × Nat)} {u : HS} (hw : WP τ) (hp : p < nP τ) (hk : k < 4) (hl : irg l 0 2) (hs : WS τ) (h0 : ¬ τ 28 k < 0) (hll : τ 29 k = l) (hi : i + n ≤ ssz τ k) (hq : rdA (fun j => τ 30 (60 * k + i + j)) n 5 0 [] = .inr ls) (hd : dL (hOf τ p) ls = some u) (hf : ¬ nP τ = 12) : RE mX12_act rmX12_act [.int (nI p), .int (nI k), .int l, .int (nI i), .int (nI n)] τ (some (.int (nI (nP τ)))) (tAc τ u) := sorry
theorem wrt_obs {σ τ : TT} {p l : Nat} {k f h : Int32} (ho : Obs σ τ) : Obs (wrt σ p l k f h) (wrt τ p l k f h) := sorry
theorem wrt_ne' {τ : TT} {p l i : Nat} {k f h : Int32} (hi : i ≠ 5 ∧ i ≠ 16 ∧ i ≠ 17 ∧ i ≠ 18 ∧ i ≠ 19 ∧ i ≠ 20 ∧ i ≠ 21) : wrt τ p l k f h i = τ i := sorry
/-- a line that says what was done -/
def tCh (τ : TT) (p l f : Nat) (h : Int32) (m : Nat) (A : Nat → Int32) : TT := tu (ov (tu (wrt τ p l 1 (nI f) h) 21 p (nI m)) 22 (25 * p) (25 * p + 5 * m) (fun b => A (b - 25 * p))) 0 0 0
def chP (τ : TT) (p l f : Nat) (h : Int32) (ls : List (Int32 × Nat)) (σ : TT) : Prop := ls.length ≤ 5 ∧ ∃ A : Nat → Int32, (∀ j, j < ls.length → ∃ a, ls[j]? = some a ∧ actR A (5 * j) a) ∧ Obs σ (tCh τ p l f h ls.length A)

def rmX12_change : Room := { frames := 6, cells := 0, slots := 0, locals := 138 }
set_option maxHeartbeats 4000000 in
set_option maxRecDepth 100000 in
theorem n_X12_change {τ : TT} {v u w h k l i n : Int32} (hw : WP τ) (hl : WL τ) (hno : ¬ ir v (nP τ) ∨ ¬ ir u (nP τ) ∨ ¬ ir w (nL τ) ∨ ¬ irg k 0 3) : RD mX12_change rmX12_change [.int v, .int u, .int w, .int h, .int k, .int l, .int i, .int n] τ (some (.int (-1))) (tu τ 0 0 0) := sorry
set_option maxHeartbeats 4000000 in
set_option maxRecDepth 100000 in
theorem n2_X12_change {τ : TT} {p f a k : Nat} {h l i n : Int32} (hw : WP τ) (hp : p < nP τ) (hf : f < nP τ) (hl : WL τ) (ha : a < nL τ) (hk : k < 4) (hno : ¬ irg h 0 999 ∨ ¬ irg l 0 2) : RD mX12_change rmX12_change [.int (nI p), .int (nI f), .int (nI a), .int h, .int (nI k), .int l, .int i, .int n] τ (some (.int (-2))) (tu τ 0 0 0) := sorry
set_option maxHeartbeats 4000000 in
set_option maxRecDepth 100000 in
theorem n3_X12_change {τ : TT} {p f a k : Nat} {h l i n : Int32} (hw : WP τ) (hp : p < nP τ) (hf : f < nP τ) (hl : WL τ) (ha : a < nL τ) (hk : k < 4) (hh : irg h 0 999) (hln : irg l 0 2) (hb : ¬ bar τ k l i n.toInt64 = 0) : RD mX12_change rmX12_change [.int (nI p), .int (nI f), .int (nI a), .int h, .int (nI k), .int l, .int i, .int n] τ (some (.int (-10 - bar τ k l i n.toInt64))) (tu τ 0 0 (bar τ k l i n.toInt64)) := sorry
set_option maxHeartbeats 4000000 in
set_option maxRecDepth 100000 in
theorem n4_X12_change {τ : TT} {p f a k i n e : Nat} {h l : Int32} (hw : WP τ) (hp : p < nP τ) (hf : f < nP τ) (hl : WL τ) (ha : a < nL τ) (hk : k < 4) (hh : irg h 0 999) (hln : irg l 0 2) (hs : WS τ) (h0 : ¬ τ 28 k < 0) (hll : τ 29 k = l) (hi : i + n ≤ ssz τ k) (hq : rdA (fun j => τ 30 (60 * k + i + j)) n 5 0 [] = .inl e) : RE mX12_change rmX12_change [.int (nI p), .int (nI f), .int (nI a), .int h, .int (nI k), .int l, .int (nI i), .int (nI n)] τ (some (.int (-100 - nI e))) (tu τ 0 0 0) := sorry
set_option maxHeartbeats 4000000 in
set_option maxRecDepth 100000 in
theorem n5_X12_change {τ : TT} {p f a k i n : Nat} {h l : Int32} {ls : List (Int32 × Nat)} (hw : WP τ) (hp : p < nP τ) (hf : f < nP τ) (hl : WL τ) (ha : a < nL τ) (hk : k < 4) (hh : irg h 0 999) (hln : irg l 0 2) (hs : WS τ) (h0 : ¬ τ 28 k < 0) (hll : τ 29 k = l) (hi : i + n ≤ ssz τ k) (hq : rdA (fun j => τ 30 (60 * k + i + j)) n 5 0 [] = .inr ls) (hst : ¬ τ 16 p < 0 ∨ p ≤ f) : RE mX12_change rmX12_change [.int (nI p), .int (nI f), .int (nI a), .int h, .int (nI k), .int l, .int (nI i), .int (nI n)] τ (some (.int (-3))) (tu τ 0 0 0) := sorry
set_option maxHeartbeats 4000000 in
set_option maxRecDepth 100000 in
theorem c_X12_change {τ : TT} {p f a k i n : Nat} {h l : Int32} {ls : List (Int32 × Nat)} (hw : WP τ) (hp : p < nP τ) (hf : f < nP τ) (hl : WL τ) (ha : a < nL τ) (hk : k < 4) (hh : irg h 0 999) (hln : irg l 0 2) (hs : WS τ) (h0 : ¬ τ 28 k < 0) (hll : τ 29 k = l) (hi : i + n ≤ ssz τ k) (hq : rdA (fun j => τ 30 (60 * k + i + j)) n 5 0 [] = .inr ls) (hno : τ 16 p < 0) (hfp : f < p) : RP mX12_change rmX12_change [.int (nI p), .int (nI f), .int (nI a), .int h, .int (nI k), .int l, .int (nI i), .int (nI n)] τ (some (.int (slv τ p a h))) (chP τ p a f h ls) := sorry
end
section
/-! arrays copied and cloned (by hand) -/
/-- n of f's values from place sp on, laid into g from place dp on -/
def cpV (f g : Nat → Value) (sp dp n : Nat) : Nat → Value := fun k => if dp ≤ k ∧ k < dp + n then f (sp + (k - dp)) else g k
section
variable {Y : YY} {R : Room} {Q : Option Value → Mem → Prop} {ls : List (Option Value)} {st : List Value} {M : Mem} {cs ss : Nat}
theorem aw_copy (pc : Nat) {idx a0 a n0 n1 : Nat} (sp dp n : Nat) {i1 i2 i3 : Int32} (hd : decode Y.2.1 pc = .ok (.invokestatic idx, 3)) (ck : Cond.methodLink Y.1.cls idx arraycopyName ∈ lw_tbl) (hk0 : M.2.1 a0 = (20, n0)) (hk1 : M.2.1 a = (20, n1)) (h0 : 2 ≤ a0) (h1 : 2 ≤ a) (e1 : i1 = nI sp) (e2 : i2 = nI dp) (e3 : i3 = nI n) (hs : sp + n ≤ n0) (hdn : dp + n ≤ n1) (hN : n0 < 100000) (hN1 : n1 < 100000)
    (hint : ∀ i, i < n → ∃ z, M.2.2 a0 (sp + i) = .int z) (hw : (st.map fun v => v.category).sum ≤ 8) (hfr : 1 ≤ R.frames) (hlo : 40 ≤ R.locals) (kk : AW Y R Q (pc + 3) ls st (wa M a (cpV (M.2.2 a0) (M.2.2 a) sp dp n)) cs ss) : AW Y R Q pc ls (.int i3 :: .int i2 :: .ref a :: .int i1 :: .ref a0 :: st) M cs ss := sorry
theorem aw_clone (pc : Nat) {idx a n : Nat} (hd : decode Y.2.1 pc = .ok (.invokevirtual idx, 3)) (ck : Cond.methodLink Y.1.cls idx ⟨"[I", "clone", "()Ljava/lang/Object;"⟩ ∈ lw_tbl) (hk : M.2.1 a = (20, n)) (h2 : 2 ≤ a) (hint : ∀ i, i < n → ∃ z, M.2.2 a i = .int z) (hw : (st.map fun v => v.category).sum ≤ 8) (hfr : 1 ≤ R.frames) (hlo : 22 ≤ R.locals) (hc : cs + 1 ≤ R.cells) (hs : ss + n ≤ R.slots)
    (kk : AW Y R Q (pc + 3) ls (.ref M.1 :: st) (nw M (20, n) (M.2.2 a)) (cs + 1) (ss + n)) : AW Y R Q pc ls (.ref a :: st) M cs ss := sorry
theorem aw_cast (pc : Nat) {idx a n : Nat} (hd : decode Y.2.1 pc = .ok (.checkcast idx, 3)) (ck : Cond.classLink Y.1.cls idx "[I" ∈ lw_tbl) (hk : M.2.1 a = (20, n)) (h2 : 2 ≤ a) (kk : AW Y R Q (pc + 3) ls (.ref a :: st) M cs ss) : AW Y R Q pc ls (.ref a :: st) M cs ss := sorry
end
end
section
/-! the class's side: what a write leaves as it was; arrays of numbers; calls (gen/cls0.py) -/
theorem wr_ne {M : Mem} {a k b : Nat} {v : Value} (h : b ≠ a) : (wr M a k v).2.2 b = M.2.2 b := sorry
theorem wr_eq {M : Mem} {a k : Nat} {v : Value} : (wr M a k v).2.2 a k = v := sorry
theorem wr_nk {M : Mem} {a k j : Nat} {v : Value} (h : j ≠ k) : (wr M a k v).2.2 a j = M.2.2 a j := sorry
theorem wr_get {M : Mem} {a k b j : Nat} {v : Value} (h : ¬ (b = a ∧ j = k)) : (wr M a k v).2.2 b j = M.2.2 b j := sorry
/-- only what cell a holds has changed -/
def Wd (a : Nat) (M M' : Mem) : Prop := M'.1 = M.1 ∧ M'.2.1 = M.2.1 ∧ ∀ b, b ≠ a → M'.2.2 b = M.2.2 b
/-- only place k of cell a has changed: it is v -/
def Wf (a k : Nat) (v : Value) (M M' : Mem) : Prop := M'.1 = M.1 ∧ M'.2.1 = M.2.1 ∧ M'.2.2 a k = v ∧ ∀ b j, ¬ (b = a ∧ j = k) → M'.2.2 b j = M.2.2 b j
theorem Wf.toWd {a k : Nat} {v : Value} {M M' : Mem} (h : Wf a k v M M') : Wd a M M' := sorry
theorem Wf.mk (M : Mem) (a k : Nat) (v : Value) : Wf a k v M (wr M a k v) := sorry
/-- only cells of S have changed -/
def FrS (S : Nat → Prop) (M M' : Mem) : Prop := M'.1 = M.1 ∧ M'.2.1 = M.2.1 ∧ ∀ b, ¬ S b → M'.2.2 b = M.2.2 b
theorem FrS.rf (S : Nat → Prop) (M : Mem) : FrS S M M := sorry
theorem FrS.wd {S : Nat → Prop} {M0 M M' : Mem} {a : Nat} (h : FrS S M0 M) (g : Wd a M M') (ha : S a) : FrS S M0 M' := sorry
theorem FrS.trans {S : Nat → Prop} {M0 M M' : Mem} (h : FrS S M0 M) (g : FrS S M M') : FrS S M0 M' := sorry
theorem FrS.mono {S T : Nat → Prop} {M M' : Mem} (h : FrS S M M') (hs : ∀ a, S a → T a) : FrS T M M' := sorry
theorem Wd.toFrS {S : Nat → Prop} {M M' : Mem} {a : Nat} (g : Wd a M M') (ha : S a) : FrS S M M' := sorry
def upg (g : Nat → Int32) (j : Nat) (v : Int32) : Nat → Int32 := fun k => if k = j then v else g k
theorem upg_at {g : Nat → Int32} {j : Nat} {v : Int32} : upg g j v j = v := sorry
theorem upg_ne {g : Nat → Int32} {j k : Nat} {v : Int32} (h : k ≠ j) : upg g j v k = g k := sorry
/-- an array of numbers -/
def AR (M : Mem) (a n : Nat) (g : Nat → Int32) : Prop := M.2.1 a = (20, n) ∧ ∀ k, k < n → M.2.2 a k = .int (g k)
theorem AR.wd {M M' : Mem} {a b n : Nat} {g : Nat → Int32} (h : AR M b n g) (w : Wd a M M') (hb : b ≠ a) : AR M' b n g := sorry
theorem AR.frs {S : Nat → Prop} {M M' : Mem} {b n : Nat} {g : Nat → Int32} (h : AR M b n g) (w : FrS S M M') (hb : ¬ S b) : AR M' b n g := sorry
theorem AR.to {M : Mem} {a n : Nat} {f g : Nat → Int32} (h : AR M a n f) (he : ∀ k, k < n → f k = g k) : AR M a n g := sorry
section
variable {Y : YY} {R : Room} {Q : Option Value → Mem → Prop} {ls : List (Option Value)} {st : List Value} {M : Mem} {cs ss : Nat}
theorem ar_ld (pc j : Nat) {a n : Nat} {g : Nat → Int32} {i : Int32} (hd : decode Y.2.1 pc = .ok (.iaload, 1)) (hA : AR M a n g) (hi : i = nI j) (hj : j < n) (hn : n < 2 ^ 31) (kk : AW Y R Q (pc + 1) ls (.int (g j) :: st) M cs ss) : AW Y R Q pc ls (.int i :: .ref a :: st) M cs ss := sorry
theorem ar_st (pc j : Nat) {a n : Nat} {g : Nat → Int32} {i w : Int32} (hd : decode Y.2.1 pc = .ok (.iastore, 1)) (hA : AR M a n g) (ha : 2 ≤ a) (hi : i = nI j) (hj : j < n) (hn : n < 2 ^ 31) (kk : ∀ M', AR M' a n (upg g j w) → Wd a M M' → AW Y R Q (pc + 1) ls st M' cs ss) : AW Y R Q pc ls (.int w :: .int i :: .ref a :: st) M cs ss := sorry
/-- an array of which no value is known -/
theorem ax_st (pc j : Nat) {a n : Nat} {i w : Int32} (hd : decode Y.2.1 pc = .ok (.iastore, 1)) (hA : M.2.1 a = (20, n)) (ha : 2 ≤ a) (hi : i = nI j) (hj : j < n) (hn : n < 2 ^ 31) (kk : ∀ M', Wf a j (.int w) M M' → AW Y R Q (pc + 1) ls st M' cs ss) : AW Y R Q pc ls (.int w :: .int i :: .ref a :: st) M cs ss := sorry
theorem fp_put (pc : Nat) {a ci N k idx : Nat} {v : Value} (hd : decode Y.2.1 pc = .ok (.putfield idx, 3)) (ck : ckF Y.1.cls idx ci k = true) (cp : ckP ci k = true) (hk : M.2.1 a = (ci, N)) (hn : narrow (tyCl ci k) v = v) (hf : fits (tyCl ci k) v = true) (kk : ∀ M', Wf a k v M M' → AW Y R Q (pc + 3) ls st M' cs ss) : AW Y R Q pc ls (v :: .ref a :: st) M cs ss := sorry
theorem fp_putF (pc : Nat) {a ci N k idx : Nat} {v : Value} (hd : decode Y.2.1 pc = .ok (.putfield idx, 3)) (ck : ckF Y.1.cls idx ci k = true) (cp : ckQ Y.1.cls ci k = true) (hin : Y.1.name = "<init>") (hk : M.2.1 a = (ci, N)) (hn : narrow (tyCl ci k) v = v) (hf : fits (tyCl ci k) v = true) (kk : ∀ M', Wf a k v M M' → AW Y R Q (pc + 3) ls st M' cs ss) : AW Y R Q pc ls (v :: .ref a :: st) M cs ss := sorry
/-- a contract: the answer, and what holds of the memory behind it -/
def AP (Z : YY) (rm : Room) (as : List Value) (M : Mem) (r : Option Value) (P : Mem → Prop) : Prop := AM Z rm as M (fun r' M' => r' = r ∧ P M')
theorem AP.mono {Z : YY} {rm : Room} {as : List Value} {r : Option Value} {P P' : Mem → Prop} (h : AP Z rm as M r P) (hp : ∀ M', P M' → P' M') : AP Z rm as M r P' := sorry
/-- a contract of a method that changes nothing -/
def CR (Z : YY) (rm : Room) (as : List Value) (M : Mem) (r : Option Value) : Prop := AP Z rm as M r (fun M' => M' = M)
theorem cr_sd {Z : YY} {rm : Room} {as : List Value} {r : Option Value} (h : SD Z rm as r) : CR Z rm as M r := sorry
section
variable {Z : YY} {rm : Room} {as st0 : List Value} {r : Option Value} {P : Mem → Prop} {idx a ci N : Nat}
theorem ap_v (pc : Nat) {rr : vw_C} (hd : decode Y.2.1 pc = .ok (.invokevirtual idx, 3)) (hM : AP Z rm (.ref a :: as) M r P) (ck : ckV Y.1.cls idx Z as.length = true) (hcd : inTbl Z) (hk : M.2.1 a = (ci, N)) (hci : vwCl[ci]? = some rr) (hcl : Z.1.cls = rr.1) (hst : st0 = as.reverse ++ .ref a :: st) (hw : (st.map fun v => v.category).sum ≤ 8) (hR1 : rmOK R rm Z cs ss)
    (kk : ∀ M', P M' → AW Y R Q (pc + 3) ls (r.toList ++ st) M' (cs + rm.cells) (ss + rm.slots)) : AW Y R Q pc ls st0 M cs ss := sorry
theorem ap_u (pc : Nat) {rr : vw_C} {owner : String} {y : MethodName} {b0 : ByteArray} {m0 : Nat} {r0 : Option FieldType} (hd : decode Y.2.1 pc = .ok (.invokevirtual idx, 3)) (hM : AP Z rm (.ref a :: as) M r P) (ck : ckU Y.1.cls idx rr.1 owner y Z as.length = true) (hcd : inTbl Z) (hc0 : Cond.code ⟨owner, y.name, y.desc⟩ b0 m0 r0 ∈ lw_tbl) (hk : M.2.1 a = (ci, N)) (hci : vwCl[ci]? = some rr) (hst : st0 = as.reverse ++ .ref a :: st) (hw : (st.map fun v => v.category).sum ≤ 8) (hR1 : rmOK R rm Z cs ss)
    (kk : ∀ M', P M' → AW Y R Q (pc + 3) ls (r.toList ++ st) M' (cs + rm.cells) (ss + rm.slots)) : AW Y R Q pc ls st0 M cs ss := sorry
theorem ap_super (pc : Nat) {rr : vw_C} (hd : decode Y.2.1 pc = .ok (.invokespecial idx, 3)) (hM : AP Z rm (.ref a :: as) M r P) (ck : ckSU Y.1.cls idx Z as.length = true) (hcd : inTbl Z) (hk : M.2.1 a = (ci, N)) (hci : vwCl[ci]? = some rr) (hst : st0 = as.reverse ++ .ref a :: st) (hw : (st.map fun v => v.category).sum ≤ 8) (hR1 : rmOK R rm Z cs ss)
    (kk : ∀ M', P M' → AW Y R Q (pc + 3) ls (r.toList ++ st) M' (cs + rm.cells) (ss + rm.slots)) : AW Y R Q pc ls st0 M cs ss := sorry
theorem ap_i (pc : Nat) (hd : decode Y.2.1 pc = .ok (.invokespecial idx, 3)) (hM : AP Z rm (.ref a :: as) M r P) (ck : ckI Y.1.cls idx Z as.length = true) (hcd : inTbl Z) (hz : Z.2.2.2 = none) (hst : st0 = as.reverse ++ .ref a :: st) (hw : (st.map fun v => v.category).sum ≤ 8) (hR1 : rmOK R rm Z cs ss)
    (kk : ∀ M', P M' → AW Y R Q (pc + 3) ls (r.toList ++ st) M' (cs + rm.cells) (ss + rm.slots)) : AW Y R Q pc ls st0 M cs ss := sorry
theorem ap_in (pc : Nat) (hd : decode Y.2.1 pc = .ok (.invokespecial idx, 3)) (hM : AP Z rm (.ref a :: as) M r P) (ck : ckIN Y.1.cls idx Z as.length = true) (hcd : inTbl Z) (hz : Z.2.2.2 = none) (hst : st0 = as.reverse ++ .ref a :: st) (hw : (st.map fun v => v.category).sum ≤ 8) (hR1 : rmOK R rm Z cs ss)
    (kk : ∀ M', P M' → AW Y R Q (pc + 3) ls (r.toList ++ st) M' (cs + rm.cells) (ss + rm.slots)) : AW Y R Q pc ls st0 M cs ss := sorry
theorem ap_s (pc : Nat) (hd : decode Y.2.1 pc = .ok (.invokestatic idx, 3)) (hM : AP Z rm as M r P) (ck : ckS Y.1.cls idx Z as.length = true) (hcd : inTbl Z) (hst : st0 = as.reverse ++ st) (hw : (st.map fun v => v.category).sum ≤ 8) (hR1 : rmOK R rm Z cs ss)
    (kk : ∀ M', P M' → AW Y R Q (pc + 3) ls (r.toList ++ st) M' (cs + rm.cells) (ss + rm.slots)) : AW Y R Q pc ls st0 M cs ss := sorry
theorem ap_sn (pc : Nat) (hd : decode Y.2.1 pc = .ok (.invokestatic idx, 3)) (hM : AP Z rm as M r P) (ck : ckSN Y.1.cls idx Z as.length = true) (hcd : inTbl Z) (hst : st0 = as.reverse ++ st) (hw : (st.map fun v => v.category).sum ≤ 8) (hR1 : rmOK R rm Z cs ss)
    (kk : ∀ M', P M' → AW Y R Q (pc + 3) ls (r.toList ++ st) M' (cs + rm.cells) (ss + rm.slots)) : AW Y R Q pc ls st0 M cs ss := sorry
/-- behind a method that makes nothing -/
theorem kz {L : List Value} {pc : Nat} (hz : (rm.cells, rm.slots) = (0, 0)) (k : AW Y R Q pc ls L M cs ss) : AW Y R Q pc ls L M (cs + rm.cells) (ss + rm.slots) := sorry
theorem cr_v1 (pc : Nat) {v : Value} {rr : vw_C} (hd : decode Y.2.1 pc = .ok (.invokevirtual idx, 3)) (hM : CR Z rm (.ref a :: as) M (some v)) (ck : ckV Y.1.cls idx Z as.length = true) (hcd : inTbl Z) (hk : M.2.1 a = (ci, N)) (hci : vwCl[ci]? = some rr) (hcl : Z.1.cls = rr.1) (hst : st0 = as.reverse ++ .ref a :: st) (hw : (st.map fun v => v.category).sum ≤ 8) (hR1 : rmOK R rm Z cs ss) (hz : (rm.cells, rm.slots) = (0, 0))
    (kk : AW Y R Q (pc + 3) ls (v :: st) M cs ss) : AW Y R Q pc ls st0 M cs ss := sorry
theorem ap_v1 (pc : Nat) {v : Value} {rr : vw_C} (hd : decode Y.2.1 pc = .ok (.invokevirtual idx, 3)) (hM : AP Z rm (.ref a :: as) M (some v) P) (ck : ckV Y.1.cls idx Z as.length = true) (hcd : inTbl Z) (hk : M.2.1 a = (ci, N)) (hci : vwCl[ci]? = some rr) (hcl : Z.1.cls = rr.1) (hst : st0 = as.reverse ++ .ref a :: st) (hw : (st.map fun v => v.category).sum ≤ 8) (hR1 : rmOK R rm Z cs ss) (hz : (rm.cells, rm.slots) = (0, 0))
    (kk : ∀ M', P M' → AW Y R Q (pc + 3) ls (v :: st) M' cs ss) : AW Y R Q pc ls st0 M cs ss := sorry
theorem ap_v0 (pc : Nat) {rr : vw_C} (hd : decode Y.2.1 pc = .ok (.invokevirtual idx, 3)) (hM : AP Z rm (.ref a :: as) M none P) (ck : ckV Y.1.cls idx Z as.length = true) (hcd : inTbl Z) (hk : M.2.1 a = (ci, N)) (hci : vwCl[ci]? = some rr) (hcl : Z.1.cls = rr.1) (hst : st0 = as.reverse ++ .ref a :: st) (hw : (st.map fun v => v.category).sum ≤ 8) (hR1 : rmOK R rm Z cs ss) (hz : (rm.cells, rm.slots) = (0, 0))
    (kk : ∀ M', P M' → AW Y R Q (pc + 3) ls st M' cs ss) : AW Y R Q pc ls st0 M cs ss := sorry
theorem cr_u1 (pc : Nat) {v : Value} {rr : vw_C} {owner : String} {y : MethodName} {b0 : ByteArray} {m0 : Nat} {r0 : Option FieldType} (hd : decode Y.2.1 pc = .ok (.invokevirtual idx, 3)) (hM : CR Z rm (.ref a :: as) M (some v)) (ck : ckU Y.1.cls idx rr.1 owner y Z as.length = true) (hcd : inTbl Z) (hc0 : Cond.code ⟨owner, y.name, y.desc⟩ b0 m0 r0 ∈ lw_tbl) (hk : M.2.1 a = (ci, N)) (hci : vwCl[ci]? = some rr) (hst : st0 = as.reverse ++ .ref a :: st) (hw : (st.map fun v => v.category).sum ≤ 8) (hR1 : rmOK R rm Z cs ss) (hz : (rm.cells, rm.slots) = (0, 0))
    (kk : AW Y R Q (pc + 3) ls (v :: st) M cs ss) : AW Y R Q pc ls st0 M cs ss := sorry
theorem ap_u1 (pc : Nat) {v : Value} {rr : vw_C} {owner : String} {y : MethodName} {b0 : ByteArray} {m0 : Nat} {r0 : Option FieldType} (hd : decode Y.2.1 pc = .ok (.invokevirtual idx, 3)) (hM : AP Z rm (.ref a :: as) M (some v) P) (ck : ckU Y.1.cls idx rr.1 owner y Z as.length = true) (hcd : inTbl Z) (hc0 : Cond.code ⟨owner, y.name, y.desc⟩ b0 m0 r0 ∈ lw_tbl) (hk : M.2.1 a = (ci, N)) (hci : vwCl[ci]? = some rr) (hst : st0 = as.reverse ++ .ref a :: st) (hw : (st.map fun v => v.category).sum ≤ 8) (hR1 : rmOK R rm Z cs ss) (hz : (rm.cells, rm.slots) = (0, 0))
    (kk : ∀ M', P M' → AW Y R Q (pc + 3) ls (v :: st) M' cs ss) : AW Y R Q pc ls st0 M cs ss := sorry
theorem ap_u0 (pc : Nat) {rr : vw_C} {owner : String} {y : MethodName} {b0 : ByteArray} {m0 : Nat} {r0 : Option FieldType} (hd : decode Y.2.1 pc = .ok (.invokevirtual idx, 3)) (hM : AP Z rm (.ref a :: as) M none P) (ck : ckU Y.1.cls idx rr.1 owner y Z as.length = true) (hcd : inTbl Z) (hc0 : Cond.code ⟨owner, y.name, y.desc⟩ b0 m0 r0 ∈ lw_tbl) (hk : M.2.1 a = (ci, N)) (hci : vwCl[ci]? = some rr) (hst : st0 = as.reverse ++ .ref a :: st) (hw : (st.map fun v => v.category).sum ≤ 8) (hR1 : rmOK R rm Z cs ss) (hz : (rm.cells, rm.slots) = (0, 0))
    (kk : ∀ M', P M' → AW Y R Q (pc + 3) ls st M' cs ss) : AW Y R Q pc ls st0 M cs ss := sorry
theorem cr_s1 (pc : Nat) {v : Value} (hd : decode Y.2.1 pc = .ok (.invokestatic idx, 3)) (hM : CR Z rm (as) M (some v)) (ck : ckS Y.1.cls idx Z as.length = true) (hcd : inTbl Z) (hst : st0 = as.reverse ++ st) (hw : (st.map fun v => v.category).sum ≤ 8) (hR1 : rmOK R rm Z cs ss) (hz : (rm.cells, rm.slots) = (0, 0))
    (kk : AW Y R Q (pc + 3) ls (v :: st) M cs ss) : AW Y R Q pc ls st0 M cs ss := sorry
theorem ap_s1 (pc : Nat) {v : Value} (hd : decode Y.2.1 pc = .ok (.invokestatic idx, 3)) (hM : AP Z rm (as) M (some v) P) (ck : ckS Y.1.cls idx Z as.length = true) (hcd : inTbl Z) (hst : st0 = as.reverse ++ st) (hw : (st.map fun v => v.category).sum ≤ 8) (hR1 : rmOK R rm Z cs ss) (hz : (rm.cells, rm.slots) = (0, 0))
    (kk : ∀ M', P M' → AW Y R Q (pc + 3) ls (v :: st) M' cs ss) : AW Y R Q pc ls st0 M cs ss := sorry
theorem ap_s0 (pc : Nat) (hd : decode Y.2.1 pc = .ok (.invokestatic idx, 3)) (hM : AP Z rm (as) M none P) (ck : ckS Y.1.cls idx Z as.length = true) (hcd : inTbl Z) (hst : st0 = as.reverse ++ st) (hw : (st.map fun v => v.category).sum ≤ 8) (hR1 : rmOK R rm Z cs ss) (hz : (rm.cells, rm.slots) = (0, 0))
    (kk : ∀ M', P M' → AW Y R Q (pc + 3) ls st M' cs ss) : AW Y R Q pc ls st0 M cs ss := sorry
theorem cr_sn1 (pc : Nat) {v : Value} (hd : decode Y.2.1 pc = .ok (.invokestatic idx, 3)) (hM : CR Z rm (as) M (some v)) (ck : ckSN Y.1.cls idx Z as.length = true) (hcd : inTbl Z) (hst : st0 = as.reverse ++ st) (hw : (st.map fun v => v.category).sum ≤ 8) (hR1 : rmOK R rm Z cs ss) (hz : (rm.cells, rm.slots) = (0, 0))
    (kk : AW Y R Q (pc + 3) ls (v :: st) M cs ss) : AW Y R Q pc ls st0 M cs ss := sorry
theorem ap_sn1 (pc : Nat) {v : Value} (hd : decode Y.2.1 pc = .ok (.invokestatic idx, 3)) (hM : AP Z rm (as) M (some v) P) (ck : ckSN Y.1.cls idx Z as.length = true) (hcd : inTbl Z) (hst : st0 = as.reverse ++ st) (hw : (st.map fun v => v.category).sum ≤ 8) (hR1 : rmOK R rm Z cs ss) (hz : (rm.cells, rm.slots) = (0, 0))
    (kk : ∀ M', P M' → AW Y R Q (pc + 3) ls (v :: st) M' cs ss) : AW Y R Q pc ls st0 M cs ss := sorry
theorem ap_sn0 (pc : Nat) (hd : decode Y.2.1 pc = .ok (.invokestatic idx, 3)) (hM : AP Z rm (as) M none P) (ck : ckSN Y.1.cls idx Z as.length = true) (hcd : inTbl Z) (hst : st0 = as.reverse ++ st) (hw : (st.map fun v => v.category).sum ≤ 8) (hR1 : rmOK R rm Z cs ss) (hz : (rm.cells, rm.slots) = (0, 0))
    (kk : ∀ M', P M' → AW Y R Q (pc + 3) ls st M' cs ss) : AW Y R Q pc ls st0 M cs ss := sorry
theorem cr_super1 (pc : Nat) {v : Value} {rr : vw_C} (hd : decode Y.2.1 pc = .ok (.invokespecial idx, 3)) (hM : CR Z rm (.ref a :: as) M (some v)) (ck : ckSU Y.1.cls idx Z as.length = true) (hcd : inTbl Z) (hk : M.2.1 a = (ci, N)) (hci : vwCl[ci]? = some rr) (hst : st0 = as.reverse ++ .ref a :: st) (hw : (st.map fun v => v.category).sum ≤ 8) (hR1 : rmOK R rm Z cs ss) (hz : (rm.cells, rm.slots) = (0, 0))
    (kk : AW Y R Q (pc + 3) ls (v :: st) M cs ss) : AW Y R Q pc ls st0 M cs ss := sorry
theorem ap_super1 (pc : Nat) {v : Value} {rr : vw_C} (hd : decode Y.2.1 pc = .ok (.invokespecial idx, 3)) (hM : AP Z rm (.ref a :: as) M (some v) P) (ck : ckSU Y.1.cls idx Z as.length = true) (hcd : inTbl Z) (hk : M.2.1 a = (ci, N)) (hci : vwCl[ci]? = some rr) (hst : st0 = as.reverse ++ .ref a :: st) (hw : (st.map fun v => v.category).sum ≤ 8) (hR1 : rmOK R rm Z cs ss) (hz : (rm.cells, rm.slots) = (0, 0))
    (kk : ∀ M', P M' → AW Y R Q (pc + 3) ls (v :: st) M' cs ss) : AW Y R Q pc ls st0 M cs ss := sorry
theorem ap_super0 (pc : Nat) {rr : vw_C} (hd : decode Y.2.1 pc = .ok (.invokespecial idx, 3)) (hM : AP Z rm (.ref a :: as) M none P) (ck : ckSU Y.1.cls idx Z as.length = true) (hcd : inTbl Z) (hk : M.2.1 a = (ci, N)) (hci : vwCl[ci]? = some rr) (hst : st0 = as.reverse ++ .ref a :: st) (hw : (st.map fun v => v.category).sum ≤ 8) (hR1 : rmOK R rm Z cs ss) (hz : (rm.cells, rm.slots) = (0, 0))
    (kk : ∀ M', P M' → AW Y R Q (pc + 3) ls st M' cs ss) : AW Y R Q pc ls st0 M cs ss := sorry
end
end

theorem ckQ_RX0_0_3 : ckQ RX0 0 3 = true := sorry
theorem ckQ_RX0_6_0 : ckQ RX0 6 0 = true := sorry
theorem ckQ_RX0_0_4 : ckQ RX0 0 4 = true := sorry
theorem ckQ_RX0_6_1 : ckQ RX0 6 1 = true := sorry
theorem ckP1_2 : ckP 1 2 = true := sorry
theorem ckQ_RX1_1_0 : ckQ RX1 1 0 = true := sorry
theorem ckQ_RX1_1_1 : ckQ RX1 1 1 = true := sorry
theorem ckQ_RX2_2_0 : ckQ RX2 2 0 = true := sorry
theorem ckQ_RX2_2_1 : ckQ RX2 2 1 = true := sorry
theorem ckQ_RX2_2_2 : ckQ RX2 2 2 = true := sorry
theorem ckQ_RX3_3_1 : ckQ RX3 3 1 = true := sorry
theorem ckQ_RX3_3_0 : ckQ RX3 3 0 = true := sorry
theorem ckP3_2 : ckP 3 2 = true := sorry
theorem ckP3_3 : ckP 3 3 = true := sorry
theorem ckQ_RX4_4_0 : ckQ RX4 4 0 = true := sorry
theorem ckQ_RX4_4_2 : ckQ RX4 4 2 = true := sorry
theorem ckP4_3 : ckP 4 3 = true := sorry
theorem ckP4_4 : ckP 4 4 = true := sorry
theorem ckP4_1 : ckP 4 1 = true := sorry
theorem ckP4_5 : ckP 4 5 = true := sorry
theorem ckQ_RX5_5_0 : ckQ RX5 5 0 = true := sorry
theorem ckP5_1 : ckP 5 1 = true := sorry
theorem ckP5_2 : ckP 5 2 = true := sorry
theorem ckP5_3 : ckP 5 3 = true := sorry
theorem ckQ_RX7_7_0 : ckQ RX7 7 0 = true := sorry
theorem ckQ_RX7_0_0 : ckQ RX7 0 0 = true := sorry
theorem ckQ_RX7_6_2 : ckQ RX7 6 2 = true := sorry
theorem ckQ_RX7_7_1 : ckQ RX7 7 1 = true := sorry
theorem ckQ_RX7_0_1 : ckQ RX7 0 1 = true := sorry
theorem ckQ_RX7_6_3 : ckQ RX7 6 3 = true := sorry
theorem ckQ_RX7_7_2 : ckQ RX7 7 2 = true := sorry
theorem ckQ_RX7_0_2 : ckQ RX7 0 2 = true := sorry
theorem ckQ_RX7_6_4 : ckQ RX7 6 4 = true := sorry
theorem ckP8_0 : ckP 8 0 = true := sorry
theorem ckQ_RX9_9_0 : ckQ RX9 9 0 = true := sorry
theorem ckQ_RX10_10_0 : ckQ RX10 10 0 = true := sorry
theorem ckQ_RX10_10_1 : ckQ RX10 10 1 = true := sorry
theorem ckQ_RX11_11_0 : ckQ RX11 11 0 = true := sorry
theorem ckQ_RX11_11_1 : ckQ RX11 11 1 = true := sorry
theorem ckQ_RX11_11_2 : ckQ RX11 11 2 = true := sorry
theorem ckQ_RX11_11_3 : ckQ RX11 11 3 = true := sorry
theorem ckQ_RX11_11_4 : ckQ RX11 11 4 = true := sorry
theorem ckQ_RX11_11_5 : ckQ RX11 11 5 = true := sorry
theorem ckQ_RX11_11_6 : ckQ RX11 11 6 = true := sorry
theorem ckQ_RX11_11_7 : ckQ RX11 11 7 = true := sorry
theorem ckP11_12 : ckP 11 12 = true := sorry
theorem ckP11_9 : ckP 11 9 = true := sorry
theorem ckP3_4 : ckP 3 4 = true := sorry
theorem ckP11_11 : ckP 11 11 = true := sorry
theorem ckP11_10 : ckP 11 10 = true := sorry
theorem ckP11_8 : ckP 11 8 = true := sorry
theorem vc0 : vwCl[0]? = some (RX0, TX0, 5) := sorry
theorem vc1 : vwCl[1]? = some (RX1, TX1, 3) := sorry
theorem vc2 : vwCl[2]? = some (RX2, TX2, 3) := sorry
theorem vc3 : vwCl[3]? = some (RX3, TX3, 5) := sorry
theorem vc4 : vwCl[4]? = some (RX4, TX4, 6) := sorry
theorem vc5 : vwCl[5]? = some (RX5, TX5, 4) := sorry
theorem vc6 : vwCl[6]? = some (RX6, TX6, 5) := sorry
theorem vc7 : vwCl[7]? = some (RX7, TX7, 3) := sorry
theorem vc8 : vwCl[8]? = some (RX8, TX8, 1) := sorry
theorem vc9 : vwCl[9]? = some (RX9, TX9, 1) := sorry
theorem vc10 : vwCl[10]? = some (RX10, TX10, 2) := sorry
theorem vc11 : vwCl[11]? = some (RX11, TX11, 13) := sorry
end
section
/-! the class: statics, a picture read (gen/cls1.py) -/
def PV (M : Mem) (a : Nat) (n w h : Int32) (g : Nat → Int32) (q : Value) : Prop := M.2.1 a = (3, 5) ∧ M.2.2 a 0 = .int n ∧ M.2.2 a 1 = .ref (a + 1) ∧ M.2.2 a 2 = .int w ∧ M.2.2 a 3 = .int h ∧ M.2.2 a 4 = q ∧ AR M (a + 1) 16 g
theorem i32_le {a b : Int32} {x y : Int} (ha : a.toInt = x) (hb : b.toInt = y) : a ≤ b ↔ x ≤ y := sorry
def rmX11_isIn : Room := { frames := 0, cells := 0, slots := 0, locals := 0 }
set_option maxHeartbeats 4000000 in
set_option maxRecDepth 100000 in
theorem c_X11_isIn {v l h : Int32} : SD mX11_isIn rmX11_isIn [.int v, .int l, .int h] (some (.int (bi (l ≤ v ∧ v ≤ h)))) := sorry
theorem bi_iff {a b : Prop} [Decidable a] [Decidable b] (h : a ↔ b) : bi a = bi b := sorry
theorem c_isInZ {v L H : Int32} (l h : Int) (hl : L.toInt = l) (hh : H.toInt = h) : SD mX11_isIn rmX11_isIn [.int v, .int L, .int H] (some (.int (bi (irg v l h)))) := sorry
def rmX11_isLane : Room := { frames := 1, cells := 0, slots := 0, locals := 22 }
set_option maxHeartbeats 4000000 in
set_option maxRecDepth 100000 in
theorem c_X11_isLane {v : Int32} : SD mX11_isLane rmX11_isLane [.int v] (some (.int (bi (irg v 0 2)))) := sorry
def rmX11_isHour : Room := { frames := 1, cells := 0, slots := 0, locals := 22 }
set_option maxHeartbeats 4000000 in
set_option maxRecDepth 100000 in
theorem c_X11_isHour {v : Int32} : SD mX11_isHour rmX11_isHour [.int v] (some (.int (bi (irg v 0 999)))) := sorry
def rmX11_isPlace : Room := { frames := 1, cells := 0, slots := 0, locals := 22 }
set_option maxHeartbeats 4000000 in
set_option maxRecDepth 100000 in
theorem c_X11_isPlace {v : Int32} : SD mX11_isPlace rmX11_isPlace [.int v] (some (.int (bi (irg v 0 15)))) := sorry
def rmX11_isMark : Room := { frames := 1, cells := 0, slots := 0, locals := 22 }
set_option maxHeartbeats 4000000 in
set_option maxRecDepth 100000 in
theorem c_X11_isMark {v : Int32} : SD mX11_isMark rmX11_isMark [.int v] (some (.int (bi (irg v 0 255)))) := sorry
def rmX9_above : Room := { frames := 0, cells := 0, slots := 0, locals := 0 }
set_option maxHeartbeats 4000000 in
set_option maxRecDepth 100000 in
theorem c_X9_above {l r : Int32} : SD mX9_above rmX9_above [.int l, .int r] (some (.int (abv l r))) := sorry
def rmX3_has : Room := { frames := 2, cells := 0, slots := 0, locals := 42 }
set_option maxHeartbeats 4000000 in
set_option maxRecDepth 100000 in
theorem c_X3_has {M : Mem} {a : Nat} {n w h : Int32} {g : Nat → Int32} {q : Value} {k : Nat} (hP : PV M a n w h g q) (hk : k < 16) : CR mX3_has rmX3_has [.ref a, .int (nI k)] M (some (.int (bi (¬ g k = -1)))) := sorry
set_option maxHeartbeats 4000000 in
set_option maxRecDepth 100000 in
theorem n_X3_has {M : Mem} {a : Nat} {n w h : Int32} {g : Nat → Int32} {q : Value} {j : Int32} (hP : PV M a n w h g q) (hno : ¬ irg j 0 15) : CR mX3_has rmX3_has [.ref a, .int j] M (some (.int 0)) := sorry
def rmX3_tellsBit : Room := { frames := 0, cells := 0, slots := 0, locals := 0 }
set_option maxHeartbeats 4000000 in
set_option maxRecDepth 100000 in
theorem c_X3_tellsBit {M : Mem} {a : Nat} {n w h : Int32} {g : Nat → Int32} {q : Value} {k b : Nat} {m : Int32} (hP : PV M a n w h g q) (hk : k < 16) : CR mX3_tellsBit rmX3_tellsBit [.ref a, .int (nI k), .int m, .int (nI b)] M (some (.int (bi (g k &&& 1 = (m >>> (nI b &&& 31)) &&& 1)))) := sorry
def csm (g : Nat → Int32) : Nat → Int32
  | 0 => 0
  | k + 1 => csm g k + (if g k < 0 then 0 else g k)
def clt (g : Nat → Int32) : Nat → Int32
  | 0 => 99
  | k + 1 => if g k = -1 then clt g k else if g k < clt g k then g k else clt g k
def cgt (g : Nat → Int32) : Nat → Int32
  | 0 => 0
  | k + 1 => if cgt g k < g k then g k else cgt g k
theorem clt_s {g : Nat → Int32} {k : Nat} : clt g (k + 1) = if g k = -1 then clt g k else if g k < clt g k then g k else clt g k := sorry
def rmX3_sum : Room := { frames := 1, cells := 0, slots := 0, locals := 21 }
set_option maxHeartbeats 4000000 in
set_option maxRecDepth 100000 in
theorem c_X3_sum {M : Mem} {a : Nat} {n w h : Int32} {g : Nat → Int32} {q : Value} (hP : PV M a n w h g q) : CR mX3_sum rmX3_sum [.ref a] M (some (.int (csm g 16))) := sorry
def rmX3_mean : Room := { frames := 2, cells := 0, slots := 0, locals := 43 }
set_option maxHeartbeats 4000000 in
set_option maxRecDepth 100000 in
theorem c_X3_mean {M : Mem} {a : Nat} {n w h : Int32} {g : Nat → Int32} {q : Value} {W H : Nat} (hP : PV M a n (nI W) (nI H) g q) (hW : 1 ≤ W ∧ W ≤ 4) (hH : 1 ≤ H ∧ H ≤ 4) : CR mX3_mean rmX3_mean [.ref a] M (some (.int (csm g 16 / nI (W * H)))) := sorry
def rmX3_least : Room := { frames := 3, cells := 0, slots := 0, locals := 63 }
set_option maxHeartbeats 4000000 in
set_option maxRecDepth 100000 in
theorem c_X3_least {M : Mem} {a : Nat} {n w h : Int32} {g : Nat → Int32} {q : Value} (hP : PV M a n w h g q) : CR mX3_least rmX3_least [.ref a] M (some (.int (clt g 16))) := sorry
def rmX3_greatest : Room := { frames := 1, cells := 0, slots := 0, locals := 21 }
set_option maxHeartbeats 4000000 in
set_option maxRecDepth 100000 in
theorem c_X3_greatest {M : Mem} {a : Nat} {n w h : Int32} {g : Nat → Int32} {q : Value} (hP : PV M a n w h g q) : CR mX3_greatest rmX3_greatest [.ref a] M (some (.int (cgt g 16))) := sorry
/-- how many bits agree, and how many were looked at, up to a place -/
abbrev tlB (v m : Int32) (b : Nat) : Prop := v &&& 1 = (m >>> (nI b &&& 31)) &&& 1
def agr (g : Nat → Int32) (m : Int32) : Nat → Int32 × Nat
  | 0 => (0, 0)
  | k + 1 => if 8 ≤ (agr g m k).2 ∨ g k = -1 then agr g m k else (if tlB (g k) m (agr g m k).2 then (agr g m k).1 + 1 else (agr g m k).1, (agr g m k).2 + 1)
theorem agr_s {g : Nat → Int32} {m : Int32} {k : Nat} : agr g m (k + 1) = if 8 ≤ (agr g m k).2 ∨ g k = -1 then agr g m k else (if tlB (g k) m (agr g m k).2 then (agr g m k).1 + 1 else (agr g m k).1, (agr g m k).2 + 1) := sorry
theorem agr_8 {g : Nat → Int32} {m : Int32} {k : Nat} (h : 8 ≤ (agr g m k).2) : ∀ j, k ≤ j → agr g m j = agr g m k := sorry
def rmX3_agreement : Room := { frames := 3, cells := 0, slots := 0, locals := 63 }
set_option maxHeartbeats 4000000 in
set_option maxRecDepth 100000 in
theorem c_X3_agreement {M : Mem} {a : Nat} {n w h : Int32} {g : Nat → Int32} {q : Value} {m : Int32} (hP : PV M a n w h g q) : CR mX3_agreement rmX3_agreement [.ref a, .int m] M (some (.int (agr g m 16).1)) := sorry
end
section
/-! the class: arrays filled, a picture written, sheets, lines, the trace, the tree (gen/cls2.py) -/
theorem Wd.rf (a : Nat) (M : Mem) : Wd a M M := sorry
theorem Wd.trans {a : Nat} {M M1 M2 : Mem} (h : Wd a M M1) (g : Wd a M1 M2) : Wd a M M2 := sorry
theorem PV.num {M M' : Mem} {a : Nat} {n w h x : Int32} {g : Nat → Int32} {q : Value} (p : PV M a n w h g q) (f : Wf a 0 (.int x) M M') : PV M' a x w h g q := sorry
theorem PV.wid {M M' : Mem} {a : Nat} {n w h x : Int32} {g : Nat → Int32} {q : Value} (p : PV M a n w h g q) (f : Wf a 2 (.int x) M M') : PV M' a n x h g q := sorry
theorem PV.hig {M M' : Mem} {a : Nat} {n w h x : Int32} {g : Nat → Int32} {q : Value} (p : PV M a n w h g q) (f : Wf a 3 (.int x) M M') : PV M' a n w x g q := sorry
theorem PV.pap {M M' : Mem} {a : Nat} {n w h : Int32} {g : Nat → Int32} {q v : Value} (p : PV M a n w h g q) (f : Wf a 4 v M M') : PV M' a n w h g v := sorry
theorem PV.sqs {M M' : Mem} {a : Nat} {n w h : Int32} {g g' : Nat → Int32} {q : Value} (p : PV M a n w h g q) (f : Wd (a + 1) M M') (hA : AR M' (a + 1) 16 g') : PV M' a n w h g' q := sorry
theorem PV.frs {S : Nat → Prop} {M M' : Mem} {a : Nat} {n w h : Int32} {g : Nat → Int32} {q : Value} (p : PV M a n w h g q) (f : FrS S M M') (h1 : ¬ S a) (h2 : ¬ S (a + 1)) : PV M' a n w h g q := sorry
theorem PV.to {M : Mem} {a : Nat} {n w h : Int32} {g g' : Nat → Int32} {q : Value} (p : PV M a n w h g q) (he : ∀ k, k < 16 → g k = g' k) : PV M a n w h g' q := sorry
def rmJ7_fill_53178 : Room := { frames := 0, cells := 0, slots := 0, locals := 0 }
set_option maxHeartbeats 4000000 in
set_option maxRecDepth 100000 in
theorem c_J7_fill_53178 {M0 : Mem} {a n : Nat} {v : Int32} (hA : M0.2.1 a = (20, n)) (ha : 2 ≤ a) (hn : n < 100000) : AP mJ7_fill_53178 rmJ7_fill_53178 [.ref a, .int v] M0 (none) (fun M => Wd a M0 M ∧ AR M a n (fun _ => v)) := sorry
def rmX3_replace : Room := { frames := 1, cells := 0, slots := 0, locals := 40 }
set_option maxHeartbeats 4000000 in
set_option maxRecDepth 100000 in
theorem c_X3_replace {M0 : Mem} {a : Nat} {n w h : Int32} {g : Nat → Int32} {q : Value} {b : Nat} {w2 h2 : Int32} {f : Nat → Int32} (hP : PV M0 a n w h g q) (hA : AR M0 b 16 f) (ha : 2 ≤ a) (hb : 2 ≤ b) (hab : b ≠ a ∧ b ≠ a + 1) : AP mX3_replace rmX3_replace [.ref a, .int w2, .int h2, .ref b] M0 (none) (fun M => FrS (fun c => c = a ∨ c = a + 1) M0 M ∧ PV M a n w2 h2 f q) := sorry
def rmX3_become : Room := { frames := 2, cells := 0, slots := 0, locals := 63 }
set_option maxHeartbeats 4000000 in
set_option maxRecDepth 100000 in
theorem c_X3_become {M0 : Mem} {a : Nat} {n w h : Int32} {g : Nat → Int32} {q : Value} {b : Nat} {n2 w2 h2 : Int32} {f : Nat → Int32} {q2 : Value} (hP : PV M0 a n w h g q) (hB : PV M0 b n2 w2 h2 f q2) (ha : 2 ≤ a) (hb : 2 ≤ b) (hab : b + 1 ≠ a ∧ b ≠ a) : AP mX3_become rmX3_become [.ref a, .ref b] M0 (none) (fun M => FrS (fun c => c = a ∨ c = a + 1) M0 M ∧ PV M a n w2 h2 f q) := sorry
/-- a mark pressed into the squares: squares, how many changed, how many looked at -/
def imp (g : Nat → Int32) (m : Int32) : Nat → (Nat → Int32) × Int32 × Nat
  | 0 => (g, 0, 0)
  | k + 1 => if 8 ≤ (imp g m k).2.2 ∨ (imp g m k).1 k = -1 then imp g m k else (if tlB ((imp g m k).1 k) m (imp g m k).2.2 then (imp g m k).1 else upg (imp g m k).1 k (flp ((imp g m k).1 k)), if tlB ((imp g m k).1 k) m (imp g m k).2.2 then (imp g m k).2.1 else (imp g m k).2.1 + 1, (imp g m k).2.2 + 1)
theorem imp_s {g : Nat → Int32} {m : Int32} {k : Nat} : imp g m (k + 1) = if 8 ≤ (imp g m k).2.2 ∨ (imp g m k).1 k = -1 then imp g m k else (if tlB ((imp g m k).1 k) m (imp g m k).2.2 then (imp g m k).1 else upg (imp g m k).1 k (flp ((imp g m k).1 k)), if tlB ((imp g m k).1 k) m (imp g m k).2.2 then (imp g m k).2.1 else (imp g m k).2.1 + 1, (imp g m k).2.2 + 1) := sorry
theorem imp_8 {g : Nat → Int32} {m : Int32} {k : Nat} (h : 8 ≤ (imp g m k).2.2) : ∀ j, k ≤ j → imp g m j = imp g m k := sorry
def rmX3_imprint : Room := { frames := 3, cells := 0, slots := 0, locals := 63 }
set_option maxHeartbeats 4000000 in
set_option maxRecDepth 100000 in
theorem c_X3_imprint {M0 : Mem} {a : Nat} {n w h : Int32} {g : Nat → Int32} {q : Value} {m : Int32} (hP : PV M0 a n w h g q) (ha : 2 ≤ a) : AP mX3_imprint rmX3_imprint [.ref a, .int m] M0 (some (.int (imp g m 16).2.1)) (fun M => Wd (a + 1) M0 M ∧ AR M (a + 1) 16 (imp g m 16).1) := sorry
def SV (M : Mem) (s : Nat) (hr lane len : Int32) (c : Nat → Int32) : Prop := M.2.1 s = (5, 4) ∧ M.2.2 s 0 = .ref (s + 1) ∧ M.2.2 s 1 = .int hr ∧ M.2.2 s 2 = .int lane ∧ M.2.2 s 3 = .int len ∧ AR M (s + 1) 60 c
theorem SV.frs {S : Nat → Prop} {M M' : Mem} {s : Nat} {hr lane len : Int32} {c : Nat → Int32} (p : SV M s hr lane len c) (f : FrS S M M') (h1 : ¬ S s) (h2 : ¬ S (s + 1)) : SV M' s hr lane len c := sorry
def rmX5_lacks : Room := { frames := 0, cells := 0, slots := 0, locals := 0 }
set_option maxHeartbeats 4000000 in
set_option maxRecDepth 100000 in
theorem c_X5_lacks {M : Mem} {s : Nat} {hr lane len : Int32} {c : Nat → Int32} {i n : Int32} (hV : SV M s hr lane len c) : CR mX5_lacks rmX5_lacks [.ref s, .int i, .int n] M (some (.int (bi (i < 0 ∨ len - n < i)))) := sorry
def fOf (hr lane len l i n : Int32) : Int32 := if hr = 0 then 1 else if ¬ lane = l then 2 else if n < 0 then 4 else if i < 0 ∨ len - n < i then 3 else 0

def rmX5_faultOf : Room := { frames := 1, cells := 0, slots := 0, locals := 22 }
set_option maxHeartbeats 4000000 in
set_option maxRecDepth 100000 in
theorem c_X5_faultOf {M : Mem} {s : Nat} {hr lane len : Int32} {c : Nat → Int32} {l i n : Int32} (hV : SV M s hr lane len c) : CR mX5_faultOf rmX5_faultOf [.ref s, .int l, .int i, .int n] M (some (.int (fOf hr lane len l i n))) := sorry
theorem lm1 {n : Nat} (h : n < 2 ^ 30) : (nI n - 1).toInt = (n : Int) - 1 := sorry
def rmX5_at : Room := { frames := 1, cells := 0, slots := 0, locals := 22 }
set_option maxHeartbeats 4000000 in
set_option maxRecDepth 100000 in
theorem c_X5_at {M : Mem} {s L j : Nat} {hr lane : Int32} {c : Nat → Int32} (hV : SV M s hr lane (nI L) c) (hL : L ≤ 60) (hj : j < L) : CR mX5_at rmX5_at [.ref s, .int (nI j)] M (some (.int (c j))) := sorry
def rmX5_holdsSquares : Room := { frames := 2, cells := 0, slots := 0, locals := 43 }
set_option maxHeartbeats 4000000 in
set_option maxRecDepth 100000 in
theorem c_X5_holdsSquares {M : Mem} {s L i n : Nat} {hr lane : Int32} {c : Nat → Int32} (hV : SV M s hr lane (nI L) c) (hL : L ≤ 60) (hn : i + n ≤ L) : CR mX5_holdsSquares rmX5_holdsSquares [.ref s, .int (nI i), .int (nI n)] M (some (.int (@bi (∀ k, k < n → irg (c (i + k)) 0 99) (Classical.propDecidable _)))) := sorry
def rmX5_write : Room := { frames := 1, cells := 0, slots := 0, locals := 22 }
set_option maxHeartbeats 4000000 in
set_option maxRecDepth 100000 in
theorem c_X5_write {M0 : Mem} {s L j : Nat} {hr lane v : Int32} {c : Nat → Int32} (hV : SV M0 s hr lane (nI L) c) (hL : L ≤ 60) (hj : j < L) (hs : 2 ≤ s) : AP mX5_write rmX5_write [.ref s, .int (nI j), .int v] M0 (none) (fun M => Wd (s + 1) M0 M ∧ AR M (s + 1) 60 (upg c j (nrw lane v))) := sorry
theorem SV.row {M M' : Mem} {s : Nat} {hr lane len x : Int32} {c : Nat → Int32} (p : SV M s hr lane len c) (f : Wf s 1 (.int x) M M') : SV M' s x lane len c := sorry
theorem SV.lan {M M' : Mem} {s : Nat} {hr lane len x : Int32} {c : Nat → Int32} (p : SV M s hr lane len c) (f : Wf s 2 (.int x) M M') : SV M' s hr x len c := sorry
theorem SV.siz {M M' : Mem} {s : Nat} {hr lane len x : Int32} {c : Nat → Int32} (p : SV M s hr lane len c) (f : Wf s 3 (.int x) M M') : SV M' s hr lane x c := sorry
theorem SV.cel {M M' : Mem} {s : Nat} {hr lane len : Int32} {c c' : Nat → Int32} (p : SV M s hr lane len c) (f : Wd (s + 1) M M') (hA : AR M' (s + 1) 60 c') : SV M' s hr lane len c' := sorry
def rmX5_renew : Room := { frames := 1, cells := 0, slots := 0, locals := 23 }
set_option maxHeartbeats 4000000 in
set_option maxRecDepth 100000 in
theorem c_X5_renew {M0 : Mem} {s : Nat} {hr lane len : Int32} {c : Nat → Int32} {l n : Int32} (hV : SV M0 s hr lane len c) (hs : 2 ≤ s) : AP mX5_renew rmX5_renew [.ref s, .int l, .int n] M0 (none) (fun M => FrS (fun b => b = s ∨ b = s + 1) M0 M ∧ SV M s 1 l n (fun _ => 0)) := sorry
/-- squares of a row of numbers -/
def flG (g : Nat → Int32) (w : Nat) (c : Nat → Int32) : Nat → Nat → Int32
  | 0 => g
  | k + 1 => upg (flG g w c k) (k % w + 4 * (k / w)) (c k)

theorem dpl_lt {w h k : Nat} (h1 : 1 ≤ w) (hw : w ≤ 4) (hh : h ≤ 4) (hk : k < w * h) : k % w + 4 * (k / w) < 16 := sorry
def rmX3_fill : Room := { frames := 2, cells := 0, slots := 0, locals := 43 }
set_option maxHeartbeats 4000000 in
set_option maxRecDepth 100000 in
theorem c_X3_fill {M0 : Mem} {a : Nat} {n w h : Int32} {g : Nat → Int32} {q : Value} {s L i W H : Nat} {hr lane : Int32} {c : Nat → Int32} (hP : PV M0 a n w h g q) (hV : SV M0 s hr lane (nI L) c) (ha : 2 ≤ a) (has : s ≠ a ∧ s ≠ a + 1 ∧ s + 1 ≠ a ∧ s + 1 ≠ a + 1) (hL : L ≤ 60) (hi : i + W * H ≤ L) (hW1 : 1 ≤ W ∧ W ≤ 4) (hH1 : 1 ≤ H ∧ H ≤ 4) : AP mX3_fill rmX3_fill [.ref a, .int (nI W), .int (nI H), .ref s, .int (nI i)] M0 (none) (fun M => FrS (fun c => c = a ∨ c = a + 1) M0 M ∧ PV M a n (nI W) (nI H) (flG g W (fun k => c (i + k)) (W * H)) q) := sorry
end
section
/-! the class: the trace, lines, what calls make, the tree (gen/cls3.py) -/
theorem Wf.trans {a k : Nat} {v w : Value} {M M1 M2 : Mem} (h : Wf a k v M M1) (g : Wf a k w M1 M2) : Wf a k w M M2 := sorry
/-- a cell made at A -/
def NW (A : Nat) (kn : Nat × Nat) (f : Nat → Value) (M M' : Mem) : Prop := M'.1 = A + 1 ∧ M'.2.1 A = kn ∧ M'.2.2 A = f ∧ ∀ b, b ≠ A → M'.2.1 b = M.2.1 b ∧ M'.2.2 b = M.2.2 b
theorem NW.mk {M : Mem} {A : Nat} {kn : Nat × Nat} {f : Nat → Value} (hA : M.1 = A) : NW A kn f M (nw M kn f) := sorry
/-- what lies under A is as it was -/
def Fa (A : Nat) (M M' : Mem) : Prop := ∀ b, b < A → M'.2.1 b = M.2.1 b ∧ M'.2.2 b = M.2.2 b
theorem Fa.rf (A : Nat) (M : Mem) : Fa A M M := sorry
theorem Fa.nw {A B : Nat} {kn : Nat × Nat} {f : Nat → Value} {M0 M M' : Mem} (h : Fa A M0 M) (g : NW B kn f M M') (hB : A ≤ B) : Fa A M0 M' := sorry
theorem Fa.wd {A a : Nat} {M0 M M' : Mem} (h : Fa A M0 M) (g : Wd a M M') (ha : A ≤ a) : Fa A M0 M' := sorry
theorem AR.nw {B b n : Nat} {g : Nat → Int32} {kn : Nat × Nat} {f : Nat → Value} {M M' : Mem} (h : AR M b n g) (w : NW B kn f M M') (hb : b ≠ B) : AR M' b n g := sorry
section
variable {Y : YY} {R : Room} {Q : Option Value → Mem → Prop} {ls : List (Option Value)} {st : List Value} {M : Mem} {cs ss : Nat}
theorem na_new (pc N A : Nat) {n : Int32} (hd : decode Y.2.1 pc = .ok (.newarray .int, 2)) (hn : n = nI N) (hN : N < 100000) (hA : M.1 = A) (hc : cs + 1 ≤ R.cells) (hs : ss + N ≤ R.slots) (kk : ∀ M', NW A (20, N) (fun _ => .int 0) M M' → AW Y R Q (pc + 2) ls (.ref A :: st) M' (cs + 1) (ss + N)) : AW Y R Q pc ls (.int n :: st) M cs ss := sorry
theorem na_anew (pc k N A : Nat) {n : Int32} {idx : Nat} (hd : decode Y.2.1 pc = .ok (.anewarray idx, 3)) (ck : ckA Y.1.cls idx k = true) (hkk : 21 ≤ k ∧ k < 25) (hn : n = nI N) (hN : N < 100000) (hA : M.1 = A) (hc : cs + 1 ≤ R.cells) (hs : ss + N ≤ R.slots) (kk : ∀ M', NW A (k, N) (fun _ => .null) M M' → AW Y R Q (pc + 3) ls (.ref A :: st) M' (cs + 1) (ss + N)) : AW Y R Q pc ls (.int n :: st) M cs ss := sorry
theorem na_obj (pc N A : Nat) {ci idx : Nat} (hd : decode Y.2.1 pc = .ok (.new idx, 3)) (ck : ckN Y.1.cls idx ci = true) (hN : (vwCl[ci]?.map fun r => r.2.2) = some N) (hA : M.1 = A) (hc : cs + 1 ≤ R.cells) (hs : ss + N ≤ R.slots) (kk : ∀ M', NW A (ci, N) (fun k => defaultValue (tyCl ci k)) M M' → AW Y R Q (pc + 3) ls (.ref A :: st) M' (cs + 1) (ss + N)) : AW Y R Q pc ls st M cs ss := sorry
theorem aa_st (pc j : Nat) {a k n w N : Nat} {i : Int32} (hd : decode Y.2.1 pc = .ok (.aastore, 1)) (hk : M.2.1 a = (k, n)) (ha : 2 ≤ a) (hkk : 21 ≤ k ∧ k < 25) (hw : M.2.1 w = (akC k, N)) (hi : i = nI j) (hj : j < n) (hn : n < 2 ^ 31) (kk : ∀ M', Wf a j (.ref w) M M' → AW Y R Q (pc + 1) ls st M' cs ss) : AW Y R Q pc ls (.ref w :: .int i :: .ref a :: st) M cs ss := sorry
end
/-- the trace -/
def TV (M : Mem) (x : Int32) : Prop := M.2.1 16 = (8, 1) ∧ M.2.2 16 0 = .int x
theorem TV.wf {M M' : Mem} {x y : Int32} (h : TV M x) (f : Wf 16 0 (.int y) M M') : TV M' y := sorry
def rmX8_leave : Room := { frames := 0, cells := 0, slots := 0, locals := 0 }
set_option maxHeartbeats 4000000 in
set_option maxRecDepth 100000 in
theorem c_X8_leave {M0 : Mem} {x v : Int32} (hX : TV M0 x) : AP mX8_leave rmX8_leave [.ref 16, .int v] M0 (none) (Wf 16 0 (.int (31 * x + v)) M0) := sorry
def rmX7_takenTelling : Room := { frames := 1, cells := 0, slots := 0, locals := 21 }
set_option maxHeartbeats 4000000 in
set_option maxRecDepth 100000 in
theorem c7_X7_takenTelling {M0 : Mem} {a : Nat} {hr x : Int32} (hk : M0.2.1 a = (7, 3)) (hh : M0.2.2 a 1 = .int hr) (hX : TV M0 x) (ha : a ≠ 16) : AP mX7_takenTelling rmX7_takenTelling [.ref a, .ref 16] M0 (some (.int hr)) (Wf 16 0 (.int (31 * x + 1)) M0) := sorry
set_option maxHeartbeats 4000000 in
set_option maxRecDepth 100000 in
theorem c0_X7_takenTelling {M0 : Mem} {a : Nat} {hr x : Int32} (hk : M0.2.1 a = (0, 5)) (hh : M0.2.2 a 1 = .int hr) (hX : TV M0 x) (ha : a ≠ 16) : AP mX7_takenTelling rmX7_takenTelling [.ref a, .ref 16] M0 (some (.int hr)) (Wf 16 0 (.int (31 * x + 1)) M0) := sorry
set_option maxHeartbeats 4000000 in
set_option maxRecDepth 100000 in
theorem c6_X7_takenTelling {M0 : Mem} {a : Nat} {hr x : Int32} (hk : M0.2.1 a = (6, 5)) (hh : M0.2.2 a 3 = .int hr) (hX : TV M0 x) (ha : a ≠ 16) : AP mX7_takenTelling rmX7_takenTelling [.ref a, .ref 16] M0 (some (.int hr)) (Wf 16 0 (.int (31 * x + 1)) M0) := sorry
def rmX7_telling : Room := { frames := 2, cells := 0, slots := 0, locals := 42 }
set_option maxHeartbeats 4000000 in
set_option maxRecDepth 100000 in
theorem c7_X7_telling {M0 : Mem} {a : Nat} {hr x : Int32} (hk : M0.2.1 a = (7, 3)) (hh : M0.2.2 a 1 = .int hr) (hX : TV M0 x) (ha : a ≠ 16) : AP mX7_telling rmX7_telling [.ref a, .ref 16] M0 (some (.int hr)) (Wf 16 0 (.int (31 * x + 1)) M0) := sorry
set_option maxHeartbeats 4000000 in
set_option maxRecDepth 100000 in
theorem c0_X7_telling {M0 : Mem} {a : Nat} {hr x : Int32} (hk : M0.2.1 a = (0, 5)) (hh : M0.2.2 a 1 = .int hr) (hX : TV M0 x) (ha : a ≠ 16) : AP mX7_telling rmX7_telling [.ref a, .ref 16] M0 (some (.int hr)) (Wf 16 0 (.int (31 * x + 1)) M0) := sorry
set_option maxHeartbeats 4000000 in
set_option maxRecDepth 100000 in
theorem c6_X7_telling {M0 : Mem} {a : Nat} {hr x : Int32} (hk : M0.2.1 a = (6, 5)) (hh : M0.2.2 a 3 = .int hr) (hX : TV M0 x) (ha : a ≠ 16) : AP mX7_telling rmX7_telling [.ref a, .ref 16] M0 (some (.int hr)) (Wf 16 0 (.int (31 * x + 1)) M0) := sorry
def rmX0_telling : Room := { frames := 3, cells := 0, slots := 0, locals := 63 }
set_option maxHeartbeats 4000000 in
set_option maxRecDepth 100000 in
theorem c0_X0_telling {M0 : Mem} {a : Nat} {hr x : Int32} (hk : M0.2.1 a = (0, 5)) (hh : M0.2.2 a 1 = .int hr) (hX : TV M0 x) (ha : a ≠ 16) : AP mX0_telling rmX0_telling [.ref a, .ref 16] M0 (some (.int (hr + 1000))) (Wf 16 0 (.int (31 * (31 * x + 2) + 1)) M0) := sorry
set_option maxHeartbeats 4000000 in
set_option maxRecDepth 100000 in
theorem c6_X0_telling {M0 : Mem} {a : Nat} {hr x : Int32} (hk : M0.2.1 a = (6, 5)) (hh : M0.2.2 a 3 = .int hr) (hX : TV M0 x) (ha : a ≠ 16) : AP mX0_telling rmX0_telling [.ref a, .ref 16] M0 (some (.int (hr + 1000))) (Wf 16 0 (.int (31 * (31 * x + 2) + 1)) M0) := sorry
def rmX6_telling : Room := { frames := 4, cells := 0, slots := 0, locals := 84 }
set_option maxHeartbeats 4000000 in
set_option maxRecDepth 100000 in
theorem c_X6_telling {M0 : Mem} {a : Nat} {hr x : Int32} (hk : M0.2.1 a = (6, 5)) (hh : M0.2.2 a 3 = .int hr) (hX : TV M0 x) (ha : a ≠ 16) : AP mX6_telling rmX6_telling [.ref a, .ref 16] M0 (some (.int (hr + 1000 + hr))) (Wf 16 0 (.int (31 * (31 * (31 * (31 * x + 3) + 2) + 1) + 1)) M0) := sorry
def rmX7_showing : Room := { frames := 1, cells := 0, slots := 0, locals := 21 }
set_option maxHeartbeats 4000000 in
set_option maxRecDepth 100000 in
theorem c7_X7_showing {M0 : Mem} {a : Nat} {hr x : Int32} (hk : M0.2.1 a = (7, 3)) (hh : M0.2.2 a 2 = .int hr) (hX : TV M0 x) (ha : a ≠ 16) : AP mX7_showing rmX7_showing [.ref a, .ref 16] M0 (some (.int hr)) (Wf 16 0 (.int (31 * x + 4)) M0) := sorry
set_option maxHeartbeats 4000000 in
set_option maxRecDepth 100000 in
theorem c0_X7_showing {M0 : Mem} {a : Nat} {hr x : Int32} (hk : M0.2.1 a = (0, 5)) (hh : M0.2.2 a 2 = .int hr) (hX : TV M0 x) (ha : a ≠ 16) : AP mX7_showing rmX7_showing [.ref a, .ref 16] M0 (some (.int hr)) (Wf 16 0 (.int (31 * x + 4)) M0) := sorry
def rmX6_showing : Room := { frames := 1, cells := 0, slots := 0, locals := 21 }
set_option maxHeartbeats 4000000 in
set_option maxRecDepth 100000 in
theorem c_X6_showing {M0 : Mem} {a : Nat} {x : Int32} (hX : TV M0 x) : AP mX6_showing rmX6_showing [.ref a, .ref 16] M0 (some (.int 33)) (Wf 16 0 (.int (31 * x + 5)) M0) := sorry
def rmX7_kind : Room := { frames := 0, cells := 0, slots := 0, locals := 0 }
set_option maxHeartbeats 4000000 in
set_option maxRecDepth 100000 in
theorem c_X7_kind {M : Mem} {a : Nat} : CR mX7_kind rmX7_kind [.ref a] M (some (.int 0)) := sorry
def rmX0_kind : Room := { frames := 0, cells := 0, slots := 0, locals := 0 }
set_option maxHeartbeats 4000000 in
set_option maxRecDepth 100000 in
theorem c_X0_kind {M : Mem} {a : Nat} : CR mX0_kind rmX0_kind [.ref a] M (some (.int 1)) := sorry
def rmX6_kind : Room := { frames := 0, cells := 0, slots := 0, locals := 0 }
set_option maxHeartbeats 4000000 in
set_option maxRecDepth 100000 in
theorem c_X6_kind {M : Mem} {a : Nat} : CR mX6_kind rmX6_kind [.ref a] M (some (.int 2)) := sorry
def rmX7_origin : Room := { frames := 0, cells := 0, slots := 0, locals := 0 }
set_option maxHeartbeats 4000000 in
set_option maxRecDepth 100000 in
theorem c_X7_origin {M : Mem} {a : Nat} : CR mX7_origin rmX7_origin [.ref a] M (some .null) := sorry
def rmX7_acts : Room := { frames := 0, cells := 0, slots := 0, locals := 0 }
set_option maxHeartbeats 4000000 in
set_option maxRecDepth 100000 in
theorem c_X7_acts {M : Mem} {a : Nat} : CR mX7_acts rmX7_acts [.ref a] M (some (.ref 1)) := sorry
def rmX0_origin : Room := { frames := 0, cells := 0, slots := 0, locals := 0 }
set_option maxHeartbeats 4000000 in
set_option maxRecDepth 100000 in
theorem c0_X0_origin {M : Mem} {a b : Nat} (hk : M.2.1 a = (0, 5)) (hb : M.2.2 a 3 = .ref b) : CR mX0_origin rmX0_origin [.ref a] M (some (.ref b)) := sorry
def rmX0_acts : Room := { frames := 0, cells := 0, slots := 0, locals := 0 }
set_option maxHeartbeats 4000000 in
set_option maxRecDepth 100000 in
theorem c0_X0_acts {M : Mem} {a b : Nat} (hk : M.2.1 a = (0, 5)) (hb : M.2.2 a 4 = .ref b) : CR mX0_acts rmX0_acts [.ref a] M (some (.ref b)) := sorry
set_option maxHeartbeats 4000000 in
set_option maxRecDepth 100000 in
theorem c6_X0_origin {M : Mem} {a b : Nat} (hk : M.2.1 a = (6, 5)) (hb : M.2.2 a 0 = .ref b) : CR mX0_origin rmX0_origin [.ref a] M (some (.ref b)) := sorry
set_option maxHeartbeats 4000000 in
set_option maxRecDepth 100000 in
theorem c6_X0_acts {M : Mem} {a b : Nat} (hk : M.2.1 a = (6, 5)) (hb : M.2.2 a 1 = .ref b) : CR mX0_acts rmX0_acts [.ref a] M (some (.ref b)) := sorry
def rmX3_origin : Room := { frames := 1, cells := 0, slots := 0, locals := 20 }
set_option maxHeartbeats 4000000 in
set_option maxRecDepth 100000 in
theorem n_X3_origin {M : Mem} {a : Nat} {n w h : Int32} {g : Nat → Int32} (hP : PV M a n w h g .null) : CR mX3_origin rmX3_origin [.ref a] M (some .null) := sorry
set_option maxHeartbeats 4000000 in
set_option maxRecDepth 100000 in
theorem t_X3_origin {M : Mem} {a : Nat} {n w h : Int32} {g : Nat → Int32} {e : Nat} (hP : PV M a n w h g (.ref e)) (hk : M.2.1 e = (7, 3)) : CR mX3_origin rmX3_origin [.ref a] M (some .null) := sorry
set_option maxHeartbeats 4000000 in
set_option maxRecDepth 100000 in
theorem c_X3_origin {M : Mem} {a : Nat} {n w h : Int32} {g : Nat → Int32} {e b : Nat} (hP : PV M a n w h g (.ref e)) (hk : M.2.1 e = (0, 5)) (hb : M.2.2 e 3 = .ref b) : CR mX3_origin rmX3_origin [.ref a] M (some (.ref b)) := sorry
set_option maxHeartbeats 4000000 in
set_option maxRecDepth 100000 in
theorem s_X3_origin {M : Mem} {a : Nat} {n w h : Int32} {g : Nat → Int32} {e b : Nat} (hP : PV M a n w h g (.ref e)) (hk : M.2.1 e = (6, 5)) (hb : M.2.2 e 0 = .ref b) : CR mX3_origin rmX3_origin [.ref a] M (some (.ref b)) := sorry
def rmX1_init : Room := { frames := 1, cells := 0, slots := 0, locals := 20 }
set_option maxHeartbeats 4000000 in
set_option maxRecDepth 100000 in
theorem c_X1_init {M0 : Mem} {a : Nat} {n k : Int32} (hk : M0.2.1 a = (1, 3)) : AP mX1_init rmX1_init [.ref a, .int n, .int k] M0 (none) (fun M => Wd a M0 M ∧ M.2.2 a 2 = .int 1000 ∧ M.2.2 a 0 = .int n ∧ M.2.2 a 1 = .int k) := sorry
def rmX2_init : Room := { frames := 1, cells := 0, slots := 0, locals := 20 }
set_option maxHeartbeats 4000000 in
set_option maxRecDepth 100000 in
theorem c_X2_init {M0 : Mem} {a l : Nat} {h w : Int32} (hk : M0.2.1 a = (2, 3)) : AP mX2_init rmX2_init [.ref a, .ref l, .int h, .int w] M0 (none) (fun M => Wd a M0 M ∧ M.2.2 a 0 = .ref l ∧ M.2.2 a 1 = .int h ∧ M.2.2 a 2 = .int w) := sorry
def rmX7_init : Room := { frames := 1, cells := 0, slots := 0, locals := 20 }
set_option maxHeartbeats 4000000 in
set_option maxRecDepth 100000 in
theorem c7_X7_init {M0 : Mem} {a l : Nat} {h s : Int32} (hk : M0.2.1 a = (7, 3)) : AP mX7_init rmX7_init [.ref a, .ref l, .int h, .int s] M0 (none) (fun M => Wd a M0 M ∧ M.2.2 a 0 = .ref l ∧ M.2.2 a 1 = .int h ∧ M.2.2 a 2 = .int s) := sorry
set_option maxHeartbeats 4000000 in
set_option maxRecDepth 100000 in
theorem c0_X7_init {M0 : Mem} {a l : Nat} {h s : Int32} (hk : M0.2.1 a = (0, 5)) : AP mX7_init rmX7_init [.ref a, .ref l, .int h, .int s] M0 (none) (fun M => Wd a M0 M ∧ M.2.2 a 0 = .ref l ∧ M.2.2 a 1 = .int h ∧ M.2.2 a 2 = .int s) := sorry
set_option maxHeartbeats 4000000 in
set_option maxRecDepth 100000 in
theorem c6_X7_init {M0 : Mem} {a l : Nat} {h s : Int32} (hk : M0.2.1 a = (6, 5)) : AP mX7_init rmX7_init [.ref a, .ref l, .int h, .int s] M0 (none) (fun M => Wd a M0 M ∧ M.2.2 a 2 = .ref l ∧ M.2.2 a 3 = .int h ∧ M.2.2 a 4 = .int s) := sorry
def rmX0_init : Room := { frames := 2, cells := 0, slots := 0, locals := 43 }
set_option maxHeartbeats 4000000 in
set_option maxRecDepth 100000 in
theorem c0_X0_init {M0 : Mem} {a l p c : Nat} {h s : Int32} (hk : M0.2.1 a = (0, 5)) : AP mX0_init rmX0_init [.ref a, .ref l, .int h, .int s, .ref p, .ref c] M0 (none) (fun M => Wd a M0 M ∧ M.2.2 a 0 = .ref l ∧ M.2.2 a 1 = .int h ∧ M.2.2 a 2 = .int s ∧ M.2.2 a 3 = .ref p ∧ M.2.2 a 4 = .ref c) := sorry
set_option maxHeartbeats 4000000 in
set_option maxRecDepth 100000 in
theorem c6_X0_init {M0 : Mem} {a l p c : Nat} {h s : Int32} (hk : M0.2.1 a = (6, 5)) : AP mX0_init rmX0_init [.ref a, .ref l, .int h, .int s, .ref p, .ref c] M0 (none) (fun M => Wd a M0 M ∧ M.2.2 a 2 = .ref l ∧ M.2.2 a 3 = .int h ∧ M.2.2 a 4 = .int s ∧ M.2.2 a 0 = .ref p ∧ M.2.2 a 1 = .ref c) := sorry
def rmX6_init : Room := { frames := 3, cells := 0, slots := 0, locals := 68 }
set_option maxHeartbeats 4000000 in
set_option maxRecDepth 100000 in
theorem c_X6_init {M0 : Mem} {a l p : Nat} {h s : Int32} (hk : M0.2.1 a = (6, 5)) : AP mX6_init rmX6_init [.ref a, .ref l, .int h, .int s, .ref p] M0 (none) (fun M => Wd a M0 M ∧ M.2.2 a 2 = .ref l ∧ M.2.2 a 3 = .int h ∧ M.2.2 a 4 = .int s ∧ M.2.2 a 0 = .ref p ∧ M.2.2 a 1 = .ref 1) := sorry
def rmX3_init : Room := { frames := 1, cells := 1, slots := 16, locals := 23 }
set_option maxHeartbeats 4000000 in
set_option maxRecDepth 100000 in
theorem c_X3_init {M0 : Mem} {a : Nat} {n : Int32} (hm : M0.1 = a + 1) (hk : M0.2.1 a = (3, 5)) (q2 : M0.2.2 a 2 = .int 0) (q3 : M0.2.2 a 3 = .int 0) (q4 : M0.2.2 a 4 = .null) (ha : 2 ≤ a) : AP mX3_init rmX3_init [.ref a, .int n] M0 (none) (fun M => M.1 = a + 2 ∧ Fa a M0 M ∧ PV M a n 0 0 (fun _ => -1) .null) := sorry
/-- the tree -/
def TRE (M : Mem) : Prop := M.2.1 7 = (9, 1) ∧ M.2.2 7 0 = .ref 8 ∧ M.2.1 8 = (20, 32)
theorem TRE.wd {M M' : Mem} (h : TRE M) (f : Wd 8 M M') : TRE M' := sorry
def NOD (M : Mem) (lo : Nat) (lf : Nat → Int32) : Prop := ∀ k, lo ≤ k → k < 32 → M.2.2 8 k = .int (TN lf k)

def rmX9_rootOf : Room := { frames := 1, cells := 0, slots := 0, locals := 21 }
set_option maxHeartbeats 4000000 in
set_option maxRecDepth 100000 in
theorem c_X9_rootOf {M0 : Mem} {a : Nat} {n w h : Int32} {g : Nat → Int32} {q : Value} (hP : PV M0 a n w h g q) (hT : TRE M0) (ha : a ≠ 8 ∧ a + 1 ≠ 8) : AP mX9_rootOf rmX9_rootOf [.ref 7, .ref a] M0 (some (.int (TN (fun k => g k + 1) 1))) (fun M => Wd 8 M0 M ∧ NOD M 1 (fun k => g k + 1)) := sorry
theorem sib : ∀ {j k : Nat}, j < 16 → k < 4 → ((nI (16 + j)) >>> (nI k &&& 31)) ^^^ 1 = nI (((16 + j) / 2 ^ k) ^^^ 1) ∧ 1 ≤ ((16 + j) / 2 ^ k) ^^^ 1 ∧ ((16 + j) / 2 ^ k) ^^^ 1 < 32 := sorry
def rmX9_beside : Room := { frames := 0, cells := 0, slots := 0, locals := 0 }
set_option maxHeartbeats 4000000 in
set_option maxRecDepth 100000 in
theorem c_X9_beside {M : Mem} {j k : Nat} {lf : Nat → Int32} (hT : TRE M) (hN : NOD M 1 lf) (hj : j < 16) (hk : k < 4) : CR mX9_beside rmX9_beside [.ref 7, .int (nI j), .int (nI k)] M (some (.int (TN lf (((16 + j) / 2 ^ k) ^^^ 1)))) := sorry
end
section
/-! the class: the workshop (gen/cls4.py) -/
def WKS (M : Mem) (n : Int32) (q : Value) (w h : Int32) (g : Nat → Int32) : Prop := M.2.1 12 = (10, 2) ∧ M.2.2 12 0 = .ref 13 ∧ M.2.2 12 1 = .ref 15 ∧ M.2.1 15 = (20, 16) ∧ PV M 13 n w h g q
abbrev SW (c : Nat) : Prop := c = 13 ∨ c = 14 ∨ c = 15
theorem WKS.pv {M : Mem} {n : Int32} {q : Value} {w h : Int32} {g : Nat → Int32} (p : WKS M n q w h g) : PV M 13 n w h g q := p.2.2.2.2
theorem WKS.spare {M M' : Mem} {n : Int32} {q : Value} {w h : Int32} {g : Nat → Int32} (p : WKS M n q w h g) (f : Wd 15 M M') : WKS M' n q w h g := by
  have e := f.2.2 12 (by decide)
  exact ⟨by rw [f.2.1]; exact p.1, by rw [e]; exact p.2.1, by rw [e]; exact p.2.2.1, by rw [f.2.1]; exact p.2.2.2.1, p.pv.frs (f.toFrS (S := fun b => b = 15) rfl) (by decide) (by decide)⟩
theorem WKS.bench {M M' : Mem} {n : Int32} {q : Value} {w h w2 h2 : Int32} {g g2 : Nat → Int32} (p : WKS M n q w h g) (f : FrS (fun c => c = 13 ∨ c = 13 + 1) M M') (v : PV M' 13 n w2 h2 g2 q) : WKS M' n q w2 h2 g2 := by
  have e := f.2.2 12 (by decide)
  exact ⟨by rw [f.2.1]; exact p.1, by rw [e]; exact p.2.1, by rw [e]; exact p.2.2.1, by rw [f.2.1]; exact p.2.2.2.1, v⟩
theorem WKS.sq {M M' : Mem} {n : Int32} {q : Value} {w h : Int32} {g g2 : Nat → Int32} (p : WKS M n q w h g) (f : Wd 14 M M') (hA : AR M' 14 16 g2) : WKS M' n q w h g2 := p.bench (f.toFrS (Or.inr rfl)) (p.pv.sqs f hA)
theorem WKS.to {M : Mem} {n : Int32} {q : Value} {w h : Int32} {g g' : Nat → Int32} (p : WKS M n q w h g) (he : ∀ k, k < 16 → g k = g' k) : WKS M n q w h g' := ⟨p.1, p.2.1, p.2.2.1, p.2.2.2.1, p.pv.to he⟩
theorem FrS.b13 {M M' : Mem} (h : FrS (fun c => c = 13 ∨ c = 13 + 1) M M') : FrS SW M M' := h.mono (fun a q => by unfold SW; omega)

def rmX10_holds : Room := { frames := 0, cells := 0, slots := 0, locals := 0 }
set_option maxHeartbeats 4000000 in
set_option maxRecDepth 100000 in
theorem c_X10_holds {M : Mem} {n : Int32} {q : Value} {g : Nat → Int32} {x y w h W H : Nat} (hK : WKS M n q (nI W) (nI H) g) (h9 : x ≤ 9 ∧ y ≤ 9 ∧ w ≤ 9 ∧ h ≤ 9) (hWH : W ≤ 4 ∧ H ≤ 4) : CR mX10_holds rmX10_holds [.ref 12, .int (nI x), .int (nI y), .int (nI w), .int (nI h)] M (some (.int (bi (1 ≤ w ∧ 1 ≤ h ∧ x + w ≤ W ∧ y + h ≤ H)))) := by
  refine am_of rfl rfl (ls := [some (.ref 12), some (.int (nI x)), some (.int (nI y)), some (.int (nI w)), some (.int (nI h))]) rfl ?_
  refine aw_iload3 0 dX10_holds_0 ?_
  refine aw_ic1 1 dX10_holds_1 ?_
  refine aw_icmp_ltN 2 42 (w) (1) dX10_holds_2 (by decide) rfl rfl (by omega) (by omega) (fun h2 => ?_) (fun h2 => ?_)
  · refine aw_ic0 42 dX10_holds_42 ?_
    refine aw_zret 43 dX10_holds_43 rfl (by first | rfl | exact bi_nar | decide) (Nat.zero_le _) (Nat.zero_le _) ?_
    refine ⟨?_, rfl⟩
    first
      | (rw [bi_t (And.intro h2 (And.intro h8 (And.intro h21 h35)))]; done)
      | (rw [bi_f (fun z => absurd z.1 (Nat.not_le.mpr h2))]; done)
      | (rw [bi_f (fun z => absurd z.2.1 (Nat.not_le.mpr h8))]; done)
      | (rw [bi_f (fun z => absurd z.2.2.1 (Nat.not_le.mpr h21))]; done)
      | (rw [bi_f (fun z => absurd z.2.2.2 (Nat.not_le.mpr h35))]; done)
  · refine aw_iload4 5 dX10_holds_5 ?_
    refine aw_ic1 7 dX10_holds_7 ?_
    refine aw_icmp_ltN 8 42 (h) (1) dX10_holds_8 (by decide) rfl rfl (by omega) (by omega) (fun h8 => ?_) (fun h8 => ?_)
    · refine aw_ic0 42 dX10_holds_42 ?_
      refine aw_zret 43 dX10_holds_43 rfl (by first | rfl | exact bi_nar | decide) (Nat.zero_le _) (Nat.zero_le _) ?_
      refine ⟨?_, rfl⟩
      first
        | (rw [bi_t (And.intro h2 (And.intro h8 (And.intro h21 h35)))]; done)
        | (rw [bi_f (fun z => absurd z.1 (Nat.not_le.mpr h2))]; done)
        | (rw [bi_f (fun z => absurd z.2.1 (Nat.not_le.mpr h8))]; done)
        | (rw [bi_f (fun z => absurd z.2.2.1 (Nat.not_le.mpr h21))]; done)
        | (rw [bi_f (fun z => absurd z.2.2.2 (Nat.not_le.mpr h35))]; done)
    · refine aw_iload1 11 dX10_holds_11 ?_
      refine aw_iload3 12 dX10_holds_12 ?_
      refine aw_iaddN 13 (x) (w) dX10_holds_13 rfl rfl ?_
      refine aw_aload0 14 dX10_holds_14 ?_
      refine aw_get 15 dX10_holds_15 ckF_RX10_14_10 hK.1 hK.2.1 ?_
      refine aw_get 18 dX10_holds_18 ckF_RX10_52_3 hK.pv.1 hK.pv.2.2.2.1 ?_
      refine aw_icmp_gtN 21 42 (x + w) (W) dX10_holds_21 (by decide) rfl rfl (by omega) (by omega) (fun h21 => ?_) (fun h21 => ?_)
      · refine aw_ic0 42 dX10_holds_42 ?_
        refine aw_zret 43 dX10_holds_43 rfl (by first | rfl | exact bi_nar | decide) (Nat.zero_le _) (Nat.zero_le _) ?_
        refine ⟨?_, rfl⟩
        first
          | (rw [bi_t (And.intro h2 (And.intro h8 (And.intro h21 h35)))]; done)
          | (rw [bi_f (fun z => absurd z.1 (Nat.not_le.mpr h2))]; done)
          | (rw [bi_f (fun z => absurd z.2.1 (Nat.not_le.mpr h8))]; done)
          | (rw [bi_f (fun z => absurd z.2.2.1 (Nat.not_le.mpr h21))]; done)
          | (rw [bi_f (fun z => absurd z.2.2.2 (Nat.not_le.mpr h35))]; done)
      · refine aw_iload2 24 dX10_holds_24 ?_
        refine aw_iload4 25 dX10_holds_25 ?_
        refine aw_iaddN 27 (y) (h) dX10_holds_27 rfl rfl ?_
        refine aw_aload0 28 dX10_holds_28 ?_
        refine aw_get 29 dX10_holds_29 ckF_RX10_14_10 hK.1 hK.2.1 ?_
        refine aw_get 32 dX10_holds_32 ckF_RX10_56_3 hK.pv.1 hK.pv.2.2.2.2.1 ?_
        refine aw_icmp_gtN 35 42 (y + h) (H) dX10_holds_35 (by decide) rfl rfl (by omega) (by omega) (fun h35 => ?_) (fun h35 => ?_)
        · refine aw_ic0 42 dX10_holds_42 ?_
          refine aw_zret 43 dX10_holds_43 rfl (by first | rfl | exact bi_nar | decide) (Nat.zero_le _) (Nat.zero_le _) ?_
          refine ⟨?_, rfl⟩
          first
            | (rw [bi_t (And.intro h2 (And.intro h8 (And.intro h21 h35)))]; done)
            | (rw [bi_f (fun z => absurd z.1 (Nat.not_le.mpr h2))]; done)
            | (rw [bi_f (fun z => absurd z.2.1 (Nat.not_le.mpr h8))]; done)
            | (rw [bi_f (fun z => absurd z.2.2.1 (Nat.not_le.mpr h21))]; done)
            | (rw [bi_f (fun z => absurd z.2.2.2 (Nat.not_le.mpr h35))]; done)
        · refine aw_ic1 38 dX10_holds_38 ?_
          refine aw_goto 39 43 dX10_holds_39 (by decide) ?_
          refine aw_zret 43 dX10_holds_43 rfl (by first | rfl | exact bi_nar | decide) (Nat.zero_le _) (Nat.zero_le _) ?_
          refine ⟨?_, rfl⟩
          first
            | (rw [bi_t (And.intro h2 (And.intro h8 (And.intro h21 h35)))]; done)
            | (rw [bi_f (fun z => absurd z.1 (Nat.not_le.mpr h2))]; done)
            | (rw [bi_f (fun z => absurd z.2.1 (Nat.not_le.mpr h8))]; done)
            | (rw [bi_f (fun z => absurd z.2.2.1 (Nat.not_le.mpr h21))]; done)
            | (rw [bi_f (fun z => absurd z.2.2.2 (Nat.not_le.mpr h35))]; done)

def cuG (g : Nat → Int32) (x y w h : Nat) : Nat → Int32 := fun k => if k % 4 < w ∧ k / 4 < h then g (x + k % 4 + 4 * (y + k / 4)) else -1
def cuI (g : Nat → Int32) (x y w d a : Nat) : Nat → Int32 := fun k => if k % 4 < w ∧ (k / 4 < d ∨ (k / 4 = d ∧ k % 4 < a)) then g (x + k % 4 + 4 * (y + k / 4)) else -1
theorem cuI_up {g : Nat → Int32} {x y w d a k : Nat} (ha : a < w) (hw : w ≤ 4) : upg (cuI g x y w d a) (a + 4 * d) (g (x + a + 4 * (y + d))) k = cuI g x y w d (a + 1) k := by
  unfold upg cuI
  by_cases e : k = a + 4 * d
  · rw [if_pos e, if_pos (by omega), show k % 4 = a by omega, show k / 4 = d by omega]
  · rw [if_neg e]
    by_cases c : k % 4 < w ∧ (k / 4 < d ∨ (k / 4 = d ∧ k % 4 < a))
    · rw [if_pos c, if_pos (by omega)]
    · rw [if_neg c, if_neg (by omega)]
theorem cuI_nx {g : Nat → Int32} {x y w d a k : Nat} (ha : w ≤ a) (hd : d < 4) : cuI g x y w d a k = cuI g x y w (d + 1) 0 k := by
  unfold cuI
  by_cases c : k % 4 < w ∧ (k / 4 < d ∨ (k / 4 = d ∧ k % 4 < a))
  · rw [if_pos c, if_pos (by omega)]
  · rw [if_neg c, if_neg (by omega)]

theorem cuI_fin {g : Nat → Int32} {x y w h d k : Nat} (hd : d = h) : cuI g x y w d 0 k = cuG g x y w h k := by
  unfold cuI cuG
  by_cases c : k % 4 < w ∧ k / 4 < h
  · rw [if_pos c, if_pos (by omega)]
  · rw [if_neg c, if_neg (by omega)]

def rmX10_cutOut : Room := { frames := 2, cells := 0, slots := 0, locals := 63 }
set_option maxHeartbeats 4000000 in
set_option maxRecDepth 100000 in
theorem c_X10_cutOut {M0 : Mem} {n : Int32} {q : Value} {g : Nat → Int32} {x y w h W H : Nat} (hK : WKS M0 n q (nI W) (nI H) g) (hok : 1 ≤ w ∧ 1 ≤ h ∧ x + w ≤ W ∧ y + h ≤ H) (hWH : W ≤ 4 ∧ H ≤ 4) : AP mX10_cutOut rmX10_cutOut [.ref 12, .int (nI x), .int (nI y), .int (nI w), .int (nI h)] M0 (none) (fun M => FrS SW M0 M ∧ WKS M n q (nI w) (nI h) (cuG g x y w h)) := by
  refine am_of rfl rfl (ls := [some (.ref 12), some (.int (nI x)), some (.int (nI y)), some (.int (nI w)), some (.int (nI h)), none, none]) rfl ?_
  suffices HH : ∀ M, (WKS M n q (nI W) (nI H) g) → (FrS SW M0 M) → AW mX10_cutOut rmX10_cutOut (fun r' M' => r' = (none) ∧ (fun M => FrS SW M0 M ∧ WKS M n q (nI w) (nI h) (cuG g x y w h)) M') 0 [some (.ref 12), some (.int (nI x)), some (.int (nI y)), some (.int (nI w)), some (.int (nI h)), none, none] [] M 0 0 from HH M0 hK (FrS.rf _ M0)
  intro M hK hS
  refine aw_aload0 0 dX10_cutOut_0 ?_
  refine aw_get 1 dX10_cutOut_1 ckF_RX10_20_10 hK.1 hK.2.2.1 ?_
  refine aw_icm1 4 dX10_cutOut_4 ?_
  refine ap_s0 5 dX10_cutOut_5 (c_J7_fill_53178 hK.2.2.2.1 (by decide) (by decide)) ckS_RX10_59 cd_J7_fill_53178 rfl (Nat.le_of_ble_eq_true rfl) ⟨⟨by decide, by decide⟩, by decide, by decide⟩ rfl (fun M hq => ?_)
  replace hS := hS.wd hq.1 (Or.inr (Or.inr rfl))
  replace hK := hK.spare hq.1
  have hA := hq.2
  clear hq
  refine aw_ic0 8 dX10_cutOut_8 ?_
  refine aw_istore5 9 dX10_cutOut_9 rfl ?_
  have LP11 : ∀ (dd : Nat) (d : Nat) (z : Option Value) (M : Mem), h - d = dd → (d ≤ h) → (WKS M n q (nI W) (nI H) g) → (FrS SW M0 M) → (AR M 15 16 (cuI g x y w d 0)) → AW mX10_cutOut rmX10_cutOut (fun r' M' => r' = (none) ∧ (fun M => FrS SW M0 M ∧ WKS M n q (nI w) (nI h) (cuG g x y w h)) M') 11 [some (.ref 12), some (.int (nI x)), some (.int (nI y)), some (.int (nI w)), some (.int (nI h)), some (.int (nI d)), z] [] M 0 0 := by
    intro dd
    induction dd using Nat.strongRecOn with
    | _ dd ih11 =>
      intro d z M hdd hd0 hK hS hA
      refine aw_iload5 11 dX10_cutOut_11 ?_
      refine aw_iload4 13 dX10_cutOut_13 ?_
      refine aw_icmp_geN 15 70 (d) (h) dX10_cutOut_15 (by decide) rfl rfl (by omega) (by omega) (fun h15 => ?_) (fun h15 => ?_)
      · refine aw_aload0 70 dX10_cutOut_70 ?_
        refine aw_get 71 dX10_cutOut_71 ckF_RX10_14_10 hK.1 hK.2.1 ?_
        refine aw_iload3 74 dX10_cutOut_74 ?_
        refine aw_iload4 75 dX10_cutOut_75 ?_
        refine aw_aload0 77 dX10_cutOut_77 ?_
        refine aw_get 78 dX10_cutOut_78 ckF_RX10_20_10 hK.1 hK.2.2.1 ?_
        refine ap_v0 81 dX10_cutOut_81 (c_X3_replace (f := cuG g x y w h) hK.pv (hA.to (fun k hk => cuI_fin (k := k) (by omega))) (by decide) (by decide) (by decide)) ckV_RX10_68 cd_X3_replace hK.pv.1 vc3 rfl rfl (Nat.le_of_ble_eq_true rfl) ⟨⟨by decide, by decide⟩, by decide, by decide⟩ rfl (fun M hq => ?_)
        refine aw_vret 84 dX10_cutOut_84 rfl (Nat.zero_le _) (Nat.zero_le _) ?_
        exact ⟨rfl, hS.trans hq.1.b13, hK.bench hq.1 hq.2⟩
      · refine aw_ic0 18 dX10_cutOut_18 ?_
        refine aw_istore6 19 dX10_cutOut_19 rfl ?_
        have LP21 : ∀ (dd : Nat) (a : Nat) (M : Mem), w - a = dd → (a ≤ w) → (WKS M n q (nI W) (nI H) g) → (FrS SW M0 M) → (AR M 15 16 (cuI g x y w d a)) → AW mX10_cutOut rmX10_cutOut (fun r' M' => r' = (none) ∧ (fun M => FrS SW M0 M ∧ WKS M n q (nI w) (nI h) (cuG g x y w h)) M') 21 [some (.ref 12), some (.int (nI x)), some (.int (nI y)), some (.int (nI w)), some (.int (nI h)), some (.int (nI d)), some (.int (nI a))] [] M 0 0 := by
          intro dd
          induction dd using Nat.strongRecOn with
          | _ dd ih21 =>
            intro a M hdd ha0 hK hS hA
            refine aw_iload6 21 dX10_cutOut_21 ?_
            refine aw_iload3 23 dX10_cutOut_23 ?_
            refine aw_icmp_geN 24 64 (a) (w) dX10_cutOut_24 (by decide) rfl rfl (by omega) (by omega) (fun h24 => ?_) (fun h24 => ?_)
            · refine aw_iinc5 64 (nI (d + 1)) dX10_cutOut_64 (nI_1 _) rfl ?_
              refine aw_goto 67 11 dX10_cutOut_67 (by decide) ?_
              exact ih11 _ (by omega) (d + 1) _ M rfl (by omega) hK hS (hA.to (fun k hk => cuI_nx (by omega) (by omega)))
            · refine aw_aload0 27 dX10_cutOut_27 ?_
              refine aw_get 28 dX10_cutOut_28 ckF_RX10_20_10 hK.1 hK.2.2.1 ?_
              refine aw_iload6 31 dX10_cutOut_31 ?_
              refine aw_ic4 33 dX10_cutOut_33 ?_
              refine aw_iload5 34 dX10_cutOut_34 ?_
              refine aw_imulN 36 (4) (d) dX10_cutOut_36 rfl rfl ?_
              refine aw_iaddN 37 (a) (4 * d) dX10_cutOut_37 rfl rfl ?_
              refine aw_aload0 38 dX10_cutOut_38 ?_
              refine aw_get 39 dX10_cutOut_39 ckF_RX10_14_10 hK.1 hK.2.1 ?_
              refine aw_get 42 dX10_cutOut_42 ckF_RX10_65_3 hK.pv.1 hK.pv.2.2.1 ?_
              refine aw_iload1 45 dX10_cutOut_45 ?_
              refine aw_iload6 46 dX10_cutOut_46 ?_
              refine aw_iaddN 48 (x) (a) dX10_cutOut_48 rfl rfl ?_
              refine aw_ic4 49 dX10_cutOut_49 ?_
              refine aw_iload2 50 dX10_cutOut_50 ?_
              refine aw_iload5 51 dX10_cutOut_51 ?_
              refine aw_iaddN 53 (y) (d) dX10_cutOut_53 rfl rfl ?_
              refine aw_imulN 54 (4) (y + d) dX10_cutOut_54 rfl rfl ?_
              refine aw_iaddN 55 (x + a) (4 * (y + d)) dX10_cutOut_55 rfl rfl ?_
              refine ar_ld 56 ((x + a) + (4 * (y + d))) dX10_cutOut_56 hK.pv.2.2.2.2.2.2 rfl (show (x + a) + (4 * (y + d)) < 16 by omega) (by decide) ?_
              refine ar_st 57 (a + (4 * d)) dX10_cutOut_57 hA (by decide) rfl (show a + (4 * d) < 16 by omega) (by decide) (fun M hA hd => ?_)
              replace hS := hS.wd hd (Or.inr (Or.inr rfl))
              replace hK := hK.spare hd
              replace hA := hA.to (fun k hk => cuI_up (k := k) h24 (by omega))
              clear hd
              refine aw_iinc6 58 (nI (a + 1)) dX10_cutOut_58 (nI_1 _) rfl ?_
              refine aw_goto 61 21 dX10_cutOut_61 (by decide) ?_
              exact ih21 _ (by omega) (a + 1) M rfl (by omega) hK hS hA
        exact LP21 _ 0 M rfl (by omega) hK hS hA
  exact LP11 _ 0 none M rfl (by omega) hK hS (hA.to (fun k hk => by unfold cuI; rw [if_neg (by omega)]))

def blF (g : Nat → Int32) (x y w h : Nat) (s : Int32) : Nat → Int32 := fun k => if x ≤ k % 4 ∧ k % 4 < x + w ∧ y ≤ k / 4 ∧ k / 4 < y + h then s else g k
def blI (g : Nat → Int32) (x y w d a : Nat) (s : Int32) : Nat → Int32 := fun k => if x ≤ k % 4 ∧ k % 4 < x + w ∧ y ≤ k / 4 ∧ (k / 4 < y + d ∨ (k / 4 = y + d ∧ k % 4 < x + a)) then s else g k
theorem blI_up {g : Nat → Int32} {x y w d a k : Nat} {s : Int32} (ha : a < w) (hw : x + w ≤ 4) : upg (blI g x y w d a s) (x + a + 4 * (y + d)) s k = blI g x y w d (a + 1) s k := by
  unfold upg blI
  by_cases e : k = x + a + 4 * (y + d)
  · rw [if_pos e, if_pos (by omega)]
  · rw [if_neg e]
    by_cases c : x ≤ k % 4 ∧ k % 4 < x + w ∧ y ≤ k / 4 ∧ (k / 4 < y + d ∨ (k / 4 = y + d ∧ k % 4 < x + a))
    · rw [if_pos c, if_pos (by omega)]
    · rw [if_neg c, if_neg (by omega)]
theorem blI_nx {g : Nat → Int32} {x y w d a k : Nat} {s : Int32} (ha : w ≤ a) : blI g x y w d a s k = blI g x y w (d + 1) 0 s k := by
  unfold blI
  by_cases c : x ≤ k % 4 ∧ k % 4 < x + w ∧ y ≤ k / 4 ∧ (k / 4 < y + d ∨ (k / 4 = y + d ∧ k % 4 < x + a))
  · rw [if_pos c, if_pos (by omega)]
  · rw [if_neg c, if_neg (by omega)]
theorem blI_fin {g : Nat → Int32} {x y w h d k : Nat} {s : Int32} (hd : d = h) : blI g x y w d 0 s k = blF g x y w h s k := by
  unfold blI blF
  by_cases c : x ≤ k % 4 ∧ k % 4 < x + w ∧ y ≤ k / 4 ∧ k / 4 < y + h
  · rw [if_pos c, if_pos (by omega)]
  · rw [if_neg c, if_neg (by omega)]
theorem smG_s {g : Nat → Int32} {x y w d a : Nat} (ha : a < w) : smG g x y w (w * d + a) + g (x + a + 4 * (y + d)) = smG g x y w (w * d + (a + 1)) := by
  show _ = smG g x y w (w * d + a) + g (pPl x y w (w * d + a))
  unfold pPl
  rw [Nat.mul_add_mod, Nat.mod_eq_of_lt ha, Nat.mul_add_div (by omega), Nat.div_eq_of_lt ha, Nat.add_zero]

def rmX10_blur : Room := { frames := 0, cells := 0, slots := 0, locals := 0 }
set_option maxHeartbeats 4000000 in
set_option maxRecDepth 100000 in
theorem c_X10_blur {M0 : Mem} {n : Int32} {q : Value} {g : Nat → Int32} {x y w h W H : Nat} (hK : WKS M0 n q (nI W) (nI H) g) (hok : 1 ≤ w ∧ 1 ≤ h ∧ x + w ≤ W ∧ y + h ≤ H) (hWH : W ≤ 4 ∧ H ≤ 4) : AP mX10_blur rmX10_blur [.ref 12, .int (nI x), .int (nI y), .int (nI w), .int (nI h)] M0 (none) (fun M => FrS SW M0 M ∧ WKS M n q (nI W) (nI H) (blF g x y w h ((smG g x y w (w * h)) / nI (w * h)))) := by
  refine am_of rfl rfl (ls := [some (.ref 12), some (.int (nI x)), some (.int (nI y)), some (.int (nI w)), some (.int (nI h)), none, none, none]) rfl ?_
  suffices HH : ∀ M, (WKS M n q (nI W) (nI H) g) → (FrS SW M0 M) → AW mX10_blur rmX10_blur (fun r' M' => r' = (none) ∧ (fun M => FrS SW M0 M ∧ WKS M n q (nI W) (nI H) (blF g x y w h ((smG g x y w (w * h)) / nI (w * h)))) M') 0 [some (.ref 12), some (.int (nI x)), some (.int (nI y)), some (.int (nI w)), some (.int (nI h)), none, none, none] [] M 0 0 from HH M0 hK (FrS.rf _ M0)
  intro M hK hS
  have hwh := wmul (a := w) (b := h) (by omega) (by omega)
  have hwh1 : 1 ≤ w * h := Nat.mul_pos hok.1 hok.2.1
  refine aw_ic0 0 dX10_blur_0 ?_
  refine aw_istore5 1 dX10_blur_1 rfl ?_
  refine aw_ic0 3 dX10_blur_3 ?_
  refine aw_istore6 4 dX10_blur_4 rfl ?_
  have LP6 : ∀ (dd : Nat) (d : Nat) (z : Option Value), h - d = dd → (d ≤ h) → AW mX10_blur rmX10_blur (fun r' M' => r' = (none) ∧ (fun M => FrS SW M0 M ∧ WKS M n q (nI W) (nI H) (blF g x y w h ((smG g x y w (w * h)) / nI (w * h)))) M') 6 [some (.ref 12), some (.int (nI x)), some (.int (nI y)), some (.int (nI w)), some (.int (nI h)), some (.int (smG g x y w (w * d))), some (.int (nI d)), z] [] M 0 0 := by
    intro dd
    induction dd using Nat.strongRecOn with
    | _ dd ih6 =>
      intro d z hdd hd0
      refine aw_iload6 6 dX10_blur_6 ?_
      refine aw_iload4 8 dX10_blur_8 ?_
      refine aw_icmp_geN 10 58 (d) (h) dX10_blur_10 (by decide) rfl rfl (by omega) (by omega) (fun h10 => ?_) (fun h10 => ?_)
      · have ed : h = d := by omega
        subst ed
        refine aw_ic0 58 dX10_blur_58 ?_
        refine aw_istore6 59 dX10_blur_59 rfl ?_
        have LP61 : ∀ (dd : Nat) (d2 : Nat) (z : Option Value) (M : Mem), h - d2 = dd → (d2 ≤ h) → (WKS M n q (nI W) (nI H) (blI g x y w d2 0 ((smG g x y w (w * h)) / nI (w * h)))) → (FrS SW M0 M) → AW mX10_blur rmX10_blur (fun r' M' => r' = (none) ∧ (fun M => FrS SW M0 M ∧ WKS M n q (nI W) (nI H) (blF g x y w h ((smG g x y w (w * h)) / nI (w * h)))) M') 61 [some (.ref 12), some (.int (nI x)), some (.int (nI y)), some (.int (nI w)), some (.int (nI h)), some (.int (smG g x y w (w * h))), some (.int (nI d2)), z] [] M 0 0 := by
          intro dd
          induction dd using Nat.strongRecOn with
          | _ dd ih61 =>
            intro d2 z M hdd hd2 hK hS
            refine aw_iload6 61 dX10_blur_61 ?_
            refine aw_iload4 63 dX10_blur_63 ?_
            refine aw_icmp_geN 65 115 (d2) (h) dX10_blur_65 (by decide) rfl rfl (by omega) (by omega) (fun h65 => ?_) (fun h65 => ?_)
            · refine aw_vret 115 dX10_blur_115 rfl (Nat.zero_le _) (Nat.zero_le _) ?_
              exact ⟨rfl, hS, hK.to (fun k hk => blI_fin (by omega))⟩
            · refine aw_ic0 68 dX10_blur_68 ?_
              refine aw_istore7 69 dX10_blur_69 rfl ?_
              have LP71 : ∀ (dd : Nat) (a : Nat) (M : Mem), w - a = dd → (a ≤ w) → (WKS M n q (nI W) (nI H) (blI g x y w d2 a ((smG g x y w (w * h)) / nI (w * h)))) → (FrS SW M0 M) → AW mX10_blur rmX10_blur (fun r' M' => r' = (none) ∧ (fun M => FrS SW M0 M ∧ WKS M n q (nI W) (nI H) (blF g x y w h ((smG g x y w (w * h)) / nI (w * h)))) M') 71 [some (.ref 12), some (.int (nI x)), some (.int (nI y)), some (.int (nI w)), some (.int (nI h)), some (.int (smG g x y w (w * h))), some (.int (nI d2)), some (.int (nI a))] [] M 0 0 := by
                intro dd
                induction dd using Nat.strongRecOn with
                | _ dd ih71 =>
                  intro a M hdd ha0 hK hS
                  refine aw_iload7 71 dX10_blur_71 ?_
                  refine aw_iload3 73 dX10_blur_73 ?_
                  refine aw_icmp_geN 74 109 (a) (w) dX10_blur_74 (by decide) rfl rfl (by omega) (by omega) (fun h74 => ?_) (fun h74 => ?_)
                  · refine aw_iinc6 109 (nI (d2 + 1)) dX10_blur_109 (nI_1 _) rfl ?_
                    refine aw_goto 112 61 dX10_blur_112 (by decide) ?_
                    exact ih61 _ (by omega) (d2 + 1) _ M rfl (by omega) (hK.to (fun k hk => blI_nx (by omega))) hS
                  · refine aw_aload0 77 dX10_blur_77 ?_
                    refine aw_get 78 dX10_blur_78 ckF_RX10_14_10 hK.1 hK.2.1 ?_
                    refine aw_get 81 dX10_blur_81 ckF_RX10_65_3 hK.pv.1 hK.pv.2.2.1 ?_
                    refine aw_iload1 84 dX10_blur_84 ?_
                    refine aw_iload7 85 dX10_blur_85 ?_
                    refine aw_iaddN 87 (x) (a) dX10_blur_87 rfl rfl ?_
                    refine aw_ic4 88 dX10_blur_88 ?_
                    refine aw_iload2 89 dX10_blur_89 ?_
                    refine aw_iload6 90 dX10_blur_90 ?_
                    refine aw_iaddN 92 (y) (d2) dX10_blur_92 rfl rfl ?_
                    refine aw_imulN 93 (4) (y + d2) dX10_blur_93 rfl rfl ?_
                    refine aw_iaddN 94 (x + a) (4 * (y + d2)) dX10_blur_94 rfl rfl ?_
                    refine aw_iload5 95 dX10_blur_95 ?_
                    refine aw_iload3 97 dX10_blur_97 ?_
                    refine aw_iload4 98 dX10_blur_98 ?_
                    refine aw_imulN 100 (w) (h) dX10_blur_100 rfl rfl ?_
                    refine aw_idiv 101 dX10_blur_101 (nI_ne0 hwh1 (by omega)) ?_
                    refine ar_st 102 ((x + a) + (4 * (y + d2))) dX10_blur_102 hK.pv.2.2.2.2.2.2 (by decide) rfl (show (x + a) + (4 * (y + d2)) < 16 by omega) (by decide) (fun M hA hd => ?_)
                    replace hS := hS.wd hd (Or.inr (Or.inl rfl))
                    replace hK := (hK.sq hd hA).to (fun k hk => blI_up (k := k) h74 (by omega))
                    clear hd hA
                    refine aw_iinc7 103 (nI (a + 1)) dX10_blur_103 (nI_1 _) rfl ?_
                    refine aw_goto 106 71 dX10_blur_106 (by decide) ?_
                    exact ih71 _ (by omega) (a + 1) M rfl (by omega) hK hS
              exact LP71 _ 0 M rfl (by omega) hK hS
        exact LP61 _ 0 _ M rfl (by omega) (hK.to (fun k hk => by unfold blI; rw [if_neg (by omega)])) hS
      · refine aw_ic0 13 dX10_blur_13 ?_
        refine aw_istore7 14 dX10_blur_14 rfl ?_
        have LP16 : ∀ (dd : Nat) (a : Nat), w - a = dd → (a ≤ w) → AW mX10_blur rmX10_blur (fun r' M' => r' = (none) ∧ (fun M => FrS SW M0 M ∧ WKS M n q (nI W) (nI H) (blF g x y w h ((smG g x y w (w * h)) / nI (w * h)))) M') 16 [some (.ref 12), some (.int (nI x)), some (.int (nI y)), some (.int (nI w)), some (.int (nI h)), some (.int (smG g x y w (w * d + a))), some (.int (nI d)), some (.int (nI a))] [] M 0 0 := by
          intro dd
          induction dd using Nat.strongRecOn with
          | _ dd ih16 =>
            intro a hdd ha0
            refine aw_iload7 16 dX10_blur_16 ?_
            refine aw_iload3 18 dX10_blur_18 ?_
            refine aw_icmp_geN 19 52 (a) (w) dX10_blur_19 (by decide) rfl rfl (by omega) (by omega) (fun h19 => ?_) (fun h19 => ?_)
            · have ea : a = w := by omega
              subst ea
              rw [show a * d + a = a * (d + 1) from (Nat.mul_succ a d).symm]
              refine aw_iinc6 52 (nI (d + 1)) dX10_blur_52 (nI_1 _) rfl ?_
              refine aw_goto 55 6 dX10_blur_55 (by decide) ?_
              exact ih6 _ (by omega) (d + 1) _ rfl (by omega)
            · refine aw_iload5 22 dX10_blur_22 ?_
              refine aw_aload0 24 dX10_blur_24 ?_
              refine aw_get 25 dX10_blur_25 ckF_RX10_14_10 hK.1 hK.2.1 ?_
              refine aw_get 28 dX10_blur_28 ckF_RX10_65_3 hK.pv.1 hK.pv.2.2.1 ?_
              refine aw_iload1 31 dX10_blur_31 ?_
              refine aw_iload7 32 dX10_blur_32 ?_
              refine aw_iaddN 34 (x) (a) dX10_blur_34 rfl rfl ?_
              refine aw_ic4 35 dX10_blur_35 ?_
              refine aw_iload2 36 dX10_blur_36 ?_
              refine aw_iload6 37 dX10_blur_37 ?_
              refine aw_iaddN 39 (y) (d) dX10_blur_39 rfl rfl ?_
              refine aw_imulN 40 (4) (y + d) dX10_blur_40 rfl rfl ?_
              refine aw_iaddN 41 (x + a) (4 * (y + d)) dX10_blur_41 rfl rfl ?_
              refine ar_ld 42 ((x + a) + (4 * (y + d))) dX10_blur_42 hK.pv.2.2.2.2.2.2 rfl (show (x + a) + (4 * (y + d)) < 16 by omega) (by decide) ?_
              refine aw_iadd 43 dX10_blur_43 ?_
              refine aw_topi (smG_s (x := x) (y := y) h19) ?_
              refine aw_istore5 44 dX10_blur_44 rfl ?_
              refine aw_iinc7 46 (nI (a + 1)) dX10_blur_46 (nI_1 _) rfl ?_
              refine aw_goto 49 16 dX10_blur_49 (by decide) ?_
              exact ih16 _ (by omega) (a + 1) rfl (by omega)
        exact LP16 _ 0 rfl (by omega)
  exact LP6 _ 0 none rfl (by omega)

def trF (g : Nat → Int32) (W H : Nat) : Nat → Int32 := fun k => if k % 4 < H ∧ k / 4 < W then g (k / 4 + 4 * (H - 1 - k % 4)) else -1
def trI (g : Nat → Int32) (W H x y : Nat) : Nat → Int32 := fun k => if k / 4 < W ∧ (k % 4 < x ∨ (k % 4 = x ∧ k / 4 < y)) then g (k / 4 + 4 * (H - 1 - k % 4)) else -1
theorem trI_up {g : Nat → Int32} {W H x y k : Nat} (hx : x < 4) (hy : y < W) : upg (trI g W H x y) (x + 4 * y) (g (y + 4 * (H - 1 - x))) k = trI g W H x (y + 1) k := by
  unfold upg trI
  by_cases e : k = x + 4 * y
  · rw [if_pos e, if_pos (by omega), show k % 4 = x by omega, show k / 4 = y by omega]
  · rw [if_neg e]
    by_cases c : k / 4 < W ∧ (k % 4 < x ∨ (k % 4 = x ∧ k / 4 < y))
    · rw [if_pos c, if_pos (by omega)]
    · rw [if_neg c, if_neg (by omega)]
theorem trI_nx {g : Nat → Int32} {W H x y k : Nat} (hy : W ≤ y) : trI g W H x y k = trI g W H (x + 1) 0 k := by
  unfold trI
  by_cases c : k / 4 < W ∧ (k % 4 < x ∨ (k % 4 = x ∧ k / 4 < y))
  · rw [if_pos c, if_pos (by omega)]
  · rw [if_neg c, if_neg (by omega)]
theorem trI_fin {g : Nat → Int32} {W H x k : Nat} (hx : x = H) : trI g W H x 0 k = trF g W H k := by
  unfold trI trF
  by_cases c : k % 4 < H ∧ k / 4 < W
  · rw [if_pos c, if_pos (by omega)]
  · rw [if_neg c, if_neg (by omega)]

def rmX10_turn : Room := { frames := 2, cells := 0, slots := 0, locals := 63 }
set_option maxHeartbeats 4000000 in
set_option maxRecDepth 100000 in
theorem c_X10_turn {M0 : Mem} {n : Int32} {q : Value} {g : Nat → Int32} {W H : Nat} (hK : WKS M0 n q (nI W) (nI H) g) (hWH : W ≤ 4 ∧ 1 ≤ H ∧ H ≤ 4) : AP mX10_turn rmX10_turn [.ref 12] M0 (none) (fun M => FrS SW M0 M ∧ WKS M n q (nI H) (nI W) (trF g W H)) := by
  refine am_of rfl rfl (ls := [some (.ref 12), none, none]) rfl ?_
  suffices HH : ∀ M, (WKS M n q (nI W) (nI H) g) → (FrS SW M0 M) → AW mX10_turn rmX10_turn (fun r' M' => r' = (none) ∧ (fun M => FrS SW M0 M ∧ WKS M n q (nI H) (nI W) (trF g W H)) M') 0 [some (.ref 12), none, none] [] M 0 0 from HH M0 hK (FrS.rf _ M0)
  intro M hK hS
  refine aw_aload0 0 dX10_turn_0 ?_
  refine aw_get 1 dX10_turn_1 ckF_RX10_20_10 hK.1 hK.2.2.1 ?_
  refine aw_icm1 4 dX10_turn_4 ?_
  refine ap_s0 5 dX10_turn_5 (c_J7_fill_53178 hK.2.2.2.1 (by decide) (by decide)) ckS_RX10_59 cd_J7_fill_53178 rfl (Nat.le_of_ble_eq_true rfl) ⟨⟨by decide, by decide⟩, by decide, by decide⟩ rfl (fun M hq => ?_)
  replace hS := hS.wd hq.1 (Or.inr (Or.inr rfl))
  replace hK := hK.spare hq.1
  have hA := hq.2
  clear hq
  refine aw_ic0 8 dX10_turn_8 ?_
  refine aw_istore1 9 dX10_turn_9 rfl ?_
  have LP10 : ∀ (dd : Nat) (x : Nat) (z : Option Value) (M : Mem), H - x = dd → (x ≤ H) → (WKS M n q (nI W) (nI H) g) → (FrS SW M0 M) → (AR M 15 16 (trI g W H x 0)) → AW mX10_turn rmX10_turn (fun r' M' => r' = (none) ∧ (fun M => FrS SW M0 M ∧ WKS M n q (nI H) (nI W) (trF g W H)) M') 10 [some (.ref 12), some (.int (nI x)), z] [] M 0 0 := by
    intro dd
    induction dd using Nat.strongRecOn with
    | _ dd ih10 =>
      intro x z M hdd hx0 hK hS hA
      refine aw_iload1 10 dX10_turn_10 ?_
      refine aw_aload0 11 dX10_turn_11 ?_
      refine aw_get 12 dX10_turn_12 ckF_RX10_14_10 hK.1 hK.2.1 ?_
      refine aw_get 15 dX10_turn_15 ckF_RX10_56_3 hK.pv.1 hK.pv.2.2.2.2.1 ?_
      refine aw_icmp_geN 18 79 (x) (H) dX10_turn_18 (by decide) rfl rfl (by omega) (by omega) (fun h18 => ?_) (fun h18 => ?_)
      · refine aw_aload0 79 dX10_turn_79 ?_
        refine aw_get 80 dX10_turn_80 ckF_RX10_14_10 hK.1 hK.2.1 ?_
        refine aw_aload0 83 dX10_turn_83 ?_
        refine aw_get 84 dX10_turn_84 ckF_RX10_14_10 hK.1 hK.2.1 ?_
        refine aw_get 87 dX10_turn_87 ckF_RX10_56_3 hK.pv.1 hK.pv.2.2.2.2.1 ?_
        refine aw_aload0 90 dX10_turn_90 ?_
        refine aw_get 91 dX10_turn_91 ckF_RX10_14_10 hK.1 hK.2.1 ?_
        refine aw_get 94 dX10_turn_94 ckF_RX10_52_3 hK.pv.1 hK.pv.2.2.2.1 ?_
        refine aw_aload0 97 dX10_turn_97 ?_
        refine aw_get 98 dX10_turn_98 ckF_RX10_20_10 hK.1 hK.2.2.1 ?_
        refine ap_v0 101 dX10_turn_101 (c_X3_replace (f := trF g W H) hK.pv (hA.to (fun k hk => trI_fin (k := k) (by omega))) (by decide) (by decide) (by decide)) ckV_RX10_68 cd_X3_replace hK.pv.1 vc3 rfl rfl (Nat.le_of_ble_eq_true rfl) ⟨⟨by decide, by decide⟩, by decide, by decide⟩ rfl (fun M hq => ?_)
        refine aw_vret 104 dX10_turn_104 rfl (Nat.zero_le _) (Nat.zero_le _) ?_
        exact ⟨rfl, hS.trans hq.1.b13, hK.bench hq.1 hq.2⟩
      · refine aw_ic0 21 dX10_turn_21 ?_
        refine aw_istore2 22 dX10_turn_22 rfl ?_
        have LP23 : ∀ (dd : Nat) (y : Nat) (M : Mem), W - y = dd → (y ≤ W) → (WKS M n q (nI W) (nI H) g) → (FrS SW M0 M) → (AR M 15 16 (trI g W H x y)) → AW mX10_turn rmX10_turn (fun r' M' => r' = (none) ∧ (fun M => FrS SW M0 M ∧ WKS M n q (nI H) (nI W) (trF g W H)) M') 23 [some (.ref 12), some (.int (nI x)), some (.int (nI y))] [] M 0 0 := by
          intro dd
          induction dd using Nat.strongRecOn with
          | _ dd ih23 =>
            intro y M hdd hy0 hK hS hA
            refine aw_iload2 23 dX10_turn_23 ?_
            refine aw_aload0 24 dX10_turn_24 ?_
            refine aw_get 25 dX10_turn_25 ckF_RX10_14_10 hK.1 hK.2.1 ?_
            refine aw_get 28 dX10_turn_28 ckF_RX10_52_3 hK.pv.1 hK.pv.2.2.2.1 ?_
            refine aw_icmp_geN 31 73 (y) (W) dX10_turn_31 (by decide) rfl rfl (by omega) (by omega) (fun h31 => ?_) (fun h31 => ?_)
            · refine aw_iinc1 73 (nI (x + 1)) dX10_turn_73 (nI_1 _) rfl ?_
              refine aw_goto 76 10 dX10_turn_76 (by decide) ?_
              exact ih10 _ (by omega) (x + 1) _ M rfl (by omega) hK hS (hA.to (fun k hk => trI_nx (by omega)))
            · refine aw_aload0 34 dX10_turn_34 ?_
              refine aw_get 35 dX10_turn_35 ckF_RX10_20_10 hK.1 hK.2.2.1 ?_
              refine aw_iload1 38 dX10_turn_38 ?_
              refine aw_ic4 39 dX10_turn_39 ?_
              refine aw_iload2 40 dX10_turn_40 ?_
              refine aw_imulN 41 (4) (y) dX10_turn_41 rfl rfl ?_
              refine aw_iaddN 42 (x) (4 * y) dX10_turn_42 rfl rfl ?_
              refine aw_aload0 43 dX10_turn_43 ?_
              refine aw_get 44 dX10_turn_44 ckF_RX10_14_10 hK.1 hK.2.1 ?_
              refine aw_get 47 dX10_turn_47 ckF_RX10_65_3 hK.pv.1 hK.pv.2.2.1 ?_
              refine aw_iload2 50 dX10_turn_50 ?_
              refine aw_ic4 51 dX10_turn_51 ?_
              refine aw_aload0 52 dX10_turn_52 ?_
              refine aw_get 53 dX10_turn_53 ckF_RX10_14_10 hK.1 hK.2.1 ?_
              refine aw_get 56 dX10_turn_56 ckF_RX10_56_3 hK.pv.1 hK.pv.2.2.2.2.1 ?_
              refine aw_ic1 59 dX10_turn_59 ?_
              refine aw_isubN 60 (H) (1) dX10_turn_60 rfl rfl (by omega) ?_
              refine aw_iload1 61 dX10_turn_61 ?_
              refine aw_isubN 62 (H - 1) (x) dX10_turn_62 rfl rfl (by omega) ?_
              refine aw_imulN 63 (4) ((H - 1) - x) dX10_turn_63 rfl rfl ?_
              refine aw_iaddN 64 (y) (4 * ((H - 1) - x)) dX10_turn_64 rfl rfl ?_
              refine ar_ld 65 (y + (4 * ((H - 1) - x))) dX10_turn_65 hK.pv.2.2.2.2.2.2 rfl (show y + (4 * ((H - 1) - x)) < 16 by omega) (by decide) ?_
              refine ar_st 66 (x + (4 * y)) dX10_turn_66 hA (by decide) rfl (show x + (4 * y) < 16 by omega) (by decide) (fun M hA hd => ?_)
              replace hS := hS.wd hd (Or.inr (Or.inr rfl))
              replace hK := hK.spare hd
              replace hA := hA.to (fun k hk => trI_up (k := k) (by omega) h31)
              clear hd
              refine aw_iinc2 67 (nI (y + 1)) dX10_turn_67 (nI_1 _) rfl ?_
              refine aw_goto 70 23 dX10_turn_70 (by decide) ?_
              exact ih23 _ (by omega) (y + 1) M rfl (by omega) hK hS hA
        exact LP23 _ 0 M rfl (by omega) hK hS hA
  exact LP10 _ 0 none M rfl (by omega) hK hS (hA.to (fun k hk => by unfold trI; rw [if_neg (by omega)]))

def shV (v b : Int32) : Int32 := if v = -1 then -1 else if 0 < (if v + b < 99 then v + b else 99) then (if v + b < 99 then v + b else 99) else 0
def swV (v b : Int32) : Int32 := if v = -1 then -1 else v / b * b
def mpI (F : Int32 → Int32) (g : Nat → Int32) (n : Nat) : Nat → Int32 := fun k => if k < n then F (g k) else g k
theorem mpI_up {F : Int32 → Int32} {g : Nat → Int32} {n k : Nat} {v : Int32} (hv : v = F (g n)) : upg (mpI F g n) n v k = mpI F g (n + 1) k := by
  unfold upg mpI
  by_cases e : k = n
  · rw [if_pos e, if_pos (by omega), hv, e]
  · rw [if_neg e]
    by_cases c : k < n
    · rw [if_pos c, if_pos (by omega)]
    · rw [if_neg c, if_neg (by omega)]
theorem mpI_sk {F : Int32 → Int32} {g : Nat → Int32} {n k : Nat} (hv : g n = F (g n)) : mpI F g n k = mpI F g (n + 1) k := by
  unfold mpI
  by_cases e : k = n
  · rw [if_neg (by omega), if_pos (by omega), e, ← hv]
  · by_cases c : k < n
    · rw [if_pos c, if_pos (by omega)]
    · rw [if_neg c, if_neg (by omega)]
theorem mpI_at {F : Int32 → Int32} {g : Nat → Int32} {n : Nat} : mpI F g n n = g n := if_neg (Nat.lt_irrefl n)

def rmX10_shift : Room := { frames := 1, cells := 0, slots := 0, locals := 21 }
set_option maxHeartbeats 4000000 in
set_option maxRecDepth 100000 in
theorem c_X10_shift {M0 : Mem} {n : Int32} {q : Value} {g : Nat → Int32} {W H : Nat} {b : Int32} (hK : WKS M0 n q (nI W) (nI H) g) : AP mX10_shift rmX10_shift [.ref 12, .int b] M0 (none) (fun M => FrS SW M0 M ∧ WKS M n q (nI W) (nI H) (fun k => shV (g k) b)) := by
  refine am_of rfl rfl (ls := [some (.ref 12), some (.int b), none]) rfl ?_
  suffices HH : ∀ M, (WKS M n q (nI W) (nI H) g) → (FrS SW M0 M) → AW mX10_shift rmX10_shift (fun r' M' => r' = (none) ∧ (fun M => FrS SW M0 M ∧ WKS M n q (nI W) (nI H) (fun k => shV (g k) b)) M') 0 [some (.ref 12), some (.int b), none] [] M 0 0 from HH M0 hK (FrS.rf _ M0)
  intro M hK hS
  refine aw_ic0 0 dX10_shift_0 ?_
  refine aw_istore2 1 dX10_shift_1 rfl ?_
  have LP2 : ∀ (dd : Nat) (k : Nat) (M : Mem), 16 - k = dd → (k ≤ 16) → (WKS M n q (nI W) (nI H) (mpI (fun v => shV v b) g k)) → (FrS SW M0 M) → AW mX10_shift rmX10_shift (fun r' M' => r' = (none) ∧ (fun M => FrS SW M0 M ∧ WKS M n q (nI W) (nI H) (fun k => shV (g k) b)) M') 2 [some (.ref 12), some (.int b), some (.int (nI k))] [] M 0 0 := by
    intro dd
    induction dd using Nat.strongRecOn with
    | _ dd ih2 =>
      intro k M hdd hk hK hS
      refine aw_iload2 2 dX10_shift_2 ?_
      refine aw_bipush 3 16 dX10_shift_3 (by decide) ?_
      refine aw_icmp_geN 5 56 (k) (16) dX10_shift_5 (by decide) rfl rfl (by omega) (by omega) (fun h5 => ?_) (fun h5 => ?_)
      · refine aw_vret 56 dX10_shift_56 rfl (Nat.zero_le _) (Nat.zero_le _) ?_
        exact ⟨rfl, hS, hK.to (fun k hk => by unfold mpI; rw [if_pos (by omega)])⟩
      · refine aw_aload0 8 dX10_shift_8 ?_
        refine aw_get 9 dX10_shift_9 ckF_RX10_14_10 hK.1 hK.2.1 ?_
        refine aw_get 12 dX10_shift_12 ckF_RX10_65_3 hK.pv.1 hK.pv.2.2.1 ?_
        refine aw_iload2 15 dX10_shift_15 ?_
        refine ar_ld 16 (k) dX10_shift_16 hK.pv.2.2.2.2.2.2 rfl (show k < 16 by omega) (by decide) ?_
        refine aw_topi (w := g k) mpI_at ?_
        refine aw_icm1 17 dX10_shift_17 ?_
        refine aw_icmp_eq 18 50 dX10_shift_18 (by decide) (fun h18 => ?_) (fun h18 => ?_)
        · replace hK := hK.to (fun j _ => mpI_sk (k := j) (show g k = shV (g k) b by unfold shV; rw [if_pos h18]; exact h18))
          refine aw_iinc2 50 (nI (k + 1)) dX10_shift_50 (nI_1 _) rfl ?_
          refine aw_goto 53 2 dX10_shift_53 (by decide) ?_
          exact ih2 _ (by omega) (k + 1) M rfl (by omega) hK hS
        · refine aw_aload0 21 dX10_shift_21 ?_
          refine aw_get 22 dX10_shift_22 ckF_RX10_14_10 hK.1 hK.2.1 ?_
          refine aw_get 25 dX10_shift_25 ckF_RX10_65_3 hK.pv.1 hK.pv.2.2.1 ?_
          refine aw_iload2 28 dX10_shift_28 ?_
          refine aw_ic0 29 dX10_shift_29 ?_
          refine aw_bipush 30 99 dX10_shift_30 (by decide) ?_
          refine aw_aload0 32 dX10_shift_32 ?_
          refine aw_get 33 dX10_shift_33 ckF_RX10_14_10 hK.1 hK.2.1 ?_
          refine aw_get 36 dX10_shift_36 ckF_RX10_65_3 hK.pv.1 hK.pv.2.2.1 ?_
          refine aw_iload2 39 dX10_shift_39 ?_
          refine ar_ld 40 (k) dX10_shift_40 hK.pv.2.2.2.2.2.2 rfl (show k < 16 by omega) (by decide) ?_
          refine aw_topi (w := g k) mpI_at ?_
          refine aw_iload1 41 dX10_shift_41 ?_
          refine aw_iadd 42 dX10_shift_42 ?_
          refine aw_min 43 dX10_shift_43 ckM_RX10_72 (Nat.le_of_ble_eq_true rfl) (by decide) (by decide) (Nat.zero_le _) (Nat.zero_le _) ?_
          refine aw_max 46 dX10_shift_46 ckM_RX10_78 (Nat.le_of_ble_eq_true rfl) (by decide) (by decide) (Nat.zero_le _) (Nat.zero_le _) ?_
          refine ar_st 49 (k) dX10_shift_49 hK.pv.2.2.2.2.2.2 (by decide) rfl (show k < 16 by omega) (by decide) (fun M hA hd => ?_)
          replace hS := hS.wd hd (Or.inr (Or.inl rfl))
          replace hK := (hK.sq hd hA).to (fun j _ => mpI_up (k := j) (show _ = shV (g k) b by unfold shV; rw [if_neg h18]))
          clear hd hA
          refine aw_iinc2 50 (nI (k + 1)) dX10_shift_50 (nI_1 _) rfl ?_
          refine aw_goto 53 2 dX10_shift_53 (by decide) ?_
          exact ih2 _ (by omega) (k + 1) M rfl (by omega) hK hS
  exact LP2 _ 0 M rfl (by omega) (hK.to (fun k hk => by unfold mpI; rw [if_neg (by omega)])) hS

def rmX10_saveWorse : Room := { frames := 0, cells := 0, slots := 0, locals := 0 }
set_option maxHeartbeats 4000000 in
set_option maxRecDepth 100000 in
theorem c_X10_saveWorse {M0 : Mem} {n : Int32} {q : Value} {g : Nat → Int32} {W H d : Nat} {b : Int32} (hK : WKS M0 n q (nI W) (nI H) g) (hb : b = nI d) (hd1 : 1 ≤ d ∧ d ≤ 99) : AP mX10_saveWorse rmX10_saveWorse [.ref 12, .int b] M0 (none) (fun M => FrS SW M0 M ∧ WKS M n q (nI W) (nI H) (fun k => swV (g k) b)) := by
  refine am_of rfl rfl (ls := [some (.ref 12), some (.int b), none]) rfl ?_
  suffices HH : ∀ M, (WKS M n q (nI W) (nI H) g) → (FrS SW M0 M) → AW mX10_saveWorse rmX10_saveWorse (fun r' M' => r' = (none) ∧ (fun M => FrS SW M0 M ∧ WKS M n q (nI W) (nI H) (fun k => swV (g k) b)) M') 0 [some (.ref 12), some (.int b), none] [] M 0 0 from HH M0 hK (FrS.rf _ M0)
  intro M hK hS
  refine aw_ic0 0 dX10_saveWorse_0 ?_
  refine aw_istore2 1 dX10_saveWorse_1 rfl ?_
  have LP2 : ∀ (dd : Nat) (k : Nat) (M : Mem), 16 - k = dd → (k ≤ 16) → (WKS M n q (nI W) (nI H) (mpI (fun v => swV v b) g k)) → (FrS SW M0 M) → AW mX10_saveWorse rmX10_saveWorse (fun r' M' => r' = (none) ∧ (fun M => FrS SW M0 M ∧ WKS M n q (nI W) (nI H) (fun k => swV (g k) b)) M') 2 [some (.ref 12), some (.int b), some (.int (nI k))] [] M 0 0 := by
    intro dd
    induction dd using Nat.strongRecOn with
    | _ dd ih2 =>
      intro k M hdd hk hK hS
      refine aw_iload2 2 dX10_saveWorse_2 ?_
      refine aw_bipush 3 16 dX10_saveWorse_3 (by decide) ?_
      refine aw_icmp_geN 5 53 (k) (16) dX10_saveWorse_5 (by decide) rfl rfl (by omega) (by omega) (fun h5 => ?_) (fun h5 => ?_)
      · refine aw_vret 53 dX10_saveWorse_53 rfl (Nat.zero_le _) (Nat.zero_le _) ?_
        exact ⟨rfl, hS, hK.to (fun k hk => by unfold mpI; rw [if_pos (by omega)])⟩
      · refine aw_iload1 8 dX10_saveWorse_8 ?_
        refine aw_if_le 9 53 dX10_saveWorse_9 (by decide) (fun h9 => ?_) (fun h9 => ?_)
        · exact absurd h9 (by rw [hb]; exact nI_nle (by omega) (by omega))
        · refine aw_aload0 12 dX10_saveWorse_12 ?_
          refine aw_get 13 dX10_saveWorse_13 ckF_RX10_14_10 hK.1 hK.2.1 ?_
          refine aw_get 16 dX10_saveWorse_16 ckF_RX10_65_3 hK.pv.1 hK.pv.2.2.1 ?_
          refine aw_iload2 19 dX10_saveWorse_19 ?_
          refine ar_ld 20 (k) dX10_saveWorse_20 hK.pv.2.2.2.2.2.2 rfl (show k < 16 by omega) (by decide) ?_
          refine aw_topi (w := g k) mpI_at ?_
          refine aw_icm1 21 dX10_saveWorse_21 ?_
          refine aw_icmp_eq 22 47 dX10_saveWorse_22 (by decide) (fun h22 => ?_) (fun h22 => ?_)
          · replace hK := hK.to (fun j _ => mpI_sk (k := j) (show g k = swV (g k) b by unfold swV; rw [if_pos h22]; exact h22))
            refine aw_iinc2 47 (nI (k + 1)) dX10_saveWorse_47 (nI_1 _) rfl ?_
            refine aw_goto 50 2 dX10_saveWorse_50 (by decide) ?_
            exact ih2 _ (by omega) (k + 1) M rfl (by omega) hK hS
          · refine aw_aload0 25 dX10_saveWorse_25 ?_
            refine aw_get 26 dX10_saveWorse_26 ckF_RX10_14_10 hK.1 hK.2.1 ?_
            refine aw_get 29 dX10_saveWorse_29 ckF_RX10_65_3 hK.pv.1 hK.pv.2.2.1 ?_
            refine aw_iload2 32 dX10_saveWorse_32 ?_
            refine aw_aload0 33 dX10_saveWorse_33 ?_
            refine aw_get 34 dX10_saveWorse_34 ckF_RX10_14_10 hK.1 hK.2.1 ?_
            refine aw_get 37 dX10_saveWorse_37 ckF_RX10_65_3 hK.pv.1 hK.pv.2.2.1 ?_
            refine aw_iload2 40 dX10_saveWorse_40 ?_
            refine ar_ld 41 (k) dX10_saveWorse_41 hK.pv.2.2.2.2.2.2 rfl (show k < 16 by omega) (by decide) ?_
            refine aw_topi (w := g k) mpI_at ?_
            refine aw_iload1 42 dX10_saveWorse_42 ?_
            refine aw_idiv 43 dX10_saveWorse_43 (by rw [hb]; exact nI_ne0 (by omega) (by omega)) ?_
            refine aw_iload1 44 dX10_saveWorse_44 ?_
            refine aw_imul 45 dX10_saveWorse_45 ?_
            refine ar_st 46 (k) dX10_saveWorse_46 hK.pv.2.2.2.2.2.2 (by decide) rfl (show k < 16 by omega) (by decide) (fun M hA hd => ?_)
            replace hS := hS.wd hd (Or.inr (Or.inl rfl))
            replace hK := (hK.sq hd hA).to (fun j _ => mpI_up (k := j) (show _ = swV (g k) b by unfold swV; rw [if_neg h22]))
            clear hd hA
            refine aw_iinc2 47 (nI (k + 1)) dX10_saveWorse_47 (nI_1 _) rfl ?_
            refine aw_goto 50 2 dX10_saveWorse_50 (by decide) ?_
            exact ih2 _ (by omega) (k + 1) M rfl (by omega) hK hS
  exact LP2 _ 0 M rfl (by omega) (hK.to (fun k hk => by unfold mpI; rw [if_neg (by omega)])) hS
end
