section
-- ===== PART A: goes FIRST, ahead of the names: the tables' words, and 'selects' of the private methods out of them =====
/-- a private method of a class that the tables say can be made, by its rows of tables_1 -/
def lw_okq (q : MethodName × Nat) : Prop := (q.1.cls ≠ "java/lang/invoke/MethodHandle" ∧ q.1.cls ≠ "java/lang/invoke/VarHandle") ∧ Cond.instantiable q.1.cls q.2 ∈ tables_1 ∧ Cond.privateMethod q.1 ∈ tables_1 ∧ Cond.instanceMethod q.1 ∈ tables_1
theorem lw_p0 : lw_okq (⟨"StripedKeyVolume", "workOutVolume", "(IIII)V"⟩, 5) := ⟨⟨by decide +kernel, by decide +kernel⟩, List.mem_of_getElem? (i := 9) (by decide +kernel), List.mem_of_getElem? (i := 60) (by decide +kernel), List.mem_of_getElem? (i := 61) (by decide +kernel)⟩
theorem lw_p1 : lw_okq (⟨"StripedKeyVolume", "putVolume", "()Z"⟩, 5) := ⟨⟨by decide +kernel, by decide +kernel⟩, List.mem_of_getElem? (i := 9) (by decide +kernel), List.mem_of_getElem? (i := 110) (by decide +kernel), List.mem_of_getElem? (i := 111) (by decide +kernel)⟩
theorem lw_p2 : lw_okq (⟨"StripedKeyVolume", "powerLost", "()I"⟩, 5) := ⟨⟨by decide +kernel, by decide +kernel⟩, List.mem_of_getElem? (i := 9) (by decide +kernel), List.mem_of_getElem? (i := 119) (by decide +kernel), List.mem_of_getElem? (i := 120) (by decide +kernel)⟩
theorem lw_p3 : lw_okq (⟨"StripedKeyVolume", "holdNoKeys", "(I)V"⟩, 5) := ⟨⟨by decide +kernel, by decide +kernel⟩, List.mem_of_getElem? (i := 9) (by decide +kernel), List.mem_of_getElem? (i := 123) (by decide +kernel), List.mem_of_getElem? (i := 124) (by decide +kernel)⟩
theorem lw_p4 : lw_okq (⟨"StripedKeyVolume$Disk", "finishJournal", "()Z"⟩, 3) := ⟨⟨by decide +kernel, by decide +kernel⟩, List.mem_of_getElem? (i := 17) (by decide +kernel), List.mem_of_getElem? (i := 140) (by decide +kernel), List.mem_of_getElem? (i := 141) (by decide +kernel)⟩
theorem lw_p5 : lw_okq (⟨"StripedKeyVolume$Disk", "clearJournal", "()Z"⟩, 3) := ⟨⟨by decide +kernel, by decide +kernel⟩, List.mem_of_getElem? (i := 17) (by decide +kernel), List.mem_of_getElem? (i := 145) (by decide +kernel), List.mem_of_getElem? (i := 146) (by decide +kernel)⟩
theorem lw_p6 : lw_okq (⟨"StripedKeyVolume", "activeSlots", "()I"⟩, 5) := ⟨⟨by decide +kernel, by decide +kernel⟩, List.mem_of_getElem? (i := 9) (by decide +kernel), List.mem_of_getElem? (i := 149) (by decide +kernel), List.mem_of_getElem? (i := 150) (by decide +kernel)⟩
theorem lw_p7 : lw_okq (⟨"StripedKeyVolume", "isActive", "(I)Z"⟩, 5) := ⟨⟨by decide +kernel, by decide +kernel⟩, List.mem_of_getElem? (i := 9) (by decide +kernel), List.mem_of_getElem? (i := 157) (by decide +kernel), List.mem_of_getElem? (i := 158) (by decide +kernel)⟩
theorem lw_p8 : lw_okq (⟨"StripedKeyVolume", "opensWith", "(II)Z"⟩, 5) := ⟨⟨by decide +kernel, by decide +kernel⟩, List.mem_of_getElem? (i := 9) (by decide +kernel), List.mem_of_getElem? (i := 171) (by decide +kernel), List.mem_of_getElem? (i := 172) (by decide +kernel)⟩
theorem lw_p9 : lw_okq (⟨"StripedKeyVolume", "refusalUnlessOpen", "()I"⟩, 5) := ⟨⟨by decide +kernel, by decide +kernel⟩, List.mem_of_getElem? (i := 9) (by decide +kernel), List.mem_of_getElem? (i := 190) (by decide +kernel), List.mem_of_getElem? (i := 191) (by decide +kernel)⟩
theorem lw_p10 : lw_okq (⟨"StripedKeyVolume", "leastFreeSlot", "()I"⟩, 5) := ⟨⟨by decide +kernel, by decide +kernel⟩, List.mem_of_getElem? (i := 9) (by decide +kernel), List.mem_of_getElem? (i := 194) (by decide +kernel), List.mem_of_getElem? (i := 195) (by decide +kernel)⟩
theorem lw_p11 : lw_okq (⟨"StripedKeyVolume", "fillSlot", "(III)Z"⟩, 5) := ⟨⟨by decide +kernel, by decide +kernel⟩, List.mem_of_getElem? (i := 9) (by decide +kernel), List.mem_of_getElem? (i := 198) (by decide +kernel), List.mem_of_getElem? (i := 199) (by decide +kernel)⟩
theorem lw_p12 : lw_okq (⟨"StripedKeyVolume", "refusalOfSlot", "(I)I"⟩, 5) := ⟨⟨by decide +kernel, by decide +kernel⟩, List.mem_of_getElem? (i := 9) (by decide +kernel), List.mem_of_getElem? (i := 210) (by decide +kernel), List.mem_of_getElem? (i := 211) (by decide +kernel)⟩
theorem lw_p13 : lw_okq (⟨"StripedKeyVolume", "clearSlot", "(I)Z"⟩, 5) := ⟨⟨by decide +kernel, by decide +kernel⟩, List.mem_of_getElem? (i := 9) (by decide +kernel), List.mem_of_getElem? (i := 218) (by decide +kernel), List.mem_of_getElem? (i := 219) (by decide +kernel)⟩
theorem lw_p14 : lw_okq (⟨"StripedKeyVolume", "refusalOfWord", "(II)I"⟩, 5) := ⟨⟨by decide +kernel, by decide +kernel⟩, List.mem_of_getElem? (i := 9) (by decide +kernel), List.mem_of_getElem? (i := 226) (by decide +kernel), List.mem_of_getElem? (i := 227) (by decide +kernel)⟩
theorem lw_p15 : lw_okq (⟨"StripedKeyVolume", "plainWord", "(II)I"⟩, 5) := ⟨⟨by decide +kernel, by decide +kernel⟩, List.mem_of_getElem? (i := 9) (by decide +kernel), List.mem_of_getElem? (i := 230) (by decide +kernel), List.mem_of_getElem? (i := 231) (by decide +kernel)⟩
def lw_privs_1 : List (MethodName × Nat) := [(⟨"StripedKeyVolume", "workOutVolume", "(IIII)V"⟩, 5), (⟨"StripedKeyVolume", "putVolume", "()Z"⟩, 5), (⟨"StripedKeyVolume", "powerLost", "()I"⟩, 5), (⟨"StripedKeyVolume", "holdNoKeys", "(I)V"⟩, 5), (⟨"StripedKeyVolume$Disk", "finishJournal", "()Z"⟩, 3), (⟨"StripedKeyVolume$Disk", "clearJournal", "()Z"⟩, 3), (⟨"StripedKeyVolume", "activeSlots", "()I"⟩, 5), (⟨"StripedKeyVolume", "isActive", "(I)Z"⟩, 5), (⟨"StripedKeyVolume", "opensWith", "(II)Z"⟩, 5), (⟨"StripedKeyVolume", "refusalUnlessOpen", "()I"⟩, 5), (⟨"StripedKeyVolume", "leastFreeSlot", "()I"⟩, 5), (⟨"StripedKeyVolume", "fillSlot", "(III)Z"⟩, 5), (⟨"StripedKeyVolume", "refusalOfSlot", "(I)I"⟩, 5), (⟨"StripedKeyVolume", "clearSlot", "(I)Z"⟩, 5), (⟨"StripedKeyVolume", "refusalOfWord", "(II)I"⟩, 5), (⟨"StripedKeyVolume", "plainWord", "(II)I"⟩, 5)]
theorem lw_r1 : ∀ q ∈ lw_privs_1, lw_okq q := List.forall_mem_cons.mpr ⟨lw_p0, List.forall_mem_cons.mpr ⟨lw_p1, List.forall_mem_cons.mpr ⟨lw_p2, List.forall_mem_cons.mpr ⟨lw_p3, List.forall_mem_cons.mpr ⟨lw_p4, List.forall_mem_cons.mpr ⟨lw_p5, List.forall_mem_cons.mpr ⟨lw_p6, List.forall_mem_cons.mpr ⟨lw_p7, List.forall_mem_cons.mpr ⟨lw_p8, List.forall_mem_cons.mpr ⟨lw_p9, List.forall_mem_cons.mpr ⟨lw_p10, List.forall_mem_cons.mpr ⟨lw_p11, List.forall_mem_cons.mpr ⟨lw_p12, List.forall_mem_cons.mpr ⟨lw_p13, List.forall_mem_cons.mpr ⟨lw_p14, List.forall_mem_cons.mpr ⟨lw_p15, fun _ h => absurd h List.not_mem_nil⟩⟩⟩⟩⟩⟩⟩⟩⟩⟩⟩⟩⟩⟩⟩⟩
theorem lw_p16 : lw_okq (⟨"StripedKeyVolumeModel", "begin", "()V"⟩, 14) := ⟨⟨by decide +kernel, by decide +kernel⟩, List.mem_of_getElem? (i := 256) (by decide +kernel), List.mem_of_getElem? (i := 313) (by decide +kernel), List.mem_of_getElem? (i := 314) (by decide +kernel)⟩
theorem lw_p17 : lw_okq (⟨"StripedKeyVolumeModel", "makeSlot", "(IIII)V"⟩, 14) := ⟨⟨by decide +kernel, by decide +kernel⟩, List.mem_of_getElem? (i := 256) (by decide +kernel), List.mem_of_getElem? (i := 326) (by decide +kernel), List.mem_of_getElem? (i := 327) (by decide +kernel)⟩
theorem lw_p18 : lw_okq (⟨"StripedKeyVolumeModel", "cover", "(I)I"⟩, 14) := ⟨⟨by decide +kernel, by decide +kernel⟩, List.mem_of_getElem? (i := 256) (by decide +kernel), List.mem_of_getElem? (i := 330) (by decide +kernel), List.mem_of_getElem? (i := 331) (by decide +kernel)⟩
theorem lw_p19 : lw_okq (⟨"StripedKeyVolumeModel", "plan", "(II)V"⟩, 14) := ⟨⟨by decide +kernel, by decide +kernel⟩, List.mem_of_getElem? (i := 256) (by decide +kernel), List.mem_of_getElem? (i := 350) (by decide +kernel), List.mem_of_getElem? (i := 351) (by decide +kernel)⟩
theorem lw_p20 : lw_okq (⟨"StripedKeyVolumeModel", "perform", "()Z"⟩, 14) := ⟨⟨by decide +kernel, by decide +kernel⟩, List.mem_of_getElem? (i := 256) (by decide +kernel), List.mem_of_getElem? (i := 355) (by decide +kernel), List.mem_of_getElem? (i := 356) (by decide +kernel)⟩
theorem lw_p21 : lw_okq (⟨"StripedKeyVolumeModel", "planFinish", "()V"⟩, 14) := ⟨⟨by decide +kernel, by decide +kernel⟩, List.mem_of_getElem? (i := 256) (by decide +kernel), List.mem_of_getElem? (i := 363) (by decide +kernel), List.mem_of_getElem? (i := 364) (by decide +kernel)⟩
theorem lw_p22 : lw_okq (⟨"StripedKeyVolumeModel", "planClean", "()V"⟩, 14) := ⟨⟨by decide +kernel, by decide +kernel⟩, List.mem_of_getElem? (i := 256) (by decide +kernel), List.mem_of_getElem? (i := 367) (by decide +kernel), List.mem_of_getElem? (i := 368) (by decide +kernel)⟩
theorem lw_p23 : lw_okq (⟨"StripedKeyVolumeModel", "count", "()I"⟩, 14) := ⟨⟨by decide +kernel, by decide +kernel⟩, List.mem_of_getElem? (i := 256) (by decide +kernel), List.mem_of_getElem? (i := 371) (by decide +kernel), List.mem_of_getElem? (i := 372) (by decide +kernel)⟩
theorem lw_p24 : lw_okq (⟨"StripedKeyVolumeModel", "active", "(I)Z"⟩, 14) := ⟨⟨by decide +kernel, by decide +kernel⟩, List.mem_of_getElem? (i := 256) (by decide +kernel), List.mem_of_getElem? (i := 375) (by decide +kernel), List.mem_of_getElem? (i := 376) (by decide +kernel)⟩
theorem lw_p25 : lw_okq (⟨"StripedKeyVolumeModel", "opens", "(II)Z"⟩, 14) := ⟨⟨by decide +kernel, by decide +kernel⟩, List.mem_of_getElem? (i := 256) (by decide +kernel), List.mem_of_getElem? (i := 383) (by decide +kernel), List.mem_of_getElem? (i := 384) (by decide +kernel)⟩
theorem lw_p26 : lw_okq (⟨"StripedKeyVolumeModel", "closed", "()I"⟩, 14) := ⟨⟨by decide +kernel, by decide +kernel⟩, List.mem_of_getElem? (i := 256) (by decide +kernel), List.mem_of_getElem? (i := 398) (by decide +kernel), List.mem_of_getElem? (i := 399) (by decide +kernel)⟩
theorem lw_p27 : lw_okq (⟨"StripedKeyVolumeModel", "planChange", "(II)V"⟩, 14) := ⟨⟨by decide +kernel, by decide +kernel⟩, List.mem_of_getElem? (i := 256) (by decide +kernel), List.mem_of_getElem? (i := 402) (by decide +kernel), List.mem_of_getElem? (i := 403) (by decide +kernel)⟩
theorem lw_p28 : lw_okq (⟨"StripedKeyVolumeModel", "badSlot", "(I)I"⟩, 14) := ⟨⟨by decide +kernel, by decide +kernel⟩, List.mem_of_getElem? (i := 256) (by decide +kernel), List.mem_of_getElem? (i := 410) (by decide +kernel), List.mem_of_getElem? (i := 411) (by decide +kernel)⟩
theorem lw_p29 : lw_okq (⟨"StripedKeyVolumeModel", "badWord", "(II)I"⟩, 14) := ⟨⟨by decide +kernel, by decide +kernel⟩, List.mem_of_getElem? (i := 256) (by decide +kernel), List.mem_of_getElem? (i := 422) (by decide +kernel), List.mem_of_getElem? (i := 423) (by decide +kernel)⟩
def lw_privs_2 : List (MethodName × Nat) := [(⟨"StripedKeyVolumeModel", "begin", "()V"⟩, 14), (⟨"StripedKeyVolumeModel", "makeSlot", "(IIII)V"⟩, 14), (⟨"StripedKeyVolumeModel", "cover", "(I)I"⟩, 14), (⟨"StripedKeyVolumeModel", "plan", "(II)V"⟩, 14), (⟨"StripedKeyVolumeModel", "perform", "()Z"⟩, 14), (⟨"StripedKeyVolumeModel", "planFinish", "()V"⟩, 14), (⟨"StripedKeyVolumeModel", "planClean", "()V"⟩, 14), (⟨"StripedKeyVolumeModel", "count", "()I"⟩, 14), (⟨"StripedKeyVolumeModel", "active", "(I)Z"⟩, 14), (⟨"StripedKeyVolumeModel", "opens", "(II)Z"⟩, 14), (⟨"StripedKeyVolumeModel", "closed", "()I"⟩, 14), (⟨"StripedKeyVolumeModel", "planChange", "(II)V"⟩, 14), (⟨"StripedKeyVolumeModel", "badSlot", "(I)I"⟩, 14), (⟨"StripedKeyVolumeModel", "badWord", "(II)I"⟩, 14)]
theorem lw_r2 : ∀ q ∈ lw_privs_2, lw_okq q := List.forall_mem_cons.mpr ⟨lw_p16, List.forall_mem_cons.mpr ⟨lw_p17, List.forall_mem_cons.mpr ⟨lw_p18, List.forall_mem_cons.mpr ⟨lw_p19, List.forall_mem_cons.mpr ⟨lw_p20, List.forall_mem_cons.mpr ⟨lw_p21, List.forall_mem_cons.mpr ⟨lw_p22, List.forall_mem_cons.mpr ⟨lw_p23, List.forall_mem_cons.mpr ⟨lw_p24, List.forall_mem_cons.mpr ⟨lw_p25, List.forall_mem_cons.mpr ⟨lw_p26, List.forall_mem_cons.mpr ⟨lw_p27, List.forall_mem_cons.mpr ⟨lw_p28, List.forall_mem_cons.mpr ⟨lw_p29, fun _ h => absurd h List.not_mem_nil⟩⟩⟩⟩⟩⟩⟩⟩⟩⟩⟩⟩⟩⟩
def lw_privs : List (MethodName × Nat) := lw_privs_1 ++ (lw_privs_2)
def lw_tbl : List Cond := k2_sels lw_privs ++ tables_1
theorem lw_privs_ok : ∀ q ∈ lw_privs, lw_okq q := by
  show ∀ q ∈ lw_privs_1 ++ (lw_privs_2), lw_okq q
  exact List.forall_mem_append.mpr ⟨lw_r1, lw_r2⟩
end
section
/-! names: classes, fields, methods, the words of the tables, decode rows: written by program (tools/names.py) out of the Statement and javap -/
def RX0 : String := "StripedKeyVolume$Cipher"
def RX1 : String := "StripedKeyVolume$Disk"
def RX2 : String := "StripedKeyVolume$Slot"
def RX3 : String := "StripedKeyVolume"
def RX4 : String := "StripedKeyVolumeModel"
def RJ6 : String := "java/lang/Integer"
def RJ7 : String := "java/util/Arrays"
def RL : String := "StripedKeyVolumeLaw"
def TX1 : u_T := fun k => match k with
  | 0 => ("StripedKeyVolume$Disk", "words", "[I", true)
  | 1 => ("StripedKeyVolume$Disk", "writesDone", "I", false)
  | _ => ("StripedKeyVolume$Disk", "writesLeft", "I", false)
def tyX1 : Nat → FieldType := fun k => match k with
  | 0 => .array .int
  | 1 => .int
  | _ => .int
theorem nmX1 : ∀ a, a < 3 → ∀ b, b < 3 → a ≠ b → (TX1 a).2.1 ≠ (TX1 b).2.1 := by decide +kernel
theorem tyX1_ok : ∀ k, k < 3 → parseFieldDescriptor (TX1 k).2.2.1 = some (tyX1 k) := by decide +kernel
def TX3 : u_T := fun k => match k with
  | 0 => ("StripedKeyVolume", "disk", "LStripedKeyVolume$Disk;", true)
  | 1 => ("StripedKeyVolume", "fresh", "[I", true)
  | 2 => ("StripedKeyVolume", "device", "I", false)
  | 3 => ("StripedKeyVolume", "dataKey", "I", false)
  | _ => ("StripedKeyVolume", "placeKey", "I", false)
def tyX3 : Nat → FieldType := fun k => match k with
  | 0 => .object "StripedKeyVolume$Disk"
  | 1 => .array .int
  | 2 => .int
  | 3 => .int
  | _ => .int
theorem nmX3 : ∀ a, a < 5 → ∀ b, b < 5 → a ≠ b → (TX3 a).2.1 ≠ (TX3 b).2.1 := by decide +kernel
theorem tyX3_ok : ∀ k, k < 5 → parseFieldDescriptor (TX3 k).2.2.1 = some (tyX3 k) := by decide +kernel
def TX4 : u_T := fun k => match k with
  | 0 => ("StripedKeyVolumeModel", "disk", "[I", false)
  | 1 => ("StripedKeyVolumeModel", "left", "I", false)
  | 2 => ("StripedKeyVolumeModel", "done", "I", false)
  | 3 => ("StripedKeyVolumeModel", "device", "I", false)
  | 4 => ("StripedKeyVolumeModel", "keyA", "I", false)
  | 5 => ("StripedKeyVolumeModel", "keyB", "I", false)
  | 6 => ("StripedKeyVolumeModel", "planned", "I", false)
  | 7 => ("StripedKeyVolumeModel", "places", "[I", false)
  | 8 => ("StripedKeyVolumeModel", "words", "[I", false)
  | 9 => ("StripedKeyVolumeModel", "shadow", "[I", false)
  | 10 => ("StripedKeyVolumeModel", "fresh", "[I", false)
  | 11 => ("StripedKeyVolumeModel", "stripe", "[I", false)
  | 12 => ("StripedKeyVolumeModel", "openA", "I", false)
  | _ => ("StripedKeyVolumeModel", "openB", "I", false)
def tyX4 : Nat → FieldType := fun k => match k with
  | 0 => .array .int
  | 1 => .int
  | 2 => .int
  | 3 => .int
  | 4 => .int
  | 5 => .int
  | 6 => .int
  | 7 => .array .int
  | 8 => .array .int
  | 9 => .array .int
  | 10 => .array .int
  | 11 => .array .int
  | 12 => .int
  | _ => .int
theorem nmX4 : ∀ a, a < 14 → ∀ b, b < 14 → a ≠ b → (TX4 a).2.1 ≠ (TX4 b).2.1 := by decide +kernel
theorem tyX4_ok : ∀ k, k < 14 → parseFieldDescriptor (TX4 k).2.2.1 = some (tyX4 k) := by decide +kernel
abbrev vwCl : List vw_C := [(RX1, TX1, 3), (RX3, TX3, 5), (RX4, TX4, 14)]
def yX3_init : MethodName := ⟨RX3, "<init>", "()V"⟩
def yX1_init : MethodName := ⟨RX1, "<init>", "()V"⟩
def yX3_cut : MethodName := ⟨RX3, "cut", "(I)Z"⟩
def yX3_format : MethodName := ⟨RX3, "format", "(IIII)I"⟩
def yX3_workOutVolume : MethodName := ⟨RX3, "workOutVolume", "(IIII)V"⟩
def yJ7_fill : MethodName := ⟨RJ7, "fill", "([II)V"⟩
def yX0_mix : MethodName := ⟨RX0, "mix", "(II)I"⟩
def yX0_digest : MethodName := ⟨RX0, "digest", "(III)I"⟩
def yX3_slotPlace : MethodName := ⟨RX3, "slotPlace", "(I)I"⟩
def yX2_workOut : MethodName := ⟨RX2, "workOut", "([IIIIII)V"⟩
def yX2_workOutHalf : MethodName := ⟨RX2, "workOutHalf", "([IIIIII)V"⟩
def yX0_slotKey : MethodName := ⟨RX0, "slotKey", "(III)I"⟩
def yX2_mask : MethodName := ⟨RX2, "mask", "(III)I"⟩
def yX0_encipher : MethodName := ⟨RX0, "encipher", "(II)I"⟩
def yX0_roundMask : MethodName := ⟨RX0, "roundMask", "(III)I"⟩
def yX3_sectorPlace : MethodName := ⟨RX3, "sectorPlace", "(I)I"⟩
def yX0_encipherSectorWord : MethodName := ⟨RX0, "encipherSectorWord", "(IIIII)I"⟩
def yX0_tweak : MethodName := ⟨RX0, "tweak", "(III)I"⟩
def yX3_putVolume : MethodName := ⟨RX3, "putVolume", "()Z"⟩
def yX1_put : MethodName := ⟨RX1, "put", "(II)Z"⟩
def yX3_powerLost : MethodName := ⟨RX3, "powerLost", "()I"⟩
def yX3_holdNoKeys : MethodName := ⟨RX3, "holdNoKeys", "(I)V"⟩
def yX3_mount : MethodName := ⟨RX3, "mount", "()I"⟩
def yX1_wordAt : MethodName := ⟨RX1, "wordAt", "(I)I"⟩
def yX1_settleJournal : MethodName := ⟨RX1, "settleJournal", "()Z"⟩
def yX1_finishJournal : MethodName := ⟨RX1, "finishJournal", "()Z"⟩
def yX1_clearJournal : MethodName := ⟨RX1, "clearJournal", "()Z"⟩
def yX3_activeSlots : MethodName := ⟨RX3, "activeSlots", "()I"⟩
def yX3_slots : MethodName := ⟨RX3, "slots", "()I"⟩
def yX3_isActive : MethodName := ⟨RX3, "isActive", "(I)Z"⟩
def yJ6_bitCount : MethodName := ⟨RJ6, "bitCount", "(I)I"⟩
def yX3_unlock : MethodName := ⟨RX3, "unlock", "(I)I"⟩
def yX3_opensWith : MethodName := ⟨RX3, "opensWith", "(II)Z"⟩
def yX2_openHalf : MethodName := ⟨RX2, "openHalf", "(LStripedKeyVolume$Disk;III)I"⟩
def yX0_decipher : MethodName := ⟨RX0, "decipher", "(II)I"⟩
def yX3_lock : MethodName := ⟨RX3, "lock", "()I"⟩
def yX3_add : MethodName := ⟨RX3, "add", "(II)I"⟩
def yX3_refusalUnlessOpen : MethodName := ⟨RX3, "refusalUnlessOpen", "()I"⟩
def yX3_leastFreeSlot : MethodName := ⟨RX3, "leastFreeSlot", "()I"⟩
def yX3_fillSlot : MethodName := ⟨RX3, "fillSlot", "(III)Z"⟩
def yX1_replaceByJournal : MethodName := ⟨RX1, "replaceByJournal", "(II[I)Z"⟩
def yX3_change : MethodName := ⟨RX3, "change", "(III)I"⟩
def yX3_refusalOfSlot : MethodName := ⟨RX3, "refusalOfSlot", "(I)I"⟩
def yX3_revoke : MethodName := ⟨RX3, "revoke", "(I)I"⟩
def yX3_clearSlot : MethodName := ⟨RX3, "clearSlot", "(I)Z"⟩
def yX3_write : MethodName := ⟨RX3, "write", "(III)I"⟩
def yX3_refusalOfWord : MethodName := ⟨RX3, "refusalOfWord", "(II)I"⟩
def yX3_plainWord : MethodName := ⟨RX3, "plainWord", "(II)I"⟩
def yX0_decipherSectorWord : MethodName := ⟨RX0, "decipherSectorWord", "(IIIII)I"⟩
def yX3_read : MethodName := ⟨RX3, "read", "(II)J"⟩
def yX3_state : MethodName := ⟨RX3, "state", "()I"⟩
def yX3_peek : MethodName := ⟨RX3, "peek", "(I)I"⟩
def yX3_writes : MethodName := ⟨RX3, "writes", "()I"⟩
def yX4_init : MethodName := ⟨RX4, "<init>", "()V"⟩
def yX4_cut : MethodName := ⟨RX4, "cut", "(I)Z"⟩
def yX4_format : MethodName := ⟨RX4, "format", "(IIII)I"⟩
def yX4_begin : MethodName := ⟨RX4, "begin", "()V"⟩
def yX4_h : MethodName := ⟨RX4, "h", "(II)I"⟩
def yX4_digest : MethodName := ⟨RX4, "digest", "(III)I"⟩
def yX4_makeSlot : MethodName := ⟨RX4, "makeSlot", "(IIII)V"⟩
def yX4_cover : MethodName := ⟨RX4, "cover", "(I)I"⟩
def yX4_slotKey : MethodName := ⟨RX4, "slotKey", "(III)I"⟩
def yX4_enc : MethodName := ⟨RX4, "enc", "(II)I"⟩
def yX4_round : MethodName := ⟨RX4, "round", "(III)I"⟩
def yX4_hide : MethodName := ⟨RX4, "hide", "(IIIII)I"⟩
def yX4_mask : MethodName := ⟨RX4, "mask", "(III)I"⟩
def yX4_plan : MethodName := ⟨RX4, "plan", "(II)V"⟩
def yX4_perform : MethodName := ⟨RX4, "perform", "()Z"⟩
def yX4_mount : MethodName := ⟨RX4, "mount", "()I"⟩
def yX4_planFinish : MethodName := ⟨RX4, "planFinish", "()V"⟩
def yX4_planClean : MethodName := ⟨RX4, "planClean", "()V"⟩
def yX4_count : MethodName := ⟨RX4, "count", "()I"⟩
def yX4_active : MethodName := ⟨RX4, "active", "(I)Z"⟩
def yX4_unlock : MethodName := ⟨RX4, "unlock", "(I)I"⟩
def yX4_opens : MethodName := ⟨RX4, "opens", "(II)Z"⟩
def yX4_dec : MethodName := ⟨RX4, "dec", "(II)I"⟩
def yX4_lock : MethodName := ⟨RX4, "lock", "()I"⟩
def yX4_add : MethodName := ⟨RX4, "add", "(II)I"⟩
def yX4_closed : MethodName := ⟨RX4, "closed", "()I"⟩
def yX4_planChange : MethodName := ⟨RX4, "planChange", "(II)V"⟩
def yX4_change : MethodName := ⟨RX4, "change", "(III)I"⟩
def yX4_badSlot : MethodName := ⟨RX4, "badSlot", "(I)I"⟩
def yX4_revoke : MethodName := ⟨RX4, "revoke", "(I)I"⟩
def yX4_write : MethodName := ⟨RX4, "write", "(III)I"⟩
def yX4_badWord : MethodName := ⟨RX4, "badWord", "(II)I"⟩
def yX4_show : MethodName := ⟨RX4, "show", "(IIIII)I"⟩
def yX4_read : MethodName := ⟨RX4, "read", "(II)J"⟩
def yX4_state : MethodName := ⟨RX4, "state", "()I"⟩
def yX4_slots : MethodName := ⟨RX4, "slots", "()I"⟩
def yX4_peek : MethodName := ⟨RX4, "peek", "(I)I"⟩
def yX4_writes : MethodName := ⟨RX4, "writes", "()I"⟩
abbrev cX3_init : ByteArray := prog_1_method_1_code
abbrev cX1_init : ByteArray := prog_3_method_1_code
abbrev cX3_cut : ByteArray := prog_1_method_2_code
abbrev cX3_format : ByteArray := prog_1_method_3_code
abbrev cX3_workOutVolume : ByteArray := prog_1_method_21_code
abbrev cJ7_fill : ByteArray := prog_8_method_103_code
abbrev cX0_mix : ByteArray := prog_2_method_2_code
abbrev cX0_digest : ByteArray := prog_2_method_7_code
abbrev cX3_slotPlace : ByteArray := prog_1_method_30_code
abbrev cX2_workOut : ByteArray := prog_4_method_2_code
abbrev cX2_workOutHalf : ByteArray := prog_4_method_3_code
abbrev cX0_slotKey : ByteArray := prog_2_method_6_code
abbrev cX2_mask : ByteArray := prog_4_method_5_code
abbrev cX0_encipher : ByteArray := prog_2_method_3_code
abbrev cX0_roundMask : ByteArray := prog_2_method_5_code
abbrev cX3_sectorPlace : ByteArray := prog_1_method_31_code
abbrev cX0_encipherSectorWord : ByteArray := prog_2_method_8_code
abbrev cX0_tweak : ByteArray := prog_2_method_10_code
abbrev cX3_putVolume : ByteArray := prog_1_method_22_code
abbrev cX1_put : ByteArray := prog_3_method_3_code
abbrev cX3_powerLost : ByteArray := prog_1_method_16_code
abbrev cX3_holdNoKeys : ByteArray := prog_1_method_17_code
abbrev cX3_mount : ByteArray := prog_1_method_4_code
abbrev cX1_wordAt : ByteArray := prog_3_method_2_code
abbrev cX1_settleJournal : ByteArray := prog_3_method_5_code
abbrev cX1_finishJournal : ByteArray := prog_3_method_6_code
abbrev cX1_clearJournal : ByteArray := prog_3_method_7_code
abbrev cX3_activeSlots : ByteArray := prog_1_method_27_code
abbrev cX3_slots : ByteArray := prog_1_method_13_code
abbrev cX3_isActive : ByteArray := prog_1_method_26_code
abbrev cJ6_bitCount : ByteArray := prog_7_method_49_code
abbrev cX3_unlock : ByteArray := prog_1_method_5_code
abbrev cX3_opensWith : ByteArray := prog_1_method_23_code
abbrev cX2_openHalf : ByteArray := prog_4_method_4_code
abbrev cX0_decipher : ByteArray := prog_2_method_4_code
abbrev cX3_lock : ByteArray := prog_1_method_6_code
abbrev cX3_add : ByteArray := prog_1_method_7_code
abbrev cX3_refusalUnlessOpen : ByteArray := prog_1_method_18_code
abbrev cX3_leastFreeSlot : ByteArray := prog_1_method_28_code
abbrev cX3_fillSlot : ByteArray := prog_1_method_24_code
abbrev cX1_replaceByJournal : ByteArray := prog_3_method_4_code
abbrev cX3_change : ByteArray := prog_1_method_8_code
abbrev cX3_refusalOfSlot : ByteArray := prog_1_method_19_code
abbrev cX3_revoke : ByteArray := prog_1_method_9_code
abbrev cX3_clearSlot : ByteArray := prog_1_method_25_code
abbrev cX3_write : ByteArray := prog_1_method_10_code
abbrev cX3_refusalOfWord : ByteArray := prog_1_method_20_code
abbrev cX3_plainWord : ByteArray := prog_1_method_29_code
abbrev cX0_decipherSectorWord : ByteArray := prog_2_method_9_code
abbrev cX3_read : ByteArray := prog_1_method_11_code
abbrev cX3_state : ByteArray := prog_1_method_12_code
abbrev cX3_peek : ByteArray := prog_1_method_14_code
abbrev cX3_writes : ByteArray := prog_1_method_15_code
abbrev cX4_init : ByteArray := prog_6_method_1_code
abbrev cX4_cut : ByteArray := prog_6_method_22_code
abbrev cX4_format : ByteArray := prog_6_method_23_code
abbrev cX4_begin : ByteArray := prog_6_method_16_code
abbrev cX4_h : ByteArray := prog_6_method_2_code
abbrev cX4_digest : ByteArray := prog_6_method_10_code
abbrev cX4_makeSlot : ByteArray := prog_6_method_12_code
abbrev cX4_cover : ByteArray := prog_6_method_11_code
abbrev cX4_slotKey : ByteArray := prog_6_method_6_code
abbrev cX4_enc : ByteArray := prog_6_method_4_code
abbrev cX4_round : ByteArray := prog_6_method_3_code
abbrev cX4_hide : ByteArray := prog_6_method_8_code
abbrev cX4_mask : ByteArray := prog_6_method_7_code
abbrev cX4_plan : ByteArray := prog_6_method_17_code
abbrev cX4_perform : ByteArray := prog_6_method_21_code
abbrev cX4_mount : ByteArray := prog_6_method_24_code
abbrev cX4_planFinish : ByteArray := prog_6_method_19_code
abbrev cX4_planClean : ByteArray := prog_6_method_18_code
abbrev cX4_count : ByteArray := prog_6_method_15_code
abbrev cX4_active : ByteArray := prog_6_method_13_code
abbrev cX4_unlock : ByteArray := prog_6_method_25_code
abbrev cX4_opens : ByteArray := prog_6_method_14_code
abbrev cX4_dec : ByteArray := prog_6_method_5_code
abbrev cX4_lock : ByteArray := prog_6_method_26_code
abbrev cX4_add : ByteArray := prog_6_method_28_code
abbrev cX4_closed : ByteArray := prog_6_method_27_code
abbrev cX4_planChange : ByteArray := prog_6_method_20_code
abbrev cX4_change : ByteArray := prog_6_method_30_code
abbrev cX4_badSlot : ByteArray := prog_6_method_29_code
abbrev cX4_revoke : ByteArray := prog_6_method_31_code
abbrev cX4_write : ByteArray := prog_6_method_33_code
abbrev cX4_badWord : ByteArray := prog_6_method_32_code
abbrev cX4_show : ByteArray := prog_6_method_9_code
abbrev cX4_read : ByteArray := prog_6_method_34_code
abbrev cX4_state : ByteArray := prog_6_method_35_code
abbrev cX4_slots : ByteArray := prog_6_method_36_code
abbrev cX4_peek : ByteArray := prog_6_method_37_code
abbrev cX4_writes : ByteArray := prog_6_method_38_code
def kn_t0 : List Cond := [Cond.initialized RL, Cond.initialized RX3, Cond.initialized RX1, Cond.initialized RX4, Cond.initialized RJ7, Cond.initialized RX0, Cond.initialized RX2, Cond.initialized RJ6, Cond.classLink RL 7 RX3, Cond.instantiable RX3 5, Cond.methodLink RL 9 yX3_init, Cond.instanceMethod yX3_init, Cond.code yX3_init cX3_init 1 none, Cond.methodLink RX3 1 objectInit, Cond.instanceMethod objectInit, Cond.code objectInit ⟨#[0xb1]⟩ 1 none, Cond.classLink RX3 7 RX1, Cond.instantiable RX1 3, Cond.methodLink RX3 9 yX1_init, Cond.instanceMethod yX1_init, Cond.code yX1_init cX1_init 1 none, Cond.methodLink RX1 1 objectInit, Cond.fieldLink RX1 9 "StripedKeyVolume$Disk" "words" "[I", Cond.fieldLink RX1 17 "StripedKeyVolume$Disk" "writesDone" "I", Cond.fieldLink RX1 13 "StripedKeyVolume$Disk" "writesLeft" "I", Cond.laysFinal RX1 "StripedKeyVolume$Disk" "words" "[I", Cond.lays RX1 "StripedKeyVolume$Disk" "writesDone" "I", Cond.lays RX1 "StripedKeyVolume$Disk" "writesLeft" "I", Cond.arrayClass .int, Cond.fieldLink RX3 10 "StripedKeyVolume" "disk" "LStripedKeyVolume$Disk;", Cond.fieldLink RX3 16 "StripedKeyVolume" "fresh" "[I", Cond.fieldLink RX3 20 "StripedKeyVolume" "device" "I"]
def kn_t1 : List Cond := [Cond.fieldLink RX3 85 "StripedKeyVolume" "dataKey" "I", Cond.fieldLink RX3 88 "StripedKeyVolume" "placeKey" "I", Cond.laysFinal RX3 "StripedKeyVolume" "disk" "LStripedKeyVolume$Disk;", Cond.laysFinal RX3 "StripedKeyVolume" "fresh" "[I", Cond.lays RX3 "StripedKeyVolume" "device" "I", Cond.lays RX3 "StripedKeyVolume" "dataKey" "I", Cond.lays RX3 "StripedKeyVolume" "placeKey" "I", Cond.methodLink RL 13 yX3_cut, Cond.instanceMethod yX3_cut, Cond.selects RX3 yX3_cut yX3_cut, Cond.code yX3_cut cX3_cut 2 (some .boolean), Cond.methodLink RL 18 yX3_format, Cond.instanceMethod yX3_format, Cond.selects RX3 yX3_format yX3_format, Cond.code yX3_format cX3_format 5 (some .int), Cond.methodLink RX3 27 yX3_workOutVolume, Cond.instanceMethod yX3_workOutVolume, Cond.code yX3_workOutVolume cX3_workOutVolume 8 none, Cond.methodLink RX3 109 yJ7_fill, Cond.static yJ7_fill, Cond.code yJ7_fill cJ7_fill 4 none, Cond.methodLink RX3 115 yX0_mix, Cond.static yX0_mix, Cond.code yX0_mix cX0_mix 3 (some .int), Cond.constant RX0 7 1517746329, Cond.constant RX0 8 916191069, Cond.constant RX0 9 1406938949, Cond.methodLink RX3 118 yX0_digest, Cond.static yX0_digest, Cond.code yX0_digest cX0_digest 3 (some .int), Cond.methodLink RX0 17 yX0_mix, Cond.methodLink RX3 122 yX3_slotPlace]
def kn_t2 : List Cond := [Cond.static yX3_slotPlace, Cond.code yX3_slotPlace cX3_slotPlace 1 (some .int), Cond.methodLink RX3 125 yX2_workOut, Cond.static yX2_workOut, Cond.code yX2_workOut cX2_workOut 6 none, Cond.methodLink RX2 11 yX0_mix, Cond.methodLink RX2 17 yX2_workOutHalf, Cond.static yX2_workOutHalf, Cond.code yX2_workOutHalf cX2_workOutHalf 11 none, Cond.methodLink RX2 21 yX0_slotKey, Cond.static yX0_slotKey, Cond.code yX0_slotKey cX0_slotKey 6 (some .int), Cond.methodLink RX2 25 yX2_mask, Cond.static yX2_mask, Cond.code yX2_mask cX2_mask 3 (some .int), Cond.methodLink RX2 28 yX0_encipher, Cond.static yX0_encipher, Cond.code yX0_encipher cX0_encipher 6 (some .int), Cond.constant RX0 12 65535, Cond.methodLink RX0 13 yX0_roundMask, Cond.static yX0_roundMask, Cond.code yX0_roundMask cX0_roundMask 3 (some .int), Cond.methodLink RX3 97 yX3_sectorPlace, Cond.static yX3_sectorPlace, Cond.code yX3_sectorPlace cX3_sectorPlace 1 (some .int), Cond.methodLink RX3 91 yX0_encipherSectorWord, Cond.static yX0_encipherSectorWord, Cond.code yX0_encipherSectorWord cX0_encipherSectorWord 6 (some .int), Cond.methodLink RX0 21 yX0_tweak, Cond.static yX0_tweak, Cond.code yX0_tweak cX0_tweak 5 (some .int), Cond.methodLink RX0 24 yX0_encipher]
def kn_t3 : List Cond := [Cond.methodLink RX3 31 yX3_putVolume, Cond.instanceMethod yX3_putVolume, Cond.code yX3_putVolume cX3_putVolume 2 (some .boolean), Cond.methodLink RX3 131 yX1_put, Cond.instanceMethod yX1_put, Cond.selects RX1 yX1_put yX1_put, Cond.code yX1_put cX1_put 3 (some .boolean), Cond.constant RX3 47 1396855379, Cond.methodLink RX3 35 yX3_powerLost, Cond.instanceMethod yX3_powerLost, Cond.code yX3_powerLost cX3_powerLost 1 (some .int), Cond.methodLink RX3 39 yX3_holdNoKeys, Cond.instanceMethod yX3_holdNoKeys, Cond.code yX3_holdNoKeys cX3_holdNoKeys 2 none, Cond.methodLink RL 23 yX3_mount, Cond.instanceMethod yX3_mount, Cond.selects RX3 yX3_mount yX3_mount, Cond.code yX3_mount cX3_mount 1 (some .int), Cond.methodLink RX3 43 yX1_wordAt, Cond.instanceMethod yX1_wordAt, Cond.selects RX1 yX1_wordAt yX1_wordAt, Cond.code yX1_wordAt cX1_wordAt 2 (some .int), Cond.methodLink RX3 48 yX1_settleJournal, Cond.instanceMethod yX1_settleJournal, Cond.selects RX1 yX1_settleJournal yX1_settleJournal, Cond.code yX1_settleJournal cX1_settleJournal 1 (some .boolean), Cond.methodLink RX1 28 yX1_wordAt, Cond.methodLink RX1 24 yX1_finishJournal, Cond.instanceMethod yX1_finishJournal, Cond.code yX1_finishJournal cX1_finishJournal 4 (some .boolean), Cond.methodLink RX1 20 yX1_put, Cond.methodLink RX1 32 yX1_clearJournal]
def kn_t4 : List Cond := [Cond.instanceMethod yX1_clearJournal, Cond.code yX1_clearJournal cX1_clearJournal 2 (some .boolean), Cond.methodLink RX3 51 yX3_activeSlots, Cond.instanceMethod yX3_activeSlots, Cond.code yX3_activeSlots cX3_activeSlots 1 (some .int), Cond.methodLink RX3 138 yX3_slots, Cond.instanceMethod yX3_slots, Cond.selects RX3 yX3_slots yX3_slots, Cond.code yX3_slots cX3_slots 3 (some .int), Cond.methodLink RX3 54 yX3_isActive, Cond.instanceMethod yX3_isActive, Cond.code yX3_isActive cX3_isActive 2 (some .boolean), Cond.methodLink RX3 141 yJ6_bitCount, Cond.static yJ6_bitCount, Cond.code yJ6_bitCount cJ6_bitCount 1 (some .int), Cond.constant RJ6 265 1431655765, Cond.constant RJ6 266 858993459, Cond.constant RJ6 267 252645135, Cond.methodLink RL 28 yX3_unlock, Cond.instanceMethod yX3_unlock, Cond.selects RX3 yX3_unlock yX3_unlock, Cond.code yX3_unlock cX3_unlock 3 (some .int), Cond.methodLink RX3 58 yX3_opensWith, Cond.instanceMethod yX3_opensWith, Cond.code yX3_opensWith cX3_opensWith 6 (some .boolean), Cond.methodLink RX3 134 yX2_openHalf, Cond.static yX2_openHalf, Cond.code yX2_openHalf cX2_openHalf 9 (some .int), Cond.methodLink RX2 31 yX1_wordAt, Cond.methodLink RX2 37 yX0_decipher, Cond.static yX0_decipher, Cond.code yX0_decipher cX0_decipher 6 (some .int)]
def kn_t5 : List Cond := [Cond.methodLink RL 33 yX3_lock, Cond.instanceMethod yX3_lock, Cond.selects RX3 yX3_lock yX3_lock, Cond.code yX3_lock cX3_lock 2 (some .int), Cond.methodLink RL 37 yX3_add, Cond.instanceMethod yX3_add, Cond.selects RX3 yX3_add yX3_add, Cond.code yX3_add cX3_add 5 (some .int), Cond.methodLink RX3 62 yX3_refusalUnlessOpen, Cond.instanceMethod yX3_refusalUnlessOpen, Cond.code yX3_refusalUnlessOpen cX3_refusalUnlessOpen 1 (some .int), Cond.methodLink RX3 65 yX3_leastFreeSlot, Cond.instanceMethod yX3_leastFreeSlot, Cond.code yX3_leastFreeSlot cX3_leastFreeSlot 2 (some .int), Cond.methodLink RX3 68 yX3_fillSlot, Cond.instanceMethod yX3_fillSlot, Cond.code yX3_fillSlot cX3_fillSlot 4 (some .boolean), Cond.methodLink RX3 100 yX1_replaceByJournal, Cond.instanceMethod yX1_replaceByJournal, Cond.selects RX1 yX1_replaceByJournal yX1_replaceByJournal, Cond.code yX1_replaceByJournal cX1_replaceByJournal 5 (some .boolean), Cond.methodLink RL 42 yX3_change, Cond.instanceMethod yX3_change, Cond.selects RX3 yX3_change yX3_change, Cond.code yX3_change cX3_change 5 (some .int), Cond.methodLink RX3 72 yX3_refusalOfSlot, Cond.instanceMethod yX3_refusalOfSlot, Cond.code yX3_refusalOfSlot cX3_refusalOfSlot 3 (some .int), Cond.methodLink RL 47 yX3_revoke, Cond.instanceMethod yX3_revoke, Cond.selects RX3 yX3_revoke yX3_revoke, Cond.code yX3_revoke cX3_revoke 3 (some .int)]
def kn_t6 : List Cond := [Cond.methodLink RX3 75 yX3_clearSlot, Cond.instanceMethod yX3_clearSlot, Cond.code yX3_clearSlot cX3_clearSlot 2 (some .boolean), Cond.methodLink RL 51 yX3_write, Cond.instanceMethod yX3_write, Cond.selects RX3 yX3_write yX3_write, Cond.code yX3_write cX3_write 7 (some .int), Cond.methodLink RX3 78 yX3_refusalOfWord, Cond.instanceMethod yX3_refusalOfWord, Cond.code yX3_refusalOfWord cX3_refusalOfWord 5 (some .int), Cond.methodLink RX3 82 yX3_plainWord, Cond.instanceMethod yX3_plainWord, Cond.code yX3_plainWord cX3_plainWord 4 (some .int), Cond.methodLink RX3 146 yX0_decipherSectorWord, Cond.static yX0_decipherSectorWord, Cond.code yX0_decipherSectorWord cX0_decipherSectorWord 6 (some .int), Cond.methodLink RX0 27 yX0_decipher, Cond.methodLink RL 55 yX3_read, Cond.instanceMethod yX3_read, Cond.selects RX3 yX3_read yX3_read, Cond.code yX3_read cX3_read 4 (some .long), Cond.constantLong RX3 104 4294967295, Cond.methodLink RL 60 yX3_state, Cond.instanceMethod yX3_state, Cond.selects RX3 yX3_state yX3_state, Cond.code yX3_state cX3_state 1 (some .int), Cond.methodLink RL 64 yX3_slots, Cond.methodLink RL 68 yX3_peek, Cond.instanceMethod yX3_peek, Cond.selects RX3 yX3_peek yX3_peek, Cond.code yX3_peek cX3_peek 2 (some .int), Cond.methodLink RL 72 yX3_writes]
def kn_t7 : List Cond := [Cond.instanceMethod yX3_writes, Cond.selects RX3 yX3_writes yX3_writes, Cond.code yX3_writes cX3_writes 1 (some .int), Cond.classLink RL 10 RX4, Cond.instantiable RX4 14, Cond.methodLink RL 12 yX4_init, Cond.instanceMethod yX4_init, Cond.code yX4_init cX4_init 1 none, Cond.methodLink RX4 1 objectInit, Cond.fieldLink RX4 7 "StripedKeyVolumeModel" "disk" "[I", Cond.fieldLink RX4 13 "StripedKeyVolumeModel" "left" "I", Cond.fieldLink RX4 92 "StripedKeyVolumeModel" "done" "I", Cond.fieldLink RX4 89 "StripedKeyVolumeModel" "device" "I", Cond.fieldLink RX4 116 "StripedKeyVolumeModel" "keyA" "I", Cond.fieldLink RX4 119 "StripedKeyVolumeModel" "keyB" "I", Cond.fieldLink RX4 73 "StripedKeyVolumeModel" "planned" "I", Cond.fieldLink RX4 17 "StripedKeyVolumeModel" "places" "[I", Cond.fieldLink RX4 20 "StripedKeyVolumeModel" "words" "[I", Cond.fieldLink RX4 23 "StripedKeyVolumeModel" "shadow" "[I", Cond.fieldLink RX4 26 "StripedKeyVolumeModel" "fresh" "[I", Cond.fieldLink RX4 29 "StripedKeyVolumeModel" "stripe" "[I", Cond.fieldLink RX4 60 "StripedKeyVolumeModel" "openA" "I", Cond.fieldLink RX4 63 "StripedKeyVolumeModel" "openB" "I", Cond.lays RX4 "StripedKeyVolumeModel" "disk" "[I", Cond.lays RX4 "StripedKeyVolumeModel" "left" "I", Cond.lays RX4 "StripedKeyVolumeModel" "done" "I", Cond.lays RX4 "StripedKeyVolumeModel" "device" "I", Cond.lays RX4 "StripedKeyVolumeModel" "keyA" "I", Cond.lays RX4 "StripedKeyVolumeModel" "keyB" "I", Cond.lays RX4 "StripedKeyVolumeModel" "planned" "I", Cond.lays RX4 "StripedKeyVolumeModel" "places" "[I", Cond.lays RX4 "StripedKeyVolumeModel" "words" "[I"]
def kn_t8 : List Cond := [Cond.lays RX4 "StripedKeyVolumeModel" "shadow" "[I", Cond.lays RX4 "StripedKeyVolumeModel" "fresh" "[I", Cond.lays RX4 "StripedKeyVolumeModel" "stripe" "[I", Cond.lays RX4 "StripedKeyVolumeModel" "openA" "I", Cond.lays RX4 "StripedKeyVolumeModel" "openB" "I", Cond.methodLink RL 17 yX4_cut, Cond.instanceMethod yX4_cut, Cond.selects RX4 yX4_cut yX4_cut, Cond.code yX4_cut cX4_cut 2 (some .boolean), Cond.methodLink RL 22 yX4_format, Cond.instanceMethod yX4_format, Cond.selects RX4 yX4_format yX4_format, Cond.code yX4_format cX4_format 7 (some .int), Cond.methodLink RX4 83 yX4_begin, Cond.instanceMethod yX4_begin, Cond.code yX4_begin cX4_begin 2 none, Cond.methodLink RX4 35 yX4_h, Cond.static yX4_h, Cond.code yX4_h cX4_h 3 (some .int), Cond.constant RX4 32 1517746329, Cond.constant RX4 33 916191069, Cond.constant RX4 34 1406938949, Cond.methodLink RX4 70 yX4_digest, Cond.static yX4_digest, Cond.code yX4_digest cX4_digest 4 (some .int), Cond.methodLink RX4 95 yX4_makeSlot, Cond.instanceMethod yX4_makeSlot, Cond.code yX4_makeSlot cX4_makeSlot 8 none, Cond.methodLink RX4 53 yX4_cover, Cond.instanceMethod yX4_cover, Cond.code yX4_cover cX4_cover 3 (some .int), Cond.methodLink RX4 57 yX4_slotKey]
def kn_t9 : List Cond := [Cond.static yX4_slotKey, Cond.code yX4_slotKey cX4_slotKey 6 (some .int), Cond.methodLink RX4 44 yX4_enc, Cond.static yX4_enc, Cond.code yX4_enc cX4_enc 6 (some .int), Cond.constant RX4 39 65535, Cond.methodLink RX4 40 yX4_round, Cond.static yX4_round, Cond.code yX4_round cX4_round 4 (some .int), Cond.methodLink RX4 99 yX4_hide, Cond.static yX4_hide, Cond.code yX4_hide cX4_hide 6 (some .int), Cond.methodLink RX4 47 yX4_mask, Cond.static yX4_mask, Cond.code yX4_mask cX4_mask 5 (some .int), Cond.methodLink RX4 76 yX4_plan, Cond.instanceMethod yX4_plan, Cond.code yX4_plan cX4_plan 3 none, Cond.constant RX4 103 1396855379, Cond.methodLink RX4 104 yX4_perform, Cond.instanceMethod yX4_perform, Cond.code yX4_perform cX4_perform 2 (some .boolean), Cond.methodLink RL 27 yX4_mount, Cond.instanceMethod yX4_mount, Cond.selects RX4 yX4_mount yX4_mount, Cond.code yX4_mount cX4_mount 1 (some .int), Cond.methodLink RX4 86 yX4_planFinish, Cond.instanceMethod yX4_planFinish, Cond.code yX4_planFinish cX4_planFinish 4 none, Cond.methodLink RX4 80 yX4_planClean, Cond.instanceMethod yX4_planClean, Cond.code yX4_planClean cX4_planClean 2 none]
def kn_t10 : List Cond := [Cond.methodLink RX4 108 yX4_count, Cond.instanceMethod yX4_count, Cond.code yX4_count cX4_count 3 (some .int), Cond.methodLink RX4 66 yX4_active, Cond.instanceMethod yX4_active, Cond.code yX4_active cX4_active 2 (some .boolean), Cond.methodLink RL 32 yX4_unlock, Cond.instanceMethod yX4_unlock, Cond.selects RX4 yX4_unlock yX4_unlock, Cond.code yX4_unlock cX4_unlock 3 (some .int), Cond.methodLink RX4 112 yX4_opens, Cond.instanceMethod yX4_opens, Cond.code yX4_opens cX4_opens 6 (some .boolean), Cond.methodLink RX4 50 yX4_dec, Cond.static yX4_dec, Cond.code yX4_dec cX4_dec 6 (some .int), Cond.methodLink RL 36 yX4_lock, Cond.instanceMethod yX4_lock, Cond.selects RX4 yX4_lock yX4_lock, Cond.code yX4_lock cX4_lock 2 (some .int), Cond.methodLink RL 41 yX4_add, Cond.instanceMethod yX4_add, Cond.selects RX4 yX4_add yX4_add, Cond.code yX4_add cX4_add 4 (some .int), Cond.methodLink RX4 122 yX4_closed, Cond.instanceMethod yX4_closed, Cond.code yX4_closed cX4_closed 1 (some .int), Cond.methodLink RX4 125 yX4_planChange, Cond.instanceMethod yX4_planChange, Cond.code yX4_planChange cX4_planChange 4 none, Cond.methodLink RL 46 yX4_change, Cond.instanceMethod yX4_change]
def kn_t11 : List Cond := [Cond.selects RX4 yX4_change yX4_change, Cond.code yX4_change cX4_change 4 (some .int), Cond.methodLink RX4 128 yX4_badSlot, Cond.instanceMethod yX4_badSlot, Cond.code yX4_badSlot cX4_badSlot 2 (some .int), Cond.methodLink RL 50 yX4_revoke, Cond.instanceMethod yX4_revoke, Cond.selects RX4 yX4_revoke yX4_revoke, Cond.code yX4_revoke cX4_revoke 3 (some .int), Cond.methodLink RL 54 yX4_write, Cond.instanceMethod yX4_write, Cond.selects RX4 yX4_write yX4_write, Cond.code yX4_write cX4_write 6 (some .int), Cond.methodLink RX4 131 yX4_badWord, Cond.instanceMethod yX4_badWord, Cond.code yX4_badWord cX4_badWord 3 (some .int), Cond.methodLink RX4 134 yX4_show, Cond.static yX4_show, Cond.code yX4_show cX4_show 6 (some .int), Cond.methodLink RL 59 yX4_read, Cond.instanceMethod yX4_read, Cond.selects RX4 yX4_read yX4_read, Cond.code yX4_read cX4_read 4 (some .long), Cond.constantLong RX4 137 4294967296, Cond.methodLink RL 63 yX4_state, Cond.instanceMethod yX4_state, Cond.selects RX4 yX4_state yX4_state, Cond.code yX4_state cX4_state 1 (some .int), Cond.methodLink RL 67 yX4_slots, Cond.instanceMethod yX4_slots, Cond.selects RX4 yX4_slots yX4_slots, Cond.code yX4_slots cX4_slots 3 (some .int)]
def kn_t12 : List Cond := [Cond.methodLink RL 71 yX4_peek, Cond.instanceMethod yX4_peek, Cond.selects RX4 yX4_peek yX4_peek, Cond.code yX4_peek cX4_peek 2 (some .int), Cond.methodLink RL 75 yX4_writes, Cond.instanceMethod yX4_writes, Cond.selects RX4 yX4_writes yX4_writes, Cond.code yX4_writes cX4_writes 1 (some .int), Cond.selects RX3 yX3_workOutVolume yX3_workOutVolume, Cond.selects RX3 yX3_putVolume yX3_putVolume, Cond.selects RX3 yX3_powerLost yX3_powerLost, Cond.selects RX3 yX3_holdNoKeys yX3_holdNoKeys, Cond.selects RX1 yX1_finishJournal yX1_finishJournal, Cond.selects RX1 yX1_clearJournal yX1_clearJournal, Cond.selects RX3 yX3_activeSlots yX3_activeSlots, Cond.selects RX3 yX3_isActive yX3_isActive, Cond.selects RX3 yX3_opensWith yX3_opensWith, Cond.selects RX3 yX3_refusalUnlessOpen yX3_refusalUnlessOpen, Cond.selects RX3 yX3_leastFreeSlot yX3_leastFreeSlot, Cond.selects RX3 yX3_fillSlot yX3_fillSlot, Cond.selects RX3 yX3_refusalOfSlot yX3_refusalOfSlot, Cond.selects RX3 yX3_clearSlot yX3_clearSlot, Cond.selects RX3 yX3_refusalOfWord yX3_refusalOfWord, Cond.selects RX3 yX3_plainWord yX3_plainWord, Cond.selects RX4 yX4_begin yX4_begin, Cond.selects RX4 yX4_makeSlot yX4_makeSlot, Cond.selects RX4 yX4_cover yX4_cover, Cond.selects RX4 yX4_plan yX4_plan, Cond.selects RX4 yX4_perform yX4_perform, Cond.selects RX4 yX4_planFinish yX4_planFinish, Cond.selects RX4 yX4_planClean yX4_planClean, Cond.selects RX4 yX4_count yX4_count]
def kn_t13 : List Cond := [Cond.selects RX4 yX4_active yX4_active, Cond.selects RX4 yX4_opens yX4_opens, Cond.selects RX4 yX4_closed yX4_closed, Cond.selects RX4 yX4_planChange yX4_planChange, Cond.selects RX4 yX4_badSlot yX4_badSlot, Cond.selects RX4 yX4_badWord yX4_badWord]
def kn_T : List Cond := kn_t0 ++ (kn_t1 ++ (kn_t2 ++ (kn_t3 ++ (kn_t4 ++ (kn_t5 ++ (kn_t6 ++ (kn_t7 ++ (kn_t8 ++ (kn_t9 ++ (kn_t10 ++ (kn_t11 ++ (kn_t12 ++ (kn_t13)))))))))))))
theorem kn_pl {big : List Cond} (ws : List Cond) (ps : List Nat) (hp : ws = ps.filterMap (fun i => big[i]?)) : ∀ w ∈ ws, w ∈ big := by
  intro w hw
  rw [hp] at hw
  obtain ⟨i, -, hi⟩ := List.mem_filterMap.mp hw
  exact List.mem_of_getElem? hi
theorem kn_b0 : ∀ w ∈ kn_t0, w ∈ lw_tbl := kn_pl kn_t0 [30, 31, 32, 33, 34, 35, 36, 37, 38, 39, 40, 41, 42, 43, 44, 45, 46, 47, 48, 49, 50, 51, 52, 53, 55, 57, 59, 61, 64, 65, 66, 67] (by decide +kernel)
theorem kn_g0 : kn_t0.all goodWord = true := by decide +kernel
theorem kn_b1 : ∀ w ∈ kn_t1, w ∈ lw_tbl := kn_pl kn_t1 [68, 69, 70, 72, 74, 76, 78, 81, 82, 83, 84, 85, 86, 87, 88, 89, 91, 92, 93, 94, 95, 96, 97, 98, 99, 100, 101, 102, 103, 104, 105, 106] (by decide +kernel)
theorem kn_g1 : kn_t1.all goodWord = true := by decide +kernel
theorem kn_b2 : ∀ w ∈ kn_t2, w ∈ lw_tbl := kn_pl kn_t2 [107, 108, 109, 110, 111, 112, 113, 114, 115, 116, 117, 118, 119, 120, 121, 122, 123, 124, 125, 126, 127, 128, 129, 130, 131, 132, 133, 134, 135, 136, 137, 138] (by decide +kernel)
theorem kn_g2 : kn_t2.all goodWord = true := by decide +kernel
theorem kn_b3 : ∀ w ∈ kn_t3, w ∈ lw_tbl := kn_pl kn_t3 [139, 141, 142, 143, 144, 145, 146, 147, 148, 150, 151, 152, 154, 155, 156, 157, 158, 159, 160, 161, 162, 163, 164, 165, 166, 167, 168, 169, 171, 172, 173, 174] (by decide +kernel)
theorem kn_g3 : kn_t3.all goodWord = true := by decide +kernel
theorem kn_b4 : ∀ w ∈ kn_t4, w ∈ lw_tbl := kn_pl kn_t4 [176, 177, 178, 180, 181, 182, 183, 184, 185, 186, 188, 189, 190, 191, 192, 193, 194, 195, 196, 197, 198, 199, 200, 202, 203, 204, 205, 206, 207, 208, 209, 210] (by decide +kernel)
theorem kn_g4 : kn_t4.all goodWord = true := by decide +kernel
theorem kn_b5 : ∀ w ∈ kn_t5, w ∈ lw_tbl := kn_pl kn_t5 [211, 212, 213, 214, 215, 216, 217, 218, 219, 221, 222, 223, 225, 226, 227, 229, 230, 231, 232, 233, 234, 235, 236, 237, 238, 239, 241, 242, 243, 244, 245, 246] (by decide +kernel)
theorem kn_g5 : kn_t5.all goodWord = true := by decide +kernel
theorem kn_b6 : ∀ w ∈ kn_t6, w ∈ lw_tbl := kn_pl kn_t6 [247, 249, 250, 251, 252, 253, 254, 255, 257, 258, 259, 261, 262, 263, 264, 265, 266, 267, 268, 269, 270, 271, 272, 273, 274, 275, 276, 277, 278, 279, 280, 281] (by decide +kernel)
theorem kn_g6 : kn_t6.all goodWord = true := by decide +kernel
theorem kn_b7 : ∀ w ∈ kn_t7, w ∈ lw_tbl := kn_pl kn_t7 [282, 283, 284, 285, 286, 287, 288, 289, 290, 291, 292, 293, 294, 295, 296, 297, 298, 299, 300, 301, 302, 303, 304, 305, 307, 309, 311, 313, 315, 317, 319, 321] (by decide +kernel)
theorem kn_g7 : kn_t7.all goodWord = true := by decide +kernel
theorem kn_b8 : ∀ w ∈ kn_t8, w ∈ lw_tbl := kn_pl kn_t8 [323, 325, 327, 329, 331, 334, 335, 336, 337, 338, 339, 340, 341, 342, 344, 345, 346, 347, 348, 349, 350, 351, 352, 353, 354, 355, 357, 358, 359, 361, 362, 363] (by decide +kernel)
theorem kn_g8 : kn_t8.all goodWord = true := by decide +kernel
theorem kn_b9 : ∀ w ∈ kn_t9, w ∈ lw_tbl := kn_pl kn_t9 [364, 365, 366, 367, 368, 369, 370, 371, 372, 373, 374, 375, 376, 377, 378, 379, 381, 382, 383, 384, 386, 387, 388, 389, 390, 391, 392, 394, 395, 396, 398, 399] (by decide +kernel)
theorem kn_g9 : kn_t9.all goodWord = true := by decide +kernel
theorem kn_b10 : ∀ w ∈ kn_t10, w ∈ lw_tbl := kn_pl kn_t10 [400, 402, 403, 404, 406, 407, 408, 409, 410, 411, 412, 414, 415, 416, 417, 418, 419, 420, 421, 422, 423, 424, 425, 426, 427, 429, 430, 431, 433, 434, 435, 436] (by decide +kernel)
theorem kn_g10 : kn_t10.all goodWord = true := by decide +kernel
theorem kn_b11 : ∀ w ∈ kn_t11, w ∈ lw_tbl := kn_pl kn_t11 [437, 438, 439, 441, 442, 443, 444, 445, 446, 447, 448, 449, 450, 451, 453, 454, 455, 456, 457, 458, 459, 460, 461, 462, 463, 464, 465, 466, 467, 468, 469, 470] (by decide +kernel)
theorem kn_g11 : kn_t11.all goodWord = true := by decide +kernel
theorem kn_b12 : ∀ w ∈ kn_t12, w ∈ lw_tbl := kn_pl kn_t12 [471, 472, 473, 474, 475, 476, 477, 478, 0, 1, 2, 3, 4, 5, 6, 7, 8, 9, 10, 11, 12, 13, 14, 15, 16, 17, 18, 19, 20, 21, 22, 23] (by decide +kernel)
theorem kn_g12 : kn_t12.all goodWord = true := by decide +kernel
theorem kn_b13 : ∀ w ∈ kn_t13, w ∈ lw_tbl := kn_pl kn_t13 [24, 25, 26, 27, 28, 29] (by decide +kernel)
theorem kn_g13 : kn_t13.all goodWord = true := by decide +kernel
theorem kn_b : ∀ w ∈ kn_T, w ∈ lw_tbl := fun w h => (List.mem_append.mp h).elim (fun h => kn_b0 w h) (fun h => (List.mem_append.mp h).elim (fun h => kn_b1 w h) (fun h => (List.mem_append.mp h).elim (fun h => kn_b2 w h) (fun h => (List.mem_append.mp h).elim (fun h => kn_b3 w h) (fun h => (List.mem_append.mp h).elim (fun h => kn_b4 w h) (fun h => (List.mem_append.mp h).elim (fun h => kn_b5 w h) (fun h => (List.mem_append.mp h).elim (fun h => kn_b6 w h) (fun h => (List.mem_append.mp h).elim (fun h => kn_b7 w h) (fun h => (List.mem_append.mp h).elim (fun h => kn_b8 w h) (fun h => (List.mem_append.mp h).elim (fun h => kn_b9 w h) (fun h => (List.mem_append.mp h).elim (fun h => kn_b10 w h) (fun h => (List.mem_append.mp h).elim (fun h => kn_b11 w h) (fun h => (List.mem_append.mp h).elim (fun h => kn_b12 w h) (fun h => kn_b13 w h)))))))))))))
theorem kn_g : ∀ w ∈ kn_T, goodWord w = true := fun w h => (List.mem_append.mp h).elim (fun h => List.all_eq_true.mp kn_g0 w h) (fun h => (List.mem_append.mp h).elim (fun h => List.all_eq_true.mp kn_g1 w h) (fun h => (List.mem_append.mp h).elim (fun h => List.all_eq_true.mp kn_g2 w h) (fun h => (List.mem_append.mp h).elim (fun h => List.all_eq_true.mp kn_g3 w h) (fun h => (List.mem_append.mp h).elim (fun h => List.all_eq_true.mp kn_g4 w h) (fun h => (List.mem_append.mp h).elim (fun h => List.all_eq_true.mp kn_g5 w h) (fun h => (List.mem_append.mp h).elim (fun h => List.all_eq_true.mp kn_g6 w h) (fun h => (List.mem_append.mp h).elim (fun h => List.all_eq_true.mp kn_g7 w h) (fun h => (List.mem_append.mp h).elim (fun h => List.all_eq_true.mp kn_g8 w h) (fun h => (List.mem_append.mp h).elim (fun h => List.all_eq_true.mp kn_g9 w h) (fun h => (List.mem_append.mp h).elim (fun h => List.all_eq_true.mp kn_g10 w h) (fun h => (List.mem_append.mp h).elim (fun h => List.all_eq_true.mp kn_g11 w h) (fun h => (List.mem_append.mp h).elim (fun h => List.all_eq_true.mp kn_g12 w h) (fun h => (List.all_eq_true.mp kn_g13 w h))))))))))))))
theorem kn_0 : Cond.initialized RL ∈ kn_T := (List.mem_append_left _ (List.mem_of_getElem? (i := 0) rfl))
theorem kn_1 : Cond.initialized RX3 ∈ kn_T := (List.mem_append_left _ (List.mem_of_getElem? (i := 1) rfl))
theorem kn_2 : Cond.initialized RX1 ∈ kn_T := (List.mem_append_left _ (List.mem_of_getElem? (i := 2) rfl))
theorem kn_3 : Cond.initialized RX4 ∈ kn_T := (List.mem_append_left _ (List.mem_of_getElem? (i := 3) rfl))
theorem kn_4 : Cond.initialized RJ7 ∈ kn_T := (List.mem_append_left _ (List.mem_of_getElem? (i := 4) rfl))
theorem kn_5 : Cond.initialized RX0 ∈ kn_T := (List.mem_append_left _ (List.mem_of_getElem? (i := 5) rfl))
theorem kn_6 : Cond.initialized RX2 ∈ kn_T := (List.mem_append_left _ (List.mem_of_getElem? (i := 6) rfl))
theorem kn_7 : Cond.initialized RJ6 ∈ kn_T := (List.mem_append_left _ (List.mem_of_getElem? (i := 7) rfl))
theorem kn_8 : Cond.classLink RL 7 RX3 ∈ kn_T := (List.mem_append_left _ (List.mem_of_getElem? (i := 8) rfl))
theorem kn_9 : Cond.instantiable RX3 5 ∈ kn_T := (List.mem_append_left _ (List.mem_of_getElem? (i := 9) rfl))
theorem kn_10 : Cond.methodLink RL 9 yX3_init ∈ kn_T := (List.mem_append_left _ (List.mem_of_getElem? (i := 10) rfl))
theorem kn_11 : Cond.instanceMethod yX3_init ∈ kn_T := (List.mem_append_left _ (List.mem_of_getElem? (i := 11) rfl))
theorem kn_12 : Cond.code yX3_init cX3_init 1 none ∈ kn_T := (List.mem_append_left _ (List.mem_of_getElem? (i := 12) rfl))
theorem kn_13 : Cond.methodLink RX3 1 objectInit ∈ kn_T := (List.mem_append_left _ (List.mem_of_getElem? (i := 13) rfl))
theorem kn_14 : Cond.instanceMethod objectInit ∈ kn_T := (List.mem_append_left _ (List.mem_of_getElem? (i := 14) rfl))
theorem kn_15 : Cond.code objectInit ⟨#[0xb1]⟩ 1 none ∈ kn_T := (List.mem_append_left _ (List.mem_of_getElem? (i := 15) rfl))
theorem kn_16 : Cond.classLink RX3 7 RX1 ∈ kn_T := (List.mem_append_left _ (List.mem_of_getElem? (i := 16) rfl))
theorem kn_17 : Cond.instantiable RX1 3 ∈ kn_T := (List.mem_append_left _ (List.mem_of_getElem? (i := 17) rfl))
theorem kn_18 : Cond.methodLink RX3 9 yX1_init ∈ kn_T := (List.mem_append_left _ (List.mem_of_getElem? (i := 18) rfl))
theorem kn_19 : Cond.instanceMethod yX1_init ∈ kn_T := (List.mem_append_left _ (List.mem_of_getElem? (i := 19) rfl))
theorem kn_20 : Cond.code yX1_init cX1_init 1 none ∈ kn_T := (List.mem_append_left _ (List.mem_of_getElem? (i := 20) rfl))
theorem kn_21 : Cond.methodLink RX1 1 objectInit ∈ kn_T := (List.mem_append_left _ (List.mem_of_getElem? (i := 21) rfl))
theorem kn_22 : Cond.fieldLink RX1 9 "StripedKeyVolume$Disk" "words" "[I" ∈ kn_T := (List.mem_append_left _ (List.mem_of_getElem? (i := 22) rfl))
theorem kn_23 : Cond.fieldLink RX1 17 "StripedKeyVolume$Disk" "writesDone" "I" ∈ kn_T := (List.mem_append_left _ (List.mem_of_getElem? (i := 23) rfl))
theorem kn_24 : Cond.fieldLink RX1 13 "StripedKeyVolume$Disk" "writesLeft" "I" ∈ kn_T := (List.mem_append_left _ (List.mem_of_getElem? (i := 24) rfl))
theorem kn_25 : Cond.laysFinal RX1 "StripedKeyVolume$Disk" "words" "[I" ∈ kn_T := (List.mem_append_left _ (List.mem_of_getElem? (i := 25) rfl))
theorem kn_26 : Cond.lays RX1 "StripedKeyVolume$Disk" "writesDone" "I" ∈ kn_T := (List.mem_append_left _ (List.mem_of_getElem? (i := 26) rfl))
theorem kn_27 : Cond.lays RX1 "StripedKeyVolume$Disk" "writesLeft" "I" ∈ kn_T := (List.mem_append_left _ (List.mem_of_getElem? (i := 27) rfl))
theorem kn_28 : Cond.arrayClass .int ∈ kn_T := (List.mem_append_left _ (List.mem_of_getElem? (i := 28) rfl))
theorem kn_29 : Cond.fieldLink RX3 10 "StripedKeyVolume" "disk" "LStripedKeyVolume$Disk;" ∈ kn_T := (List.mem_append_left _ (List.mem_of_getElem? (i := 29) rfl))
theorem kn_30 : Cond.fieldLink RX3 16 "StripedKeyVolume" "fresh" "[I" ∈ kn_T := (List.mem_append_left _ (List.mem_of_getElem? (i := 30) rfl))
theorem kn_31 : Cond.fieldLink RX3 20 "StripedKeyVolume" "device" "I" ∈ kn_T := (List.mem_append_left _ (List.mem_of_getElem? (i := 31) rfl))
theorem kn_32 : Cond.fieldLink RX3 85 "StripedKeyVolume" "dataKey" "I" ∈ kn_T := (List.mem_append_right _ (List.mem_append_left _ (List.mem_of_getElem? (i := 0) rfl)))
theorem kn_33 : Cond.fieldLink RX3 88 "StripedKeyVolume" "placeKey" "I" ∈ kn_T := (List.mem_append_right _ (List.mem_append_left _ (List.mem_of_getElem? (i := 1) rfl)))
theorem kn_34 : Cond.laysFinal RX3 "StripedKeyVolume" "disk" "LStripedKeyVolume$Disk;" ∈ kn_T := (List.mem_append_right _ (List.mem_append_left _ (List.mem_of_getElem? (i := 2) rfl)))
theorem kn_35 : Cond.laysFinal RX3 "StripedKeyVolume" "fresh" "[I" ∈ kn_T := (List.mem_append_right _ (List.mem_append_left _ (List.mem_of_getElem? (i := 3) rfl)))
theorem kn_36 : Cond.lays RX3 "StripedKeyVolume" "device" "I" ∈ kn_T := (List.mem_append_right _ (List.mem_append_left _ (List.mem_of_getElem? (i := 4) rfl)))
theorem kn_37 : Cond.lays RX3 "StripedKeyVolume" "dataKey" "I" ∈ kn_T := (List.mem_append_right _ (List.mem_append_left _ (List.mem_of_getElem? (i := 5) rfl)))
theorem kn_38 : Cond.lays RX3 "StripedKeyVolume" "placeKey" "I" ∈ kn_T := (List.mem_append_right _ (List.mem_append_left _ (List.mem_of_getElem? (i := 6) rfl)))
theorem kn_39 : Cond.methodLink RL 13 yX3_cut ∈ kn_T := (List.mem_append_right _ (List.mem_append_left _ (List.mem_of_getElem? (i := 7) rfl)))
theorem kn_40 : Cond.instanceMethod yX3_cut ∈ kn_T := (List.mem_append_right _ (List.mem_append_left _ (List.mem_of_getElem? (i := 8) rfl)))
theorem kn_41 : Cond.selects RX3 yX3_cut yX3_cut ∈ kn_T := (List.mem_append_right _ (List.mem_append_left _ (List.mem_of_getElem? (i := 9) rfl)))
theorem kn_42 : Cond.code yX3_cut cX3_cut 2 (some .boolean) ∈ kn_T := (List.mem_append_right _ (List.mem_append_left _ (List.mem_of_getElem? (i := 10) rfl)))
theorem kn_43 : Cond.methodLink RL 18 yX3_format ∈ kn_T := (List.mem_append_right _ (List.mem_append_left _ (List.mem_of_getElem? (i := 11) rfl)))
theorem kn_44 : Cond.instanceMethod yX3_format ∈ kn_T := (List.mem_append_right _ (List.mem_append_left _ (List.mem_of_getElem? (i := 12) rfl)))
theorem kn_45 : Cond.selects RX3 yX3_format yX3_format ∈ kn_T := (List.mem_append_right _ (List.mem_append_left _ (List.mem_of_getElem? (i := 13) rfl)))
theorem kn_46 : Cond.code yX3_format cX3_format 5 (some .int) ∈ kn_T := (List.mem_append_right _ (List.mem_append_left _ (List.mem_of_getElem? (i := 14) rfl)))
theorem kn_47 : Cond.methodLink RX3 27 yX3_workOutVolume ∈ kn_T := (List.mem_append_right _ (List.mem_append_left _ (List.mem_of_getElem? (i := 15) rfl)))
theorem kn_48 : Cond.instanceMethod yX3_workOutVolume ∈ kn_T := (List.mem_append_right _ (List.mem_append_left _ (List.mem_of_getElem? (i := 16) rfl)))
theorem kn_49 : Cond.code yX3_workOutVolume cX3_workOutVolume 8 none ∈ kn_T := (List.mem_append_right _ (List.mem_append_left _ (List.mem_of_getElem? (i := 17) rfl)))
theorem kn_50 : Cond.methodLink RX3 109 yJ7_fill ∈ kn_T := (List.mem_append_right _ (List.mem_append_left _ (List.mem_of_getElem? (i := 18) rfl)))
theorem kn_51 : Cond.static yJ7_fill ∈ kn_T := (List.mem_append_right _ (List.mem_append_left _ (List.mem_of_getElem? (i := 19) rfl)))
theorem kn_52 : Cond.code yJ7_fill cJ7_fill 4 none ∈ kn_T := (List.mem_append_right _ (List.mem_append_left _ (List.mem_of_getElem? (i := 20) rfl)))
theorem kn_53 : Cond.methodLink RX3 115 yX0_mix ∈ kn_T := (List.mem_append_right _ (List.mem_append_left _ (List.mem_of_getElem? (i := 21) rfl)))
theorem kn_54 : Cond.static yX0_mix ∈ kn_T := (List.mem_append_right _ (List.mem_append_left _ (List.mem_of_getElem? (i := 22) rfl)))
theorem kn_55 : Cond.code yX0_mix cX0_mix 3 (some .int) ∈ kn_T := (List.mem_append_right _ (List.mem_append_left _ (List.mem_of_getElem? (i := 23) rfl)))
theorem kn_56 : Cond.constant RX0 7 1517746329 ∈ kn_T := (List.mem_append_right _ (List.mem_append_left _ (List.mem_of_getElem? (i := 24) rfl)))
theorem kn_57 : Cond.constant RX0 8 916191069 ∈ kn_T := (List.mem_append_right _ (List.mem_append_left _ (List.mem_of_getElem? (i := 25) rfl)))
theorem kn_58 : Cond.constant RX0 9 1406938949 ∈ kn_T := (List.mem_append_right _ (List.mem_append_left _ (List.mem_of_getElem? (i := 26) rfl)))
theorem kn_59 : Cond.methodLink RX3 118 yX0_digest ∈ kn_T := (List.mem_append_right _ (List.mem_append_left _ (List.mem_of_getElem? (i := 27) rfl)))
theorem kn_60 : Cond.static yX0_digest ∈ kn_T := (List.mem_append_right _ (List.mem_append_left _ (List.mem_of_getElem? (i := 28) rfl)))
theorem kn_61 : Cond.code yX0_digest cX0_digest 3 (some .int) ∈ kn_T := (List.mem_append_right _ (List.mem_append_left _ (List.mem_of_getElem? (i := 29) rfl)))
theorem kn_62 : Cond.methodLink RX0 17 yX0_mix ∈ kn_T := (List.mem_append_right _ (List.mem_append_left _ (List.mem_of_getElem? (i := 30) rfl)))
theorem kn_63 : Cond.methodLink RX3 122 yX3_slotPlace ∈ kn_T := (List.mem_append_right _ (List.mem_append_left _ (List.mem_of_getElem? (i := 31) rfl)))
theorem kn_64 : Cond.static yX3_slotPlace ∈ kn_T := (List.mem_append_right _ (List.mem_append_right _ (List.mem_append_left _ (List.mem_of_getElem? (i := 0) rfl))))
theorem kn_65 : Cond.code yX3_slotPlace cX3_slotPlace 1 (some .int) ∈ kn_T := (List.mem_append_right _ (List.mem_append_right _ (List.mem_append_left _ (List.mem_of_getElem? (i := 1) rfl))))
theorem kn_66 : Cond.methodLink RX3 125 yX2_workOut ∈ kn_T := (List.mem_append_right _ (List.mem_append_right _ (List.mem_append_left _ (List.mem_of_getElem? (i := 2) rfl))))
theorem kn_67 : Cond.static yX2_workOut ∈ kn_T := (List.mem_append_right _ (List.mem_append_right _ (List.mem_append_left _ (List.mem_of_getElem? (i := 3) rfl))))
theorem kn_68 : Cond.code yX2_workOut cX2_workOut 6 none ∈ kn_T := (List.mem_append_right _ (List.mem_append_right _ (List.mem_append_left _ (List.mem_of_getElem? (i := 4) rfl))))
theorem kn_69 : Cond.methodLink RX2 11 yX0_mix ∈ kn_T := (List.mem_append_right _ (List.mem_append_right _ (List.mem_append_left _ (List.mem_of_getElem? (i := 5) rfl))))
theorem kn_70 : Cond.methodLink RX2 17 yX2_workOutHalf ∈ kn_T := (List.mem_append_right _ (List.mem_append_right _ (List.mem_append_left _ (List.mem_of_getElem? (i := 6) rfl))))
theorem kn_71 : Cond.static yX2_workOutHalf ∈ kn_T := (List.mem_append_right _ (List.mem_append_right _ (List.mem_append_left _ (List.mem_of_getElem? (i := 7) rfl))))
theorem kn_72 : Cond.code yX2_workOutHalf cX2_workOutHalf 11 none ∈ kn_T := (List.mem_append_right _ (List.mem_append_right _ (List.mem_append_left _ (List.mem_of_getElem? (i := 8) rfl))))
theorem kn_73 : Cond.methodLink RX2 21 yX0_slotKey ∈ kn_T := (List.mem_append_right _ (List.mem_append_right _ (List.mem_append_left _ (List.mem_of_getElem? (i := 9) rfl))))
theorem kn_74 : Cond.static yX0_slotKey ∈ kn_T := (List.mem_append_right _ (List.mem_append_right _ (List.mem_append_left _ (List.mem_of_getElem? (i := 10) rfl))))
theorem kn_75 : Cond.code yX0_slotKey cX0_slotKey 6 (some .int) ∈ kn_T := (List.mem_append_right _ (List.mem_append_right _ (List.mem_append_left _ (List.mem_of_getElem? (i := 11) rfl))))
theorem kn_76 : Cond.methodLink RX2 25 yX2_mask ∈ kn_T := (List.mem_append_right _ (List.mem_append_right _ (List.mem_append_left _ (List.mem_of_getElem? (i := 12) rfl))))
theorem kn_77 : Cond.static yX2_mask ∈ kn_T := (List.mem_append_right _ (List.mem_append_right _ (List.mem_append_left _ (List.mem_of_getElem? (i := 13) rfl))))
theorem kn_78 : Cond.code yX2_mask cX2_mask 3 (some .int) ∈ kn_T := (List.mem_append_right _ (List.mem_append_right _ (List.mem_append_left _ (List.mem_of_getElem? (i := 14) rfl))))
theorem kn_79 : Cond.methodLink RX2 28 yX0_encipher ∈ kn_T := (List.mem_append_right _ (List.mem_append_right _ (List.mem_append_left _ (List.mem_of_getElem? (i := 15) rfl))))
theorem kn_80 : Cond.static yX0_encipher ∈ kn_T := (List.mem_append_right _ (List.mem_append_right _ (List.mem_append_left _ (List.mem_of_getElem? (i := 16) rfl))))
theorem kn_81 : Cond.code yX0_encipher cX0_encipher 6 (some .int) ∈ kn_T := (List.mem_append_right _ (List.mem_append_right _ (List.mem_append_left _ (List.mem_of_getElem? (i := 17) rfl))))
theorem kn_82 : Cond.constant RX0 12 65535 ∈ kn_T := (List.mem_append_right _ (List.mem_append_right _ (List.mem_append_left _ (List.mem_of_getElem? (i := 18) rfl))))
theorem kn_83 : Cond.methodLink RX0 13 yX0_roundMask ∈ kn_T := (List.mem_append_right _ (List.mem_append_right _ (List.mem_append_left _ (List.mem_of_getElem? (i := 19) rfl))))
theorem kn_84 : Cond.static yX0_roundMask ∈ kn_T := (List.mem_append_right _ (List.mem_append_right _ (List.mem_append_left _ (List.mem_of_getElem? (i := 20) rfl))))
theorem kn_85 : Cond.code yX0_roundMask cX0_roundMask 3 (some .int) ∈ kn_T := (List.mem_append_right _ (List.mem_append_right _ (List.mem_append_left _ (List.mem_of_getElem? (i := 21) rfl))))
theorem kn_86 : Cond.methodLink RX3 97 yX3_sectorPlace ∈ kn_T := (List.mem_append_right _ (List.mem_append_right _ (List.mem_append_left _ (List.mem_of_getElem? (i := 22) rfl))))
theorem kn_87 : Cond.static yX3_sectorPlace ∈ kn_T := (List.mem_append_right _ (List.mem_append_right _ (List.mem_append_left _ (List.mem_of_getElem? (i := 23) rfl))))
theorem kn_88 : Cond.code yX3_sectorPlace cX3_sectorPlace 1 (some .int) ∈ kn_T := (List.mem_append_right _ (List.mem_append_right _ (List.mem_append_left _ (List.mem_of_getElem? (i := 24) rfl))))
theorem kn_89 : Cond.methodLink RX3 91 yX0_encipherSectorWord ∈ kn_T := (List.mem_append_right _ (List.mem_append_right _ (List.mem_append_left _ (List.mem_of_getElem? (i := 25) rfl))))
theorem kn_90 : Cond.static yX0_encipherSectorWord ∈ kn_T := (List.mem_append_right _ (List.mem_append_right _ (List.mem_append_left _ (List.mem_of_getElem? (i := 26) rfl))))
theorem kn_91 : Cond.code yX0_encipherSectorWord cX0_encipherSectorWord 6 (some .int) ∈ kn_T := (List.mem_append_right _ (List.mem_append_right _ (List.mem_append_left _ (List.mem_of_getElem? (i := 27) rfl))))
theorem kn_92 : Cond.methodLink RX0 21 yX0_tweak ∈ kn_T := (List.mem_append_right _ (List.mem_append_right _ (List.mem_append_left _ (List.mem_of_getElem? (i := 28) rfl))))
theorem kn_93 : Cond.static yX0_tweak ∈ kn_T := (List.mem_append_right _ (List.mem_append_right _ (List.mem_append_left _ (List.mem_of_getElem? (i := 29) rfl))))
theorem kn_94 : Cond.code yX0_tweak cX0_tweak 5 (some .int) ∈ kn_T := (List.mem_append_right _ (List.mem_append_right _ (List.mem_append_left _ (List.mem_of_getElem? (i := 30) rfl))))
theorem kn_95 : Cond.methodLink RX0 24 yX0_encipher ∈ kn_T := (List.mem_append_right _ (List.mem_append_right _ (List.mem_append_left _ (List.mem_of_getElem? (i := 31) rfl))))
theorem kn_96 : Cond.methodLink RX3 31 yX3_putVolume ∈ kn_T := (List.mem_append_right _ (List.mem_append_right _ (List.mem_append_right _ (List.mem_append_left _ (List.mem_of_getElem? (i := 0) rfl)))))
theorem kn_97 : Cond.instanceMethod yX3_putVolume ∈ kn_T := (List.mem_append_right _ (List.mem_append_right _ (List.mem_append_right _ (List.mem_append_left _ (List.mem_of_getElem? (i := 1) rfl)))))
theorem kn_98 : Cond.code yX3_putVolume cX3_putVolume 2 (some .boolean) ∈ kn_T := (List.mem_append_right _ (List.mem_append_right _ (List.mem_append_right _ (List.mem_append_left _ (List.mem_of_getElem? (i := 2) rfl)))))
theorem kn_99 : Cond.methodLink RX3 131 yX1_put ∈ kn_T := (List.mem_append_right _ (List.mem_append_right _ (List.mem_append_right _ (List.mem_append_left _ (List.mem_of_getElem? (i := 3) rfl)))))
theorem kn_100 : Cond.instanceMethod yX1_put ∈ kn_T := (List.mem_append_right _ (List.mem_append_right _ (List.mem_append_right _ (List.mem_append_left _ (List.mem_of_getElem? (i := 4) rfl)))))
theorem kn_101 : Cond.selects RX1 yX1_put yX1_put ∈ kn_T := (List.mem_append_right _ (List.mem_append_right _ (List.mem_append_right _ (List.mem_append_left _ (List.mem_of_getElem? (i := 5) rfl)))))
theorem kn_102 : Cond.code yX1_put cX1_put 3 (some .boolean) ∈ kn_T := (List.mem_append_right _ (List.mem_append_right _ (List.mem_append_right _ (List.mem_append_left _ (List.mem_of_getElem? (i := 6) rfl)))))
theorem kn_103 : Cond.constant RX3 47 1396855379 ∈ kn_T := (List.mem_append_right _ (List.mem_append_right _ (List.mem_append_right _ (List.mem_append_left _ (List.mem_of_getElem? (i := 7) rfl)))))
theorem kn_104 : Cond.methodLink RX3 35 yX3_powerLost ∈ kn_T := (List.mem_append_right _ (List.mem_append_right _ (List.mem_append_right _ (List.mem_append_left _ (List.mem_of_getElem? (i := 8) rfl)))))
theorem kn_105 : Cond.instanceMethod yX3_powerLost ∈ kn_T := (List.mem_append_right _ (List.mem_append_right _ (List.mem_append_right _ (List.mem_append_left _ (List.mem_of_getElem? (i := 9) rfl)))))
theorem kn_106 : Cond.code yX3_powerLost cX3_powerLost 1 (some .int) ∈ kn_T := (List.mem_append_right _ (List.mem_append_right _ (List.mem_append_right _ (List.mem_append_left _ (List.mem_of_getElem? (i := 10) rfl)))))
theorem kn_107 : Cond.methodLink RX3 39 yX3_holdNoKeys ∈ kn_T := (List.mem_append_right _ (List.mem_append_right _ (List.mem_append_right _ (List.mem_append_left _ (List.mem_of_getElem? (i := 11) rfl)))))
theorem kn_108 : Cond.instanceMethod yX3_holdNoKeys ∈ kn_T := (List.mem_append_right _ (List.mem_append_right _ (List.mem_append_right _ (List.mem_append_left _ (List.mem_of_getElem? (i := 12) rfl)))))
theorem kn_109 : Cond.code yX3_holdNoKeys cX3_holdNoKeys 2 none ∈ kn_T := (List.mem_append_right _ (List.mem_append_right _ (List.mem_append_right _ (List.mem_append_left _ (List.mem_of_getElem? (i := 13) rfl)))))
theorem kn_110 : Cond.methodLink RL 23 yX3_mount ∈ kn_T := (List.mem_append_right _ (List.mem_append_right _ (List.mem_append_right _ (List.mem_append_left _ (List.mem_of_getElem? (i := 14) rfl)))))
theorem kn_111 : Cond.instanceMethod yX3_mount ∈ kn_T := (List.mem_append_right _ (List.mem_append_right _ (List.mem_append_right _ (List.mem_append_left _ (List.mem_of_getElem? (i := 15) rfl)))))
theorem kn_112 : Cond.selects RX3 yX3_mount yX3_mount ∈ kn_T := (List.mem_append_right _ (List.mem_append_right _ (List.mem_append_right _ (List.mem_append_left _ (List.mem_of_getElem? (i := 16) rfl)))))
theorem kn_113 : Cond.code yX3_mount cX3_mount 1 (some .int) ∈ kn_T := (List.mem_append_right _ (List.mem_append_right _ (List.mem_append_right _ (List.mem_append_left _ (List.mem_of_getElem? (i := 17) rfl)))))
theorem kn_114 : Cond.methodLink RX3 43 yX1_wordAt ∈ kn_T := (List.mem_append_right _ (List.mem_append_right _ (List.mem_append_right _ (List.mem_append_left _ (List.mem_of_getElem? (i := 18) rfl)))))
theorem kn_115 : Cond.instanceMethod yX1_wordAt ∈ kn_T := (List.mem_append_right _ (List.mem_append_right _ (List.mem_append_right _ (List.mem_append_left _ (List.mem_of_getElem? (i := 19) rfl)))))
theorem kn_116 : Cond.selects RX1 yX1_wordAt yX1_wordAt ∈ kn_T := (List.mem_append_right _ (List.mem_append_right _ (List.mem_append_right _ (List.mem_append_left _ (List.mem_of_getElem? (i := 20) rfl)))))
theorem kn_117 : Cond.code yX1_wordAt cX1_wordAt 2 (some .int) ∈ kn_T := (List.mem_append_right _ (List.mem_append_right _ (List.mem_append_right _ (List.mem_append_left _ (List.mem_of_getElem? (i := 21) rfl)))))
theorem kn_118 : Cond.methodLink RX3 48 yX1_settleJournal ∈ kn_T := (List.mem_append_right _ (List.mem_append_right _ (List.mem_append_right _ (List.mem_append_left _ (List.mem_of_getElem? (i := 22) rfl)))))
theorem kn_119 : Cond.instanceMethod yX1_settleJournal ∈ kn_T := (List.mem_append_right _ (List.mem_append_right _ (List.mem_append_right _ (List.mem_append_left _ (List.mem_of_getElem? (i := 23) rfl)))))
theorem kn_120 : Cond.selects RX1 yX1_settleJournal yX1_settleJournal ∈ kn_T := (List.mem_append_right _ (List.mem_append_right _ (List.mem_append_right _ (List.mem_append_left _ (List.mem_of_getElem? (i := 24) rfl)))))
theorem kn_121 : Cond.code yX1_settleJournal cX1_settleJournal 1 (some .boolean) ∈ kn_T := (List.mem_append_right _ (List.mem_append_right _ (List.mem_append_right _ (List.mem_append_left _ (List.mem_of_getElem? (i := 25) rfl)))))
theorem kn_122 : Cond.methodLink RX1 28 yX1_wordAt ∈ kn_T := (List.mem_append_right _ (List.mem_append_right _ (List.mem_append_right _ (List.mem_append_left _ (List.mem_of_getElem? (i := 26) rfl)))))
theorem kn_123 : Cond.methodLink RX1 24 yX1_finishJournal ∈ kn_T := (List.mem_append_right _ (List.mem_append_right _ (List.mem_append_right _ (List.mem_append_left _ (List.mem_of_getElem? (i := 27) rfl)))))
theorem kn_124 : Cond.instanceMethod yX1_finishJournal ∈ kn_T := (List.mem_append_right _ (List.mem_append_right _ (List.mem_append_right _ (List.mem_append_left _ (List.mem_of_getElem? (i := 28) rfl)))))
theorem kn_125 : Cond.code yX1_finishJournal cX1_finishJournal 4 (some .boolean) ∈ kn_T := (List.mem_append_right _ (List.mem_append_right _ (List.mem_append_right _ (List.mem_append_left _ (List.mem_of_getElem? (i := 29) rfl)))))
theorem kn_126 : Cond.methodLink RX1 20 yX1_put ∈ kn_T := (List.mem_append_right _ (List.mem_append_right _ (List.mem_append_right _ (List.mem_append_left _ (List.mem_of_getElem? (i := 30) rfl)))))
theorem kn_127 : Cond.methodLink RX1 32 yX1_clearJournal ∈ kn_T := (List.mem_append_right _ (List.mem_append_right _ (List.mem_append_right _ (List.mem_append_left _ (List.mem_of_getElem? (i := 31) rfl)))))
theorem kn_128 : Cond.instanceMethod yX1_clearJournal ∈ kn_T := (List.mem_append_right _ (List.mem_append_right _ (List.mem_append_right _ (List.mem_append_right _ (List.mem_append_left _ (List.mem_of_getElem? (i := 0) rfl))))))
theorem kn_129 : Cond.code yX1_clearJournal cX1_clearJournal 2 (some .boolean) ∈ kn_T := (List.mem_append_right _ (List.mem_append_right _ (List.mem_append_right _ (List.mem_append_right _ (List.mem_append_left _ (List.mem_of_getElem? (i := 1) rfl))))))
theorem kn_130 : Cond.methodLink RX3 51 yX3_activeSlots ∈ kn_T := (List.mem_append_right _ (List.mem_append_right _ (List.mem_append_right _ (List.mem_append_right _ (List.mem_append_left _ (List.mem_of_getElem? (i := 2) rfl))))))
theorem kn_131 : Cond.instanceMethod yX3_activeSlots ∈ kn_T := (List.mem_append_right _ (List.mem_append_right _ (List.mem_append_right _ (List.mem_append_right _ (List.mem_append_left _ (List.mem_of_getElem? (i := 3) rfl))))))
theorem kn_132 : Cond.code yX3_activeSlots cX3_activeSlots 1 (some .int) ∈ kn_T := (List.mem_append_right _ (List.mem_append_right _ (List.mem_append_right _ (List.mem_append_right _ (List.mem_append_left _ (List.mem_of_getElem? (i := 4) rfl))))))
theorem kn_133 : Cond.methodLink RX3 138 yX3_slots ∈ kn_T := (List.mem_append_right _ (List.mem_append_right _ (List.mem_append_right _ (List.mem_append_right _ (List.mem_append_left _ (List.mem_of_getElem? (i := 5) rfl))))))
theorem kn_134 : Cond.instanceMethod yX3_slots ∈ kn_T := (List.mem_append_right _ (List.mem_append_right _ (List.mem_append_right _ (List.mem_append_right _ (List.mem_append_left _ (List.mem_of_getElem? (i := 6) rfl))))))
theorem kn_135 : Cond.selects RX3 yX3_slots yX3_slots ∈ kn_T := (List.mem_append_right _ (List.mem_append_right _ (List.mem_append_right _ (List.mem_append_right _ (List.mem_append_left _ (List.mem_of_getElem? (i := 7) rfl))))))
theorem kn_136 : Cond.code yX3_slots cX3_slots 3 (some .int) ∈ kn_T := (List.mem_append_right _ (List.mem_append_right _ (List.mem_append_right _ (List.mem_append_right _ (List.mem_append_left _ (List.mem_of_getElem? (i := 8) rfl))))))
theorem kn_137 : Cond.methodLink RX3 54 yX3_isActive ∈ kn_T := (List.mem_append_right _ (List.mem_append_right _ (List.mem_append_right _ (List.mem_append_right _ (List.mem_append_left _ (List.mem_of_getElem? (i := 9) rfl))))))
theorem kn_138 : Cond.instanceMethod yX3_isActive ∈ kn_T := (List.mem_append_right _ (List.mem_append_right _ (List.mem_append_right _ (List.mem_append_right _ (List.mem_append_left _ (List.mem_of_getElem? (i := 10) rfl))))))
theorem kn_139 : Cond.code yX3_isActive cX3_isActive 2 (some .boolean) ∈ kn_T := (List.mem_append_right _ (List.mem_append_right _ (List.mem_append_right _ (List.mem_append_right _ (List.mem_append_left _ (List.mem_of_getElem? (i := 11) rfl))))))
theorem kn_140 : Cond.methodLink RX3 141 yJ6_bitCount ∈ kn_T := (List.mem_append_right _ (List.mem_append_right _ (List.mem_append_right _ (List.mem_append_right _ (List.mem_append_left _ (List.mem_of_getElem? (i := 12) rfl))))))
theorem kn_141 : Cond.static yJ6_bitCount ∈ kn_T := (List.mem_append_right _ (List.mem_append_right _ (List.mem_append_right _ (List.mem_append_right _ (List.mem_append_left _ (List.mem_of_getElem? (i := 13) rfl))))))
theorem kn_142 : Cond.code yJ6_bitCount cJ6_bitCount 1 (some .int) ∈ kn_T := (List.mem_append_right _ (List.mem_append_right _ (List.mem_append_right _ (List.mem_append_right _ (List.mem_append_left _ (List.mem_of_getElem? (i := 14) rfl))))))
theorem kn_143 : Cond.constant RJ6 265 1431655765 ∈ kn_T := (List.mem_append_right _ (List.mem_append_right _ (List.mem_append_right _ (List.mem_append_right _ (List.mem_append_left _ (List.mem_of_getElem? (i := 15) rfl))))))
theorem kn_144 : Cond.constant RJ6 266 858993459 ∈ kn_T := (List.mem_append_right _ (List.mem_append_right _ (List.mem_append_right _ (List.mem_append_right _ (List.mem_append_left _ (List.mem_of_getElem? (i := 16) rfl))))))
theorem kn_145 : Cond.constant RJ6 267 252645135 ∈ kn_T := (List.mem_append_right _ (List.mem_append_right _ (List.mem_append_right _ (List.mem_append_right _ (List.mem_append_left _ (List.mem_of_getElem? (i := 17) rfl))))))
theorem kn_146 : Cond.methodLink RL 28 yX3_unlock ∈ kn_T := (List.mem_append_right _ (List.mem_append_right _ (List.mem_append_right _ (List.mem_append_right _ (List.mem_append_left _ (List.mem_of_getElem? (i := 18) rfl))))))
theorem kn_147 : Cond.instanceMethod yX3_unlock ∈ kn_T := (List.mem_append_right _ (List.mem_append_right _ (List.mem_append_right _ (List.mem_append_right _ (List.mem_append_left _ (List.mem_of_getElem? (i := 19) rfl))))))
theorem kn_148 : Cond.selects RX3 yX3_unlock yX3_unlock ∈ kn_T := (List.mem_append_right _ (List.mem_append_right _ (List.mem_append_right _ (List.mem_append_right _ (List.mem_append_left _ (List.mem_of_getElem? (i := 20) rfl))))))
theorem kn_149 : Cond.code yX3_unlock cX3_unlock 3 (some .int) ∈ kn_T := (List.mem_append_right _ (List.mem_append_right _ (List.mem_append_right _ (List.mem_append_right _ (List.mem_append_left _ (List.mem_of_getElem? (i := 21) rfl))))))
theorem kn_150 : Cond.methodLink RX3 58 yX3_opensWith ∈ kn_T := (List.mem_append_right _ (List.mem_append_right _ (List.mem_append_right _ (List.mem_append_right _ (List.mem_append_left _ (List.mem_of_getElem? (i := 22) rfl))))))
theorem kn_151 : Cond.instanceMethod yX3_opensWith ∈ kn_T := (List.mem_append_right _ (List.mem_append_right _ (List.mem_append_right _ (List.mem_append_right _ (List.mem_append_left _ (List.mem_of_getElem? (i := 23) rfl))))))
theorem kn_152 : Cond.code yX3_opensWith cX3_opensWith 6 (some .boolean) ∈ kn_T := (List.mem_append_right _ (List.mem_append_right _ (List.mem_append_right _ (List.mem_append_right _ (List.mem_append_left _ (List.mem_of_getElem? (i := 24) rfl))))))
theorem kn_153 : Cond.methodLink RX3 134 yX2_openHalf ∈ kn_T := (List.mem_append_right _ (List.mem_append_right _ (List.mem_append_right _ (List.mem_append_right _ (List.mem_append_left _ (List.mem_of_getElem? (i := 25) rfl))))))
theorem kn_154 : Cond.static yX2_openHalf ∈ kn_T := (List.mem_append_right _ (List.mem_append_right _ (List.mem_append_right _ (List.mem_append_right _ (List.mem_append_left _ (List.mem_of_getElem? (i := 26) rfl))))))
theorem kn_155 : Cond.code yX2_openHalf cX2_openHalf 9 (some .int) ∈ kn_T := (List.mem_append_right _ (List.mem_append_right _ (List.mem_append_right _ (List.mem_append_right _ (List.mem_append_left _ (List.mem_of_getElem? (i := 27) rfl))))))
theorem kn_156 : Cond.methodLink RX2 31 yX1_wordAt ∈ kn_T := (List.mem_append_right _ (List.mem_append_right _ (List.mem_append_right _ (List.mem_append_right _ (List.mem_append_left _ (List.mem_of_getElem? (i := 28) rfl))))))
theorem kn_157 : Cond.methodLink RX2 37 yX0_decipher ∈ kn_T := (List.mem_append_right _ (List.mem_append_right _ (List.mem_append_right _ (List.mem_append_right _ (List.mem_append_left _ (List.mem_of_getElem? (i := 29) rfl))))))
theorem kn_158 : Cond.static yX0_decipher ∈ kn_T := (List.mem_append_right _ (List.mem_append_right _ (List.mem_append_right _ (List.mem_append_right _ (List.mem_append_left _ (List.mem_of_getElem? (i := 30) rfl))))))
theorem kn_159 : Cond.code yX0_decipher cX0_decipher 6 (some .int) ∈ kn_T := (List.mem_append_right _ (List.mem_append_right _ (List.mem_append_right _ (List.mem_append_right _ (List.mem_append_left _ (List.mem_of_getElem? (i := 31) rfl))))))
theorem kn_160 : Cond.methodLink RL 33 yX3_lock ∈ kn_T := (List.mem_append_right _ (List.mem_append_right _ (List.mem_append_right _ (List.mem_append_right _ (List.mem_append_right _ (List.mem_append_left _ (List.mem_of_getElem? (i := 0) rfl)))))))
theorem kn_161 : Cond.instanceMethod yX3_lock ∈ kn_T := (List.mem_append_right _ (List.mem_append_right _ (List.mem_append_right _ (List.mem_append_right _ (List.mem_append_right _ (List.mem_append_left _ (List.mem_of_getElem? (i := 1) rfl)))))))
theorem kn_162 : Cond.selects RX3 yX3_lock yX3_lock ∈ kn_T := (List.mem_append_right _ (List.mem_append_right _ (List.mem_append_right _ (List.mem_append_right _ (List.mem_append_right _ (List.mem_append_left _ (List.mem_of_getElem? (i := 2) rfl)))))))
theorem kn_163 : Cond.code yX3_lock cX3_lock 2 (some .int) ∈ kn_T := (List.mem_append_right _ (List.mem_append_right _ (List.mem_append_right _ (List.mem_append_right _ (List.mem_append_right _ (List.mem_append_left _ (List.mem_of_getElem? (i := 3) rfl)))))))
theorem kn_164 : Cond.methodLink RL 37 yX3_add ∈ kn_T := (List.mem_append_right _ (List.mem_append_right _ (List.mem_append_right _ (List.mem_append_right _ (List.mem_append_right _ (List.mem_append_left _ (List.mem_of_getElem? (i := 4) rfl)))))))
theorem kn_165 : Cond.instanceMethod yX3_add ∈ kn_T := (List.mem_append_right _ (List.mem_append_right _ (List.mem_append_right _ (List.mem_append_right _ (List.mem_append_right _ (List.mem_append_left _ (List.mem_of_getElem? (i := 5) rfl)))))))
theorem kn_166 : Cond.selects RX3 yX3_add yX3_add ∈ kn_T := (List.mem_append_right _ (List.mem_append_right _ (List.mem_append_right _ (List.mem_append_right _ (List.mem_append_right _ (List.mem_append_left _ (List.mem_of_getElem? (i := 6) rfl)))))))
theorem kn_167 : Cond.code yX3_add cX3_add 5 (some .int) ∈ kn_T := (List.mem_append_right _ (List.mem_append_right _ (List.mem_append_right _ (List.mem_append_right _ (List.mem_append_right _ (List.mem_append_left _ (List.mem_of_getElem? (i := 7) rfl)))))))
theorem kn_168 : Cond.methodLink RX3 62 yX3_refusalUnlessOpen ∈ kn_T := (List.mem_append_right _ (List.mem_append_right _ (List.mem_append_right _ (List.mem_append_right _ (List.mem_append_right _ (List.mem_append_left _ (List.mem_of_getElem? (i := 8) rfl)))))))
theorem kn_169 : Cond.instanceMethod yX3_refusalUnlessOpen ∈ kn_T := (List.mem_append_right _ (List.mem_append_right _ (List.mem_append_right _ (List.mem_append_right _ (List.mem_append_right _ (List.mem_append_left _ (List.mem_of_getElem? (i := 9) rfl)))))))
theorem kn_170 : Cond.code yX3_refusalUnlessOpen cX3_refusalUnlessOpen 1 (some .int) ∈ kn_T := (List.mem_append_right _ (List.mem_append_right _ (List.mem_append_right _ (List.mem_append_right _ (List.mem_append_right _ (List.mem_append_left _ (List.mem_of_getElem? (i := 10) rfl)))))))
theorem kn_171 : Cond.methodLink RX3 65 yX3_leastFreeSlot ∈ kn_T := (List.mem_append_right _ (List.mem_append_right _ (List.mem_append_right _ (List.mem_append_right _ (List.mem_append_right _ (List.mem_append_left _ (List.mem_of_getElem? (i := 11) rfl)))))))
theorem kn_172 : Cond.instanceMethod yX3_leastFreeSlot ∈ kn_T := (List.mem_append_right _ (List.mem_append_right _ (List.mem_append_right _ (List.mem_append_right _ (List.mem_append_right _ (List.mem_append_left _ (List.mem_of_getElem? (i := 12) rfl)))))))
theorem kn_173 : Cond.code yX3_leastFreeSlot cX3_leastFreeSlot 2 (some .int) ∈ kn_T := (List.mem_append_right _ (List.mem_append_right _ (List.mem_append_right _ (List.mem_append_right _ (List.mem_append_right _ (List.mem_append_left _ (List.mem_of_getElem? (i := 13) rfl)))))))
theorem kn_174 : Cond.methodLink RX3 68 yX3_fillSlot ∈ kn_T := (List.mem_append_right _ (List.mem_append_right _ (List.mem_append_right _ (List.mem_append_right _ (List.mem_append_right _ (List.mem_append_left _ (List.mem_of_getElem? (i := 14) rfl)))))))
theorem kn_175 : Cond.instanceMethod yX3_fillSlot ∈ kn_T := (List.mem_append_right _ (List.mem_append_right _ (List.mem_append_right _ (List.mem_append_right _ (List.mem_append_right _ (List.mem_append_left _ (List.mem_of_getElem? (i := 15) rfl)))))))
theorem kn_176 : Cond.code yX3_fillSlot cX3_fillSlot 4 (some .boolean) ∈ kn_T := (List.mem_append_right _ (List.mem_append_right _ (List.mem_append_right _ (List.mem_append_right _ (List.mem_append_right _ (List.mem_append_left _ (List.mem_of_getElem? (i := 16) rfl)))))))
theorem kn_177 : Cond.methodLink RX3 100 yX1_replaceByJournal ∈ kn_T := (List.mem_append_right _ (List.mem_append_right _ (List.mem_append_right _ (List.mem_append_right _ (List.mem_append_right _ (List.mem_append_left _ (List.mem_of_getElem? (i := 17) rfl)))))))
theorem kn_178 : Cond.instanceMethod yX1_replaceByJournal ∈ kn_T := (List.mem_append_right _ (List.mem_append_right _ (List.mem_append_right _ (List.mem_append_right _ (List.mem_append_right _ (List.mem_append_left _ (List.mem_of_getElem? (i := 18) rfl)))))))
theorem kn_179 : Cond.selects RX1 yX1_replaceByJournal yX1_replaceByJournal ∈ kn_T := (List.mem_append_right _ (List.mem_append_right _ (List.mem_append_right _ (List.mem_append_right _ (List.mem_append_right _ (List.mem_append_left _ (List.mem_of_getElem? (i := 19) rfl)))))))
theorem kn_180 : Cond.code yX1_replaceByJournal cX1_replaceByJournal 5 (some .boolean) ∈ kn_T := (List.mem_append_right _ (List.mem_append_right _ (List.mem_append_right _ (List.mem_append_right _ (List.mem_append_right _ (List.mem_append_left _ (List.mem_of_getElem? (i := 20) rfl)))))))
theorem kn_181 : Cond.methodLink RL 42 yX3_change ∈ kn_T := (List.mem_append_right _ (List.mem_append_right _ (List.mem_append_right _ (List.mem_append_right _ (List.mem_append_right _ (List.mem_append_left _ (List.mem_of_getElem? (i := 21) rfl)))))))
theorem kn_182 : Cond.instanceMethod yX3_change ∈ kn_T := (List.mem_append_right _ (List.mem_append_right _ (List.mem_append_right _ (List.mem_append_right _ (List.mem_append_right _ (List.mem_append_left _ (List.mem_of_getElem? (i := 22) rfl)))))))
theorem kn_183 : Cond.selects RX3 yX3_change yX3_change ∈ kn_T := (List.mem_append_right _ (List.mem_append_right _ (List.mem_append_right _ (List.mem_append_right _ (List.mem_append_right _ (List.mem_append_left _ (List.mem_of_getElem? (i := 23) rfl)))))))
theorem kn_184 : Cond.code yX3_change cX3_change 5 (some .int) ∈ kn_T := (List.mem_append_right _ (List.mem_append_right _ (List.mem_append_right _ (List.mem_append_right _ (List.mem_append_right _ (List.mem_append_left _ (List.mem_of_getElem? (i := 24) rfl)))))))
theorem kn_185 : Cond.methodLink RX3 72 yX3_refusalOfSlot ∈ kn_T := (List.mem_append_right _ (List.mem_append_right _ (List.mem_append_right _ (List.mem_append_right _ (List.mem_append_right _ (List.mem_append_left _ (List.mem_of_getElem? (i := 25) rfl)))))))
theorem kn_186 : Cond.instanceMethod yX3_refusalOfSlot ∈ kn_T := (List.mem_append_right _ (List.mem_append_right _ (List.mem_append_right _ (List.mem_append_right _ (List.mem_append_right _ (List.mem_append_left _ (List.mem_of_getElem? (i := 26) rfl)))))))
theorem kn_187 : Cond.code yX3_refusalOfSlot cX3_refusalOfSlot 3 (some .int) ∈ kn_T := (List.mem_append_right _ (List.mem_append_right _ (List.mem_append_right _ (List.mem_append_right _ (List.mem_append_right _ (List.mem_append_left _ (List.mem_of_getElem? (i := 27) rfl)))))))
theorem kn_188 : Cond.methodLink RL 47 yX3_revoke ∈ kn_T := (List.mem_append_right _ (List.mem_append_right _ (List.mem_append_right _ (List.mem_append_right _ (List.mem_append_right _ (List.mem_append_left _ (List.mem_of_getElem? (i := 28) rfl)))))))
theorem kn_189 : Cond.instanceMethod yX3_revoke ∈ kn_T := (List.mem_append_right _ (List.mem_append_right _ (List.mem_append_right _ (List.mem_append_right _ (List.mem_append_right _ (List.mem_append_left _ (List.mem_of_getElem? (i := 29) rfl)))))))
theorem kn_190 : Cond.selects RX3 yX3_revoke yX3_revoke ∈ kn_T := (List.mem_append_right _ (List.mem_append_right _ (List.mem_append_right _ (List.mem_append_right _ (List.mem_append_right _ (List.mem_append_left _ (List.mem_of_getElem? (i := 30) rfl)))))))
theorem kn_191 : Cond.code yX3_revoke cX3_revoke 3 (some .int) ∈ kn_T := (List.mem_append_right _ (List.mem_append_right _ (List.mem_append_right _ (List.mem_append_right _ (List.mem_append_right _ (List.mem_append_left _ (List.mem_of_getElem? (i := 31) rfl)))))))
theorem kn_192 : Cond.methodLink RX3 75 yX3_clearSlot ∈ kn_T := (List.mem_append_right _ (List.mem_append_right _ (List.mem_append_right _ (List.mem_append_right _ (List.mem_append_right _ (List.mem_append_right _ (List.mem_append_left _ (List.mem_of_getElem? (i := 0) rfl))))))))
theorem kn_193 : Cond.instanceMethod yX3_clearSlot ∈ kn_T := (List.mem_append_right _ (List.mem_append_right _ (List.mem_append_right _ (List.mem_append_right _ (List.mem_append_right _ (List.mem_append_right _ (List.mem_append_left _ (List.mem_of_getElem? (i := 1) rfl))))))))
theorem kn_194 : Cond.code yX3_clearSlot cX3_clearSlot 2 (some .boolean) ∈ kn_T := (List.mem_append_right _ (List.mem_append_right _ (List.mem_append_right _ (List.mem_append_right _ (List.mem_append_right _ (List.mem_append_right _ (List.mem_append_left _ (List.mem_of_getElem? (i := 2) rfl))))))))
theorem kn_195 : Cond.methodLink RL 51 yX3_write ∈ kn_T := (List.mem_append_right _ (List.mem_append_right _ (List.mem_append_right _ (List.mem_append_right _ (List.mem_append_right _ (List.mem_append_right _ (List.mem_append_left _ (List.mem_of_getElem? (i := 3) rfl))))))))
theorem kn_196 : Cond.instanceMethod yX3_write ∈ kn_T := (List.mem_append_right _ (List.mem_append_right _ (List.mem_append_right _ (List.mem_append_right _ (List.mem_append_right _ (List.mem_append_right _ (List.mem_append_left _ (List.mem_of_getElem? (i := 4) rfl))))))))
theorem kn_197 : Cond.selects RX3 yX3_write yX3_write ∈ kn_T := (List.mem_append_right _ (List.mem_append_right _ (List.mem_append_right _ (List.mem_append_right _ (List.mem_append_right _ (List.mem_append_right _ (List.mem_append_left _ (List.mem_of_getElem? (i := 5) rfl))))))))
theorem kn_198 : Cond.code yX3_write cX3_write 7 (some .int) ∈ kn_T := (List.mem_append_right _ (List.mem_append_right _ (List.mem_append_right _ (List.mem_append_right _ (List.mem_append_right _ (List.mem_append_right _ (List.mem_append_left _ (List.mem_of_getElem? (i := 6) rfl))))))))
theorem kn_199 : Cond.methodLink RX3 78 yX3_refusalOfWord ∈ kn_T := (List.mem_append_right _ (List.mem_append_right _ (List.mem_append_right _ (List.mem_append_right _ (List.mem_append_right _ (List.mem_append_right _ (List.mem_append_left _ (List.mem_of_getElem? (i := 7) rfl))))))))
theorem kn_200 : Cond.instanceMethod yX3_refusalOfWord ∈ kn_T := (List.mem_append_right _ (List.mem_append_right _ (List.mem_append_right _ (List.mem_append_right _ (List.mem_append_right _ (List.mem_append_right _ (List.mem_append_left _ (List.mem_of_getElem? (i := 8) rfl))))))))
theorem kn_201 : Cond.code yX3_refusalOfWord cX3_refusalOfWord 5 (some .int) ∈ kn_T := (List.mem_append_right _ (List.mem_append_right _ (List.mem_append_right _ (List.mem_append_right _ (List.mem_append_right _ (List.mem_append_right _ (List.mem_append_left _ (List.mem_of_getElem? (i := 9) rfl))))))))
theorem kn_202 : Cond.methodLink RX3 82 yX3_plainWord ∈ kn_T := (List.mem_append_right _ (List.mem_append_right _ (List.mem_append_right _ (List.mem_append_right _ (List.mem_append_right _ (List.mem_append_right _ (List.mem_append_left _ (List.mem_of_getElem? (i := 10) rfl))))))))
theorem kn_203 : Cond.instanceMethod yX3_plainWord ∈ kn_T := (List.mem_append_right _ (List.mem_append_right _ (List.mem_append_right _ (List.mem_append_right _ (List.mem_append_right _ (List.mem_append_right _ (List.mem_append_left _ (List.mem_of_getElem? (i := 11) rfl))))))))
theorem kn_204 : Cond.code yX3_plainWord cX3_plainWord 4 (some .int) ∈ kn_T := (List.mem_append_right _ (List.mem_append_right _ (List.mem_append_right _ (List.mem_append_right _ (List.mem_append_right _ (List.mem_append_right _ (List.mem_append_left _ (List.mem_of_getElem? (i := 12) rfl))))))))
theorem kn_205 : Cond.methodLink RX3 146 yX0_decipherSectorWord ∈ kn_T := (List.mem_append_right _ (List.mem_append_right _ (List.mem_append_right _ (List.mem_append_right _ (List.mem_append_right _ (List.mem_append_right _ (List.mem_append_left _ (List.mem_of_getElem? (i := 13) rfl))))))))
theorem kn_206 : Cond.static yX0_decipherSectorWord ∈ kn_T := (List.mem_append_right _ (List.mem_append_right _ (List.mem_append_right _ (List.mem_append_right _ (List.mem_append_right _ (List.mem_append_right _ (List.mem_append_left _ (List.mem_of_getElem? (i := 14) rfl))))))))
theorem kn_207 : Cond.code yX0_decipherSectorWord cX0_decipherSectorWord 6 (some .int) ∈ kn_T := (List.mem_append_right _ (List.mem_append_right _ (List.mem_append_right _ (List.mem_append_right _ (List.mem_append_right _ (List.mem_append_right _ (List.mem_append_left _ (List.mem_of_getElem? (i := 15) rfl))))))))
theorem kn_208 : Cond.methodLink RX0 27 yX0_decipher ∈ kn_T := (List.mem_append_right _ (List.mem_append_right _ (List.mem_append_right _ (List.mem_append_right _ (List.mem_append_right _ (List.mem_append_right _ (List.mem_append_left _ (List.mem_of_getElem? (i := 16) rfl))))))))
theorem kn_209 : Cond.methodLink RL 55 yX3_read ∈ kn_T := (List.mem_append_right _ (List.mem_append_right _ (List.mem_append_right _ (List.mem_append_right _ (List.mem_append_right _ (List.mem_append_right _ (List.mem_append_left _ (List.mem_of_getElem? (i := 17) rfl))))))))
theorem kn_210 : Cond.instanceMethod yX3_read ∈ kn_T := (List.mem_append_right _ (List.mem_append_right _ (List.mem_append_right _ (List.mem_append_right _ (List.mem_append_right _ (List.mem_append_right _ (List.mem_append_left _ (List.mem_of_getElem? (i := 18) rfl))))))))
theorem kn_211 : Cond.selects RX3 yX3_read yX3_read ∈ kn_T := (List.mem_append_right _ (List.mem_append_right _ (List.mem_append_right _ (List.mem_append_right _ (List.mem_append_right _ (List.mem_append_right _ (List.mem_append_left _ (List.mem_of_getElem? (i := 19) rfl))))))))
theorem kn_212 : Cond.code yX3_read cX3_read 4 (some .long) ∈ kn_T := (List.mem_append_right _ (List.mem_append_right _ (List.mem_append_right _ (List.mem_append_right _ (List.mem_append_right _ (List.mem_append_right _ (List.mem_append_left _ (List.mem_of_getElem? (i := 20) rfl))))))))
theorem kn_213 : Cond.constantLong RX3 104 4294967295 ∈ kn_T := (List.mem_append_right _ (List.mem_append_right _ (List.mem_append_right _ (List.mem_append_right _ (List.mem_append_right _ (List.mem_append_right _ (List.mem_append_left _ (List.mem_of_getElem? (i := 21) rfl))))))))
theorem kn_214 : Cond.methodLink RL 60 yX3_state ∈ kn_T := (List.mem_append_right _ (List.mem_append_right _ (List.mem_append_right _ (List.mem_append_right _ (List.mem_append_right _ (List.mem_append_right _ (List.mem_append_left _ (List.mem_of_getElem? (i := 22) rfl))))))))
theorem kn_215 : Cond.instanceMethod yX3_state ∈ kn_T := (List.mem_append_right _ (List.mem_append_right _ (List.mem_append_right _ (List.mem_append_right _ (List.mem_append_right _ (List.mem_append_right _ (List.mem_append_left _ (List.mem_of_getElem? (i := 23) rfl))))))))
theorem kn_216 : Cond.selects RX3 yX3_state yX3_state ∈ kn_T := (List.mem_append_right _ (List.mem_append_right _ (List.mem_append_right _ (List.mem_append_right _ (List.mem_append_right _ (List.mem_append_right _ (List.mem_append_left _ (List.mem_of_getElem? (i := 24) rfl))))))))
theorem kn_217 : Cond.code yX3_state cX3_state 1 (some .int) ∈ kn_T := (List.mem_append_right _ (List.mem_append_right _ (List.mem_append_right _ (List.mem_append_right _ (List.mem_append_right _ (List.mem_append_right _ (List.mem_append_left _ (List.mem_of_getElem? (i := 25) rfl))))))))
theorem kn_218 : Cond.methodLink RL 64 yX3_slots ∈ kn_T := (List.mem_append_right _ (List.mem_append_right _ (List.mem_append_right _ (List.mem_append_right _ (List.mem_append_right _ (List.mem_append_right _ (List.mem_append_left _ (List.mem_of_getElem? (i := 26) rfl))))))))
theorem kn_219 : Cond.methodLink RL 68 yX3_peek ∈ kn_T := (List.mem_append_right _ (List.mem_append_right _ (List.mem_append_right _ (List.mem_append_right _ (List.mem_append_right _ (List.mem_append_right _ (List.mem_append_left _ (List.mem_of_getElem? (i := 27) rfl))))))))
theorem kn_220 : Cond.instanceMethod yX3_peek ∈ kn_T := (List.mem_append_right _ (List.mem_append_right _ (List.mem_append_right _ (List.mem_append_right _ (List.mem_append_right _ (List.mem_append_right _ (List.mem_append_left _ (List.mem_of_getElem? (i := 28) rfl))))))))
theorem kn_221 : Cond.selects RX3 yX3_peek yX3_peek ∈ kn_T := (List.mem_append_right _ (List.mem_append_right _ (List.mem_append_right _ (List.mem_append_right _ (List.mem_append_right _ (List.mem_append_right _ (List.mem_append_left _ (List.mem_of_getElem? (i := 29) rfl))))))))
theorem kn_222 : Cond.code yX3_peek cX3_peek 2 (some .int) ∈ kn_T := (List.mem_append_right _ (List.mem_append_right _ (List.mem_append_right _ (List.mem_append_right _ (List.mem_append_right _ (List.mem_append_right _ (List.mem_append_left _ (List.mem_of_getElem? (i := 30) rfl))))))))
theorem kn_223 : Cond.methodLink RL 72 yX3_writes ∈ kn_T := (List.mem_append_right _ (List.mem_append_right _ (List.mem_append_right _ (List.mem_append_right _ (List.mem_append_right _ (List.mem_append_right _ (List.mem_append_left _ (List.mem_of_getElem? (i := 31) rfl))))))))
theorem kn_224 : Cond.instanceMethod yX3_writes ∈ kn_T := (List.mem_append_right _ (List.mem_append_right _ (List.mem_append_right _ (List.mem_append_right _ (List.mem_append_right _ (List.mem_append_right _ (List.mem_append_right _ (List.mem_append_left _ (List.mem_of_getElem? (i := 0) rfl)))))))))
theorem kn_225 : Cond.selects RX3 yX3_writes yX3_writes ∈ kn_T := (List.mem_append_right _ (List.mem_append_right _ (List.mem_append_right _ (List.mem_append_right _ (List.mem_append_right _ (List.mem_append_right _ (List.mem_append_right _ (List.mem_append_left _ (List.mem_of_getElem? (i := 1) rfl)))))))))
theorem kn_226 : Cond.code yX3_writes cX3_writes 1 (some .int) ∈ kn_T := (List.mem_append_right _ (List.mem_append_right _ (List.mem_append_right _ (List.mem_append_right _ (List.mem_append_right _ (List.mem_append_right _ (List.mem_append_right _ (List.mem_append_left _ (List.mem_of_getElem? (i := 2) rfl)))))))))
theorem kn_227 : Cond.classLink RL 10 RX4 ∈ kn_T := (List.mem_append_right _ (List.mem_append_right _ (List.mem_append_right _ (List.mem_append_right _ (List.mem_append_right _ (List.mem_append_right _ (List.mem_append_right _ (List.mem_append_left _ (List.mem_of_getElem? (i := 3) rfl)))))))))
theorem kn_228 : Cond.instantiable RX4 14 ∈ kn_T := (List.mem_append_right _ (List.mem_append_right _ (List.mem_append_right _ (List.mem_append_right _ (List.mem_append_right _ (List.mem_append_right _ (List.mem_append_right _ (List.mem_append_left _ (List.mem_of_getElem? (i := 4) rfl)))))))))
theorem kn_229 : Cond.methodLink RL 12 yX4_init ∈ kn_T := (List.mem_append_right _ (List.mem_append_right _ (List.mem_append_right _ (List.mem_append_right _ (List.mem_append_right _ (List.mem_append_right _ (List.mem_append_right _ (List.mem_append_left _ (List.mem_of_getElem? (i := 5) rfl)))))))))
theorem kn_230 : Cond.instanceMethod yX4_init ∈ kn_T := (List.mem_append_right _ (List.mem_append_right _ (List.mem_append_right _ (List.mem_append_right _ (List.mem_append_right _ (List.mem_append_right _ (List.mem_append_right _ (List.mem_append_left _ (List.mem_of_getElem? (i := 6) rfl)))))))))
theorem kn_231 : Cond.code yX4_init cX4_init 1 none ∈ kn_T := (List.mem_append_right _ (List.mem_append_right _ (List.mem_append_right _ (List.mem_append_right _ (List.mem_append_right _ (List.mem_append_right _ (List.mem_append_right _ (List.mem_append_left _ (List.mem_of_getElem? (i := 7) rfl)))))))))
theorem kn_232 : Cond.methodLink RX4 1 objectInit ∈ kn_T := (List.mem_append_right _ (List.mem_append_right _ (List.mem_append_right _ (List.mem_append_right _ (List.mem_append_right _ (List.mem_append_right _ (List.mem_append_right _ (List.mem_append_left _ (List.mem_of_getElem? (i := 8) rfl)))))))))
theorem kn_233 : Cond.fieldLink RX4 7 "StripedKeyVolumeModel" "disk" "[I" ∈ kn_T := (List.mem_append_right _ (List.mem_append_right _ (List.mem_append_right _ (List.mem_append_right _ (List.mem_append_right _ (List.mem_append_right _ (List.mem_append_right _ (List.mem_append_left _ (List.mem_of_getElem? (i := 9) rfl)))))))))
theorem kn_234 : Cond.fieldLink RX4 13 "StripedKeyVolumeModel" "left" "I" ∈ kn_T := (List.mem_append_right _ (List.mem_append_right _ (List.mem_append_right _ (List.mem_append_right _ (List.mem_append_right _ (List.mem_append_right _ (List.mem_append_right _ (List.mem_append_left _ (List.mem_of_getElem? (i := 10) rfl)))))))))
theorem kn_235 : Cond.fieldLink RX4 92 "StripedKeyVolumeModel" "done" "I" ∈ kn_T := (List.mem_append_right _ (List.mem_append_right _ (List.mem_append_right _ (List.mem_append_right _ (List.mem_append_right _ (List.mem_append_right _ (List.mem_append_right _ (List.mem_append_left _ (List.mem_of_getElem? (i := 11) rfl)))))))))
theorem kn_236 : Cond.fieldLink RX4 89 "StripedKeyVolumeModel" "device" "I" ∈ kn_T := (List.mem_append_right _ (List.mem_append_right _ (List.mem_append_right _ (List.mem_append_right _ (List.mem_append_right _ (List.mem_append_right _ (List.mem_append_right _ (List.mem_append_left _ (List.mem_of_getElem? (i := 12) rfl)))))))))
theorem kn_237 : Cond.fieldLink RX4 116 "StripedKeyVolumeModel" "keyA" "I" ∈ kn_T := (List.mem_append_right _ (List.mem_append_right _ (List.mem_append_right _ (List.mem_append_right _ (List.mem_append_right _ (List.mem_append_right _ (List.mem_append_right _ (List.mem_append_left _ (List.mem_of_getElem? (i := 13) rfl)))))))))
theorem kn_238 : Cond.fieldLink RX4 119 "StripedKeyVolumeModel" "keyB" "I" ∈ kn_T := (List.mem_append_right _ (List.mem_append_right _ (List.mem_append_right _ (List.mem_append_right _ (List.mem_append_right _ (List.mem_append_right _ (List.mem_append_right _ (List.mem_append_left _ (List.mem_of_getElem? (i := 14) rfl)))))))))
theorem kn_239 : Cond.fieldLink RX4 73 "StripedKeyVolumeModel" "planned" "I" ∈ kn_T := (List.mem_append_right _ (List.mem_append_right _ (List.mem_append_right _ (List.mem_append_right _ (List.mem_append_right _ (List.mem_append_right _ (List.mem_append_right _ (List.mem_append_left _ (List.mem_of_getElem? (i := 15) rfl)))))))))
theorem kn_240 : Cond.fieldLink RX4 17 "StripedKeyVolumeModel" "places" "[I" ∈ kn_T := (List.mem_append_right _ (List.mem_append_right _ (List.mem_append_right _ (List.mem_append_right _ (List.mem_append_right _ (List.mem_append_right _ (List.mem_append_right _ (List.mem_append_left _ (List.mem_of_getElem? (i := 16) rfl)))))))))
theorem kn_241 : Cond.fieldLink RX4 20 "StripedKeyVolumeModel" "words" "[I" ∈ kn_T := (List.mem_append_right _ (List.mem_append_right _ (List.mem_append_right _ (List.mem_append_right _ (List.mem_append_right _ (List.mem_append_right _ (List.mem_append_right _ (List.mem_append_left _ (List.mem_of_getElem? (i := 17) rfl)))))))))
theorem kn_242 : Cond.fieldLink RX4 23 "StripedKeyVolumeModel" "shadow" "[I" ∈ kn_T := (List.mem_append_right _ (List.mem_append_right _ (List.mem_append_right _ (List.mem_append_right _ (List.mem_append_right _ (List.mem_append_right _ (List.mem_append_right _ (List.mem_append_left _ (List.mem_of_getElem? (i := 18) rfl)))))))))
theorem kn_243 : Cond.fieldLink RX4 26 "StripedKeyVolumeModel" "fresh" "[I" ∈ kn_T := (List.mem_append_right _ (List.mem_append_right _ (List.mem_append_right _ (List.mem_append_right _ (List.mem_append_right _ (List.mem_append_right _ (List.mem_append_right _ (List.mem_append_left _ (List.mem_of_getElem? (i := 19) rfl)))))))))
theorem kn_244 : Cond.fieldLink RX4 29 "StripedKeyVolumeModel" "stripe" "[I" ∈ kn_T := (List.mem_append_right _ (List.mem_append_right _ (List.mem_append_right _ (List.mem_append_right _ (List.mem_append_right _ (List.mem_append_right _ (List.mem_append_right _ (List.mem_append_left _ (List.mem_of_getElem? (i := 20) rfl)))))))))
theorem kn_245 : Cond.fieldLink RX4 60 "StripedKeyVolumeModel" "openA" "I" ∈ kn_T := (List.mem_append_right _ (List.mem_append_right _ (List.mem_append_right _ (List.mem_append_right _ (List.mem_append_right _ (List.mem_append_right _ (List.mem_append_right _ (List.mem_append_left _ (List.mem_of_getElem? (i := 21) rfl)))))))))
theorem kn_246 : Cond.fieldLink RX4 63 "StripedKeyVolumeModel" "openB" "I" ∈ kn_T := (List.mem_append_right _ (List.mem_append_right _ (List.mem_append_right _ (List.mem_append_right _ (List.mem_append_right _ (List.mem_append_right _ (List.mem_append_right _ (List.mem_append_left _ (List.mem_of_getElem? (i := 22) rfl)))))))))
theorem kn_247 : Cond.lays RX4 "StripedKeyVolumeModel" "disk" "[I" ∈ kn_T := (List.mem_append_right _ (List.mem_append_right _ (List.mem_append_right _ (List.mem_append_right _ (List.mem_append_right _ (List.mem_append_right _ (List.mem_append_right _ (List.mem_append_left _ (List.mem_of_getElem? (i := 23) rfl)))))))))
theorem kn_248 : Cond.lays RX4 "StripedKeyVolumeModel" "left" "I" ∈ kn_T := (List.mem_append_right _ (List.mem_append_right _ (List.mem_append_right _ (List.mem_append_right _ (List.mem_append_right _ (List.mem_append_right _ (List.mem_append_right _ (List.mem_append_left _ (List.mem_of_getElem? (i := 24) rfl)))))))))
theorem kn_249 : Cond.lays RX4 "StripedKeyVolumeModel" "done" "I" ∈ kn_T := (List.mem_append_right _ (List.mem_append_right _ (List.mem_append_right _ (List.mem_append_right _ (List.mem_append_right _ (List.mem_append_right _ (List.mem_append_right _ (List.mem_append_left _ (List.mem_of_getElem? (i := 25) rfl)))))))))
theorem kn_250 : Cond.lays RX4 "StripedKeyVolumeModel" "device" "I" ∈ kn_T := (List.mem_append_right _ (List.mem_append_right _ (List.mem_append_right _ (List.mem_append_right _ (List.mem_append_right _ (List.mem_append_right _ (List.mem_append_right _ (List.mem_append_left _ (List.mem_of_getElem? (i := 26) rfl)))))))))
theorem kn_251 : Cond.lays RX4 "StripedKeyVolumeModel" "keyA" "I" ∈ kn_T := (List.mem_append_right _ (List.mem_append_right _ (List.mem_append_right _ (List.mem_append_right _ (List.mem_append_right _ (List.mem_append_right _ (List.mem_append_right _ (List.mem_append_left _ (List.mem_of_getElem? (i := 27) rfl)))))))))
theorem kn_252 : Cond.lays RX4 "StripedKeyVolumeModel" "keyB" "I" ∈ kn_T := (List.mem_append_right _ (List.mem_append_right _ (List.mem_append_right _ (List.mem_append_right _ (List.mem_append_right _ (List.mem_append_right _ (List.mem_append_right _ (List.mem_append_left _ (List.mem_of_getElem? (i := 28) rfl)))))))))
theorem kn_253 : Cond.lays RX4 "StripedKeyVolumeModel" "planned" "I" ∈ kn_T := (List.mem_append_right _ (List.mem_append_right _ (List.mem_append_right _ (List.mem_append_right _ (List.mem_append_right _ (List.mem_append_right _ (List.mem_append_right _ (List.mem_append_left _ (List.mem_of_getElem? (i := 29) rfl)))))))))
theorem kn_254 : Cond.lays RX4 "StripedKeyVolumeModel" "places" "[I" ∈ kn_T := (List.mem_append_right _ (List.mem_append_right _ (List.mem_append_right _ (List.mem_append_right _ (List.mem_append_right _ (List.mem_append_right _ (List.mem_append_right _ (List.mem_append_left _ (List.mem_of_getElem? (i := 30) rfl)))))))))
theorem kn_255 : Cond.lays RX4 "StripedKeyVolumeModel" "words" "[I" ∈ kn_T := (List.mem_append_right _ (List.mem_append_right _ (List.mem_append_right _ (List.mem_append_right _ (List.mem_append_right _ (List.mem_append_right _ (List.mem_append_right _ (List.mem_append_left _ (List.mem_of_getElem? (i := 31) rfl)))))))))
theorem kn_256 : Cond.lays RX4 "StripedKeyVolumeModel" "shadow" "[I" ∈ kn_T := (List.mem_append_right _ (List.mem_append_right _ (List.mem_append_right _ (List.mem_append_right _ (List.mem_append_right _ (List.mem_append_right _ (List.mem_append_right _ (List.mem_append_right _ (List.mem_append_left _ (List.mem_of_getElem? (i := 0) rfl))))))))))
theorem kn_257 : Cond.lays RX4 "StripedKeyVolumeModel" "fresh" "[I" ∈ kn_T := (List.mem_append_right _ (List.mem_append_right _ (List.mem_append_right _ (List.mem_append_right _ (List.mem_append_right _ (List.mem_append_right _ (List.mem_append_right _ (List.mem_append_right _ (List.mem_append_left _ (List.mem_of_getElem? (i := 1) rfl))))))))))
theorem kn_258 : Cond.lays RX4 "StripedKeyVolumeModel" "stripe" "[I" ∈ kn_T := (List.mem_append_right _ (List.mem_append_right _ (List.mem_append_right _ (List.mem_append_right _ (List.mem_append_right _ (List.mem_append_right _ (List.mem_append_right _ (List.mem_append_right _ (List.mem_append_left _ (List.mem_of_getElem? (i := 2) rfl))))))))))
theorem kn_259 : Cond.lays RX4 "StripedKeyVolumeModel" "openA" "I" ∈ kn_T := (List.mem_append_right _ (List.mem_append_right _ (List.mem_append_right _ (List.mem_append_right _ (List.mem_append_right _ (List.mem_append_right _ (List.mem_append_right _ (List.mem_append_right _ (List.mem_append_left _ (List.mem_of_getElem? (i := 3) rfl))))))))))
theorem kn_260 : Cond.lays RX4 "StripedKeyVolumeModel" "openB" "I" ∈ kn_T := (List.mem_append_right _ (List.mem_append_right _ (List.mem_append_right _ (List.mem_append_right _ (List.mem_append_right _ (List.mem_append_right _ (List.mem_append_right _ (List.mem_append_right _ (List.mem_append_left _ (List.mem_of_getElem? (i := 4) rfl))))))))))
theorem kn_261 : Cond.methodLink RL 17 yX4_cut ∈ kn_T := (List.mem_append_right _ (List.mem_append_right _ (List.mem_append_right _ (List.mem_append_right _ (List.mem_append_right _ (List.mem_append_right _ (List.mem_append_right _ (List.mem_append_right _ (List.mem_append_left _ (List.mem_of_getElem? (i := 5) rfl))))))))))
theorem kn_262 : Cond.instanceMethod yX4_cut ∈ kn_T := (List.mem_append_right _ (List.mem_append_right _ (List.mem_append_right _ (List.mem_append_right _ (List.mem_append_right _ (List.mem_append_right _ (List.mem_append_right _ (List.mem_append_right _ (List.mem_append_left _ (List.mem_of_getElem? (i := 6) rfl))))))))))
theorem kn_263 : Cond.selects RX4 yX4_cut yX4_cut ∈ kn_T := (List.mem_append_right _ (List.mem_append_right _ (List.mem_append_right _ (List.mem_append_right _ (List.mem_append_right _ (List.mem_append_right _ (List.mem_append_right _ (List.mem_append_right _ (List.mem_append_left _ (List.mem_of_getElem? (i := 7) rfl))))))))))
theorem kn_264 : Cond.code yX4_cut cX4_cut 2 (some .boolean) ∈ kn_T := (List.mem_append_right _ (List.mem_append_right _ (List.mem_append_right _ (List.mem_append_right _ (List.mem_append_right _ (List.mem_append_right _ (List.mem_append_right _ (List.mem_append_right _ (List.mem_append_left _ (List.mem_of_getElem? (i := 8) rfl))))))))))
theorem kn_265 : Cond.methodLink RL 22 yX4_format ∈ kn_T := (List.mem_append_right _ (List.mem_append_right _ (List.mem_append_right _ (List.mem_append_right _ (List.mem_append_right _ (List.mem_append_right _ (List.mem_append_right _ (List.mem_append_right _ (List.mem_append_left _ (List.mem_of_getElem? (i := 9) rfl))))))))))
theorem kn_266 : Cond.instanceMethod yX4_format ∈ kn_T := (List.mem_append_right _ (List.mem_append_right _ (List.mem_append_right _ (List.mem_append_right _ (List.mem_append_right _ (List.mem_append_right _ (List.mem_append_right _ (List.mem_append_right _ (List.mem_append_left _ (List.mem_of_getElem? (i := 10) rfl))))))))))
theorem kn_267 : Cond.selects RX4 yX4_format yX4_format ∈ kn_T := (List.mem_append_right _ (List.mem_append_right _ (List.mem_append_right _ (List.mem_append_right _ (List.mem_append_right _ (List.mem_append_right _ (List.mem_append_right _ (List.mem_append_right _ (List.mem_append_left _ (List.mem_of_getElem? (i := 11) rfl))))))))))
theorem kn_268 : Cond.code yX4_format cX4_format 7 (some .int) ∈ kn_T := (List.mem_append_right _ (List.mem_append_right _ (List.mem_append_right _ (List.mem_append_right _ (List.mem_append_right _ (List.mem_append_right _ (List.mem_append_right _ (List.mem_append_right _ (List.mem_append_left _ (List.mem_of_getElem? (i := 12) rfl))))))))))
theorem kn_269 : Cond.methodLink RX4 83 yX4_begin ∈ kn_T := (List.mem_append_right _ (List.mem_append_right _ (List.mem_append_right _ (List.mem_append_right _ (List.mem_append_right _ (List.mem_append_right _ (List.mem_append_right _ (List.mem_append_right _ (List.mem_append_left _ (List.mem_of_getElem? (i := 13) rfl))))))))))
theorem kn_270 : Cond.instanceMethod yX4_begin ∈ kn_T := (List.mem_append_right _ (List.mem_append_right _ (List.mem_append_right _ (List.mem_append_right _ (List.mem_append_right _ (List.mem_append_right _ (List.mem_append_right _ (List.mem_append_right _ (List.mem_append_left _ (List.mem_of_getElem? (i := 14) rfl))))))))))
theorem kn_271 : Cond.code yX4_begin cX4_begin 2 none ∈ kn_T := (List.mem_append_right _ (List.mem_append_right _ (List.mem_append_right _ (List.mem_append_right _ (List.mem_append_right _ (List.mem_append_right _ (List.mem_append_right _ (List.mem_append_right _ (List.mem_append_left _ (List.mem_of_getElem? (i := 15) rfl))))))))))
theorem kn_272 : Cond.methodLink RX4 35 yX4_h ∈ kn_T := (List.mem_append_right _ (List.mem_append_right _ (List.mem_append_right _ (List.mem_append_right _ (List.mem_append_right _ (List.mem_append_right _ (List.mem_append_right _ (List.mem_append_right _ (List.mem_append_left _ (List.mem_of_getElem? (i := 16) rfl))))))))))
theorem kn_273 : Cond.static yX4_h ∈ kn_T := (List.mem_append_right _ (List.mem_append_right _ (List.mem_append_right _ (List.mem_append_right _ (List.mem_append_right _ (List.mem_append_right _ (List.mem_append_right _ (List.mem_append_right _ (List.mem_append_left _ (List.mem_of_getElem? (i := 17) rfl))))))))))
theorem kn_274 : Cond.code yX4_h cX4_h 3 (some .int) ∈ kn_T := (List.mem_append_right _ (List.mem_append_right _ (List.mem_append_right _ (List.mem_append_right _ (List.mem_append_right _ (List.mem_append_right _ (List.mem_append_right _ (List.mem_append_right _ (List.mem_append_left _ (List.mem_of_getElem? (i := 18) rfl))))))))))
theorem kn_275 : Cond.constant RX4 32 1517746329 ∈ kn_T := (List.mem_append_right _ (List.mem_append_right _ (List.mem_append_right _ (List.mem_append_right _ (List.mem_append_right _ (List.mem_append_right _ (List.mem_append_right _ (List.mem_append_right _ (List.mem_append_left _ (List.mem_of_getElem? (i := 19) rfl))))))))))
theorem kn_276 : Cond.constant RX4 33 916191069 ∈ kn_T := (List.mem_append_right _ (List.mem_append_right _ (List.mem_append_right _ (List.mem_append_right _ (List.mem_append_right _ (List.mem_append_right _ (List.mem_append_right _ (List.mem_append_right _ (List.mem_append_left _ (List.mem_of_getElem? (i := 20) rfl))))))))))
theorem kn_277 : Cond.constant RX4 34 1406938949 ∈ kn_T := (List.mem_append_right _ (List.mem_append_right _ (List.mem_append_right _ (List.mem_append_right _ (List.mem_append_right _ (List.mem_append_right _ (List.mem_append_right _ (List.mem_append_right _ (List.mem_append_left _ (List.mem_of_getElem? (i := 21) rfl))))))))))
theorem kn_278 : Cond.methodLink RX4 70 yX4_digest ∈ kn_T := (List.mem_append_right _ (List.mem_append_right _ (List.mem_append_right _ (List.mem_append_right _ (List.mem_append_right _ (List.mem_append_right _ (List.mem_append_right _ (List.mem_append_right _ (List.mem_append_left _ (List.mem_of_getElem? (i := 22) rfl))))))))))
theorem kn_279 : Cond.static yX4_digest ∈ kn_T := (List.mem_append_right _ (List.mem_append_right _ (List.mem_append_right _ (List.mem_append_right _ (List.mem_append_right _ (List.mem_append_right _ (List.mem_append_right _ (List.mem_append_right _ (List.mem_append_left _ (List.mem_of_getElem? (i := 23) rfl))))))))))
theorem kn_280 : Cond.code yX4_digest cX4_digest 4 (some .int) ∈ kn_T := (List.mem_append_right _ (List.mem_append_right _ (List.mem_append_right _ (List.mem_append_right _ (List.mem_append_right _ (List.mem_append_right _ (List.mem_append_right _ (List.mem_append_right _ (List.mem_append_left _ (List.mem_of_getElem? (i := 24) rfl))))))))))
theorem kn_281 : Cond.methodLink RX4 95 yX4_makeSlot ∈ kn_T := (List.mem_append_right _ (List.mem_append_right _ (List.mem_append_right _ (List.mem_append_right _ (List.mem_append_right _ (List.mem_append_right _ (List.mem_append_right _ (List.mem_append_right _ (List.mem_append_left _ (List.mem_of_getElem? (i := 25) rfl))))))))))
theorem kn_282 : Cond.instanceMethod yX4_makeSlot ∈ kn_T := (List.mem_append_right _ (List.mem_append_right _ (List.mem_append_right _ (List.mem_append_right _ (List.mem_append_right _ (List.mem_append_right _ (List.mem_append_right _ (List.mem_append_right _ (List.mem_append_left _ (List.mem_of_getElem? (i := 26) rfl))))))))))
theorem kn_283 : Cond.code yX4_makeSlot cX4_makeSlot 8 none ∈ kn_T := (List.mem_append_right _ (List.mem_append_right _ (List.mem_append_right _ (List.mem_append_right _ (List.mem_append_right _ (List.mem_append_right _ (List.mem_append_right _ (List.mem_append_right _ (List.mem_append_left _ (List.mem_of_getElem? (i := 27) rfl))))))))))
theorem kn_284 : Cond.methodLink RX4 53 yX4_cover ∈ kn_T := (List.mem_append_right _ (List.mem_append_right _ (List.mem_append_right _ (List.mem_append_right _ (List.mem_append_right _ (List.mem_append_right _ (List.mem_append_right _ (List.mem_append_right _ (List.mem_append_left _ (List.mem_of_getElem? (i := 28) rfl))))))))))
theorem kn_285 : Cond.instanceMethod yX4_cover ∈ kn_T := (List.mem_append_right _ (List.mem_append_right _ (List.mem_append_right _ (List.mem_append_right _ (List.mem_append_right _ (List.mem_append_right _ (List.mem_append_right _ (List.mem_append_right _ (List.mem_append_left _ (List.mem_of_getElem? (i := 29) rfl))))))))))
theorem kn_286 : Cond.code yX4_cover cX4_cover 3 (some .int) ∈ kn_T := (List.mem_append_right _ (List.mem_append_right _ (List.mem_append_right _ (List.mem_append_right _ (List.mem_append_right _ (List.mem_append_right _ (List.mem_append_right _ (List.mem_append_right _ (List.mem_append_left _ (List.mem_of_getElem? (i := 30) rfl))))))))))
theorem kn_287 : Cond.methodLink RX4 57 yX4_slotKey ∈ kn_T := (List.mem_append_right _ (List.mem_append_right _ (List.mem_append_right _ (List.mem_append_right _ (List.mem_append_right _ (List.mem_append_right _ (List.mem_append_right _ (List.mem_append_right _ (List.mem_append_left _ (List.mem_of_getElem? (i := 31) rfl))))))))))
theorem kn_288 : Cond.static yX4_slotKey ∈ kn_T := (List.mem_append_right _ (List.mem_append_right _ (List.mem_append_right _ (List.mem_append_right _ (List.mem_append_right _ (List.mem_append_right _ (List.mem_append_right _ (List.mem_append_right _ (List.mem_append_right _ (List.mem_append_left _ (List.mem_of_getElem? (i := 0) rfl)))))))))))
theorem kn_289 : Cond.code yX4_slotKey cX4_slotKey 6 (some .int) ∈ kn_T := (List.mem_append_right _ (List.mem_append_right _ (List.mem_append_right _ (List.mem_append_right _ (List.mem_append_right _ (List.mem_append_right _ (List.mem_append_right _ (List.mem_append_right _ (List.mem_append_right _ (List.mem_append_left _ (List.mem_of_getElem? (i := 1) rfl)))))))))))
theorem kn_290 : Cond.methodLink RX4 44 yX4_enc ∈ kn_T := (List.mem_append_right _ (List.mem_append_right _ (List.mem_append_right _ (List.mem_append_right _ (List.mem_append_right _ (List.mem_append_right _ (List.mem_append_right _ (List.mem_append_right _ (List.mem_append_right _ (List.mem_append_left _ (List.mem_of_getElem? (i := 2) rfl)))))))))))
theorem kn_291 : Cond.static yX4_enc ∈ kn_T := (List.mem_append_right _ (List.mem_append_right _ (List.mem_append_right _ (List.mem_append_right _ (List.mem_append_right _ (List.mem_append_right _ (List.mem_append_right _ (List.mem_append_right _ (List.mem_append_right _ (List.mem_append_left _ (List.mem_of_getElem? (i := 3) rfl)))))))))))
theorem kn_292 : Cond.code yX4_enc cX4_enc 6 (some .int) ∈ kn_T := (List.mem_append_right _ (List.mem_append_right _ (List.mem_append_right _ (List.mem_append_right _ (List.mem_append_right _ (List.mem_append_right _ (List.mem_append_right _ (List.mem_append_right _ (List.mem_append_right _ (List.mem_append_left _ (List.mem_of_getElem? (i := 4) rfl)))))))))))
theorem kn_293 : Cond.constant RX4 39 65535 ∈ kn_T := (List.mem_append_right _ (List.mem_append_right _ (List.mem_append_right _ (List.mem_append_right _ (List.mem_append_right _ (List.mem_append_right _ (List.mem_append_right _ (List.mem_append_right _ (List.mem_append_right _ (List.mem_append_left _ (List.mem_of_getElem? (i := 5) rfl)))))))))))
theorem kn_294 : Cond.methodLink RX4 40 yX4_round ∈ kn_T := (List.mem_append_right _ (List.mem_append_right _ (List.mem_append_right _ (List.mem_append_right _ (List.mem_append_right _ (List.mem_append_right _ (List.mem_append_right _ (List.mem_append_right _ (List.mem_append_right _ (List.mem_append_left _ (List.mem_of_getElem? (i := 6) rfl)))))))))))
theorem kn_295 : Cond.static yX4_round ∈ kn_T := (List.mem_append_right _ (List.mem_append_right _ (List.mem_append_right _ (List.mem_append_right _ (List.mem_append_right _ (List.mem_append_right _ (List.mem_append_right _ (List.mem_append_right _ (List.mem_append_right _ (List.mem_append_left _ (List.mem_of_getElem? (i := 7) rfl)))))))))))
theorem kn_296 : Cond.code yX4_round cX4_round 4 (some .int) ∈ kn_T := (List.mem_append_right _ (List.mem_append_right _ (List.mem_append_right _ (List.mem_append_right _ (List.mem_append_right _ (List.mem_append_right _ (List.mem_append_right _ (List.mem_append_right _ (List.mem_append_right _ (List.mem_append_left _ (List.mem_of_getElem? (i := 8) rfl)))))))))))
theorem kn_297 : Cond.methodLink RX4 99 yX4_hide ∈ kn_T := (List.mem_append_right _ (List.mem_append_right _ (List.mem_append_right _ (List.mem_append_right _ (List.mem_append_right _ (List.mem_append_right _ (List.mem_append_right _ (List.mem_append_right _ (List.mem_append_right _ (List.mem_append_left _ (List.mem_of_getElem? (i := 9) rfl)))))))))))
theorem kn_298 : Cond.static yX4_hide ∈ kn_T := (List.mem_append_right _ (List.mem_append_right _ (List.mem_append_right _ (List.mem_append_right _ (List.mem_append_right _ (List.mem_append_right _ (List.mem_append_right _ (List.mem_append_right _ (List.mem_append_right _ (List.mem_append_left _ (List.mem_of_getElem? (i := 10) rfl)))))))))))
theorem kn_299 : Cond.code yX4_hide cX4_hide 6 (some .int) ∈ kn_T := (List.mem_append_right _ (List.mem_append_right _ (List.mem_append_right _ (List.mem_append_right _ (List.mem_append_right _ (List.mem_append_right _ (List.mem_append_right _ (List.mem_append_right _ (List.mem_append_right _ (List.mem_append_left _ (List.mem_of_getElem? (i := 11) rfl)))))))))))
theorem kn_300 : Cond.methodLink RX4 47 yX4_mask ∈ kn_T := (List.mem_append_right _ (List.mem_append_right _ (List.mem_append_right _ (List.mem_append_right _ (List.mem_append_right _ (List.mem_append_right _ (List.mem_append_right _ (List.mem_append_right _ (List.mem_append_right _ (List.mem_append_left _ (List.mem_of_getElem? (i := 12) rfl)))))))))))
theorem kn_301 : Cond.static yX4_mask ∈ kn_T := (List.mem_append_right _ (List.mem_append_right _ (List.mem_append_right _ (List.mem_append_right _ (List.mem_append_right _ (List.mem_append_right _ (List.mem_append_right _ (List.mem_append_right _ (List.mem_append_right _ (List.mem_append_left _ (List.mem_of_getElem? (i := 13) rfl)))))))))))
theorem kn_302 : Cond.code yX4_mask cX4_mask 5 (some .int) ∈ kn_T := (List.mem_append_right _ (List.mem_append_right _ (List.mem_append_right _ (List.mem_append_right _ (List.mem_append_right _ (List.mem_append_right _ (List.mem_append_right _ (List.mem_append_right _ (List.mem_append_right _ (List.mem_append_left _ (List.mem_of_getElem? (i := 14) rfl)))))))))))
theorem kn_303 : Cond.methodLink RX4 76 yX4_plan ∈ kn_T := (List.mem_append_right _ (List.mem_append_right _ (List.mem_append_right _ (List.mem_append_right _ (List.mem_append_right _ (List.mem_append_right _ (List.mem_append_right _ (List.mem_append_right _ (List.mem_append_right _ (List.mem_append_left _ (List.mem_of_getElem? (i := 15) rfl)))))))))))
theorem kn_304 : Cond.instanceMethod yX4_plan ∈ kn_T := (List.mem_append_right _ (List.mem_append_right _ (List.mem_append_right _ (List.mem_append_right _ (List.mem_append_right _ (List.mem_append_right _ (List.mem_append_right _ (List.mem_append_right _ (List.mem_append_right _ (List.mem_append_left _ (List.mem_of_getElem? (i := 16) rfl)))))))))))
theorem kn_305 : Cond.code yX4_plan cX4_plan 3 none ∈ kn_T := (List.mem_append_right _ (List.mem_append_right _ (List.mem_append_right _ (List.mem_append_right _ (List.mem_append_right _ (List.mem_append_right _ (List.mem_append_right _ (List.mem_append_right _ (List.mem_append_right _ (List.mem_append_left _ (List.mem_of_getElem? (i := 17) rfl)))))))))))
theorem kn_306 : Cond.constant RX4 103 1396855379 ∈ kn_T := (List.mem_append_right _ (List.mem_append_right _ (List.mem_append_right _ (List.mem_append_right _ (List.mem_append_right _ (List.mem_append_right _ (List.mem_append_right _ (List.mem_append_right _ (List.mem_append_right _ (List.mem_append_left _ (List.mem_of_getElem? (i := 18) rfl)))))))))))
theorem kn_307 : Cond.methodLink RX4 104 yX4_perform ∈ kn_T := (List.mem_append_right _ (List.mem_append_right _ (List.mem_append_right _ (List.mem_append_right _ (List.mem_append_right _ (List.mem_append_right _ (List.mem_append_right _ (List.mem_append_right _ (List.mem_append_right _ (List.mem_append_left _ (List.mem_of_getElem? (i := 19) rfl)))))))))))
theorem kn_308 : Cond.instanceMethod yX4_perform ∈ kn_T := (List.mem_append_right _ (List.mem_append_right _ (List.mem_append_right _ (List.mem_append_right _ (List.mem_append_right _ (List.mem_append_right _ (List.mem_append_right _ (List.mem_append_right _ (List.mem_append_right _ (List.mem_append_left _ (List.mem_of_getElem? (i := 20) rfl)))))))))))
theorem kn_309 : Cond.code yX4_perform cX4_perform 2 (some .boolean) ∈ kn_T := (List.mem_append_right _ (List.mem_append_right _ (List.mem_append_right _ (List.mem_append_right _ (List.mem_append_right _ (List.mem_append_right _ (List.mem_append_right _ (List.mem_append_right _ (List.mem_append_right _ (List.mem_append_left _ (List.mem_of_getElem? (i := 21) rfl)))))))))))
theorem kn_310 : Cond.methodLink RL 27 yX4_mount ∈ kn_T := (List.mem_append_right _ (List.mem_append_right _ (List.mem_append_right _ (List.mem_append_right _ (List.mem_append_right _ (List.mem_append_right _ (List.mem_append_right _ (List.mem_append_right _ (List.mem_append_right _ (List.mem_append_left _ (List.mem_of_getElem? (i := 22) rfl)))))))))))
theorem kn_311 : Cond.instanceMethod yX4_mount ∈ kn_T := (List.mem_append_right _ (List.mem_append_right _ (List.mem_append_right _ (List.mem_append_right _ (List.mem_append_right _ (List.mem_append_right _ (List.mem_append_right _ (List.mem_append_right _ (List.mem_append_right _ (List.mem_append_left _ (List.mem_of_getElem? (i := 23) rfl)))))))))))
theorem kn_312 : Cond.selects RX4 yX4_mount yX4_mount ∈ kn_T := (List.mem_append_right _ (List.mem_append_right _ (List.mem_append_right _ (List.mem_append_right _ (List.mem_append_right _ (List.mem_append_right _ (List.mem_append_right _ (List.mem_append_right _ (List.mem_append_right _ (List.mem_append_left _ (List.mem_of_getElem? (i := 24) rfl)))))))))))
theorem kn_313 : Cond.code yX4_mount cX4_mount 1 (some .int) ∈ kn_T := (List.mem_append_right _ (List.mem_append_right _ (List.mem_append_right _ (List.mem_append_right _ (List.mem_append_right _ (List.mem_append_right _ (List.mem_append_right _ (List.mem_append_right _ (List.mem_append_right _ (List.mem_append_left _ (List.mem_of_getElem? (i := 25) rfl)))))))))))
theorem kn_314 : Cond.methodLink RX4 86 yX4_planFinish ∈ kn_T := (List.mem_append_right _ (List.mem_append_right _ (List.mem_append_right _ (List.mem_append_right _ (List.mem_append_right _ (List.mem_append_right _ (List.mem_append_right _ (List.mem_append_right _ (List.mem_append_right _ (List.mem_append_left _ (List.mem_of_getElem? (i := 26) rfl)))))))))))
theorem kn_315 : Cond.instanceMethod yX4_planFinish ∈ kn_T := (List.mem_append_right _ (List.mem_append_right _ (List.mem_append_right _ (List.mem_append_right _ (List.mem_append_right _ (List.mem_append_right _ (List.mem_append_right _ (List.mem_append_right _ (List.mem_append_right _ (List.mem_append_left _ (List.mem_of_getElem? (i := 27) rfl)))))))))))
theorem kn_316 : Cond.code yX4_planFinish cX4_planFinish 4 none ∈ kn_T := (List.mem_append_right _ (List.mem_append_right _ (List.mem_append_right _ (List.mem_append_right _ (List.mem_append_right _ (List.mem_append_right _ (List.mem_append_right _ (List.mem_append_right _ (List.mem_append_right _ (List.mem_append_left _ (List.mem_of_getElem? (i := 28) rfl)))))))))))
theorem kn_317 : Cond.methodLink RX4 80 yX4_planClean ∈ kn_T := (List.mem_append_right _ (List.mem_append_right _ (List.mem_append_right _ (List.mem_append_right _ (List.mem_append_right _ (List.mem_append_right _ (List.mem_append_right _ (List.mem_append_right _ (List.mem_append_right _ (List.mem_append_left _ (List.mem_of_getElem? (i := 29) rfl)))))))))))
theorem kn_318 : Cond.instanceMethod yX4_planClean ∈ kn_T := (List.mem_append_right _ (List.mem_append_right _ (List.mem_append_right _ (List.mem_append_right _ (List.mem_append_right _ (List.mem_append_right _ (List.mem_append_right _ (List.mem_append_right _ (List.mem_append_right _ (List.mem_append_left _ (List.mem_of_getElem? (i := 30) rfl)))))))))))
theorem kn_319 : Cond.code yX4_planClean cX4_planClean 2 none ∈ kn_T := (List.mem_append_right _ (List.mem_append_right _ (List.mem_append_right _ (List.mem_append_right _ (List.mem_append_right _ (List.mem_append_right _ (List.mem_append_right _ (List.mem_append_right _ (List.mem_append_right _ (List.mem_append_left _ (List.mem_of_getElem? (i := 31) rfl)))))))))))
theorem kn_320 : Cond.methodLink RX4 108 yX4_count ∈ kn_T := (List.mem_append_right _ (List.mem_append_right _ (List.mem_append_right _ (List.mem_append_right _ (List.mem_append_right _ (List.mem_append_right _ (List.mem_append_right _ (List.mem_append_right _ (List.mem_append_right _ (List.mem_append_right _ (List.mem_append_left _ (List.mem_of_getElem? (i := 0) rfl))))))))))))
theorem kn_321 : Cond.instanceMethod yX4_count ∈ kn_T := (List.mem_append_right _ (List.mem_append_right _ (List.mem_append_right _ (List.mem_append_right _ (List.mem_append_right _ (List.mem_append_right _ (List.mem_append_right _ (List.mem_append_right _ (List.mem_append_right _ (List.mem_append_right _ (List.mem_append_left _ (List.mem_of_getElem? (i := 1) rfl))))))))))))
theorem kn_322 : Cond.code yX4_count cX4_count 3 (some .int) ∈ kn_T := (List.mem_append_right _ (List.mem_append_right _ (List.mem_append_right _ (List.mem_append_right _ (List.mem_append_right _ (List.mem_append_right _ (List.mem_append_right _ (List.mem_append_right _ (List.mem_append_right _ (List.mem_append_right _ (List.mem_append_left _ (List.mem_of_getElem? (i := 2) rfl))))))))))))
theorem kn_323 : Cond.methodLink RX4 66 yX4_active ∈ kn_T := (List.mem_append_right _ (List.mem_append_right _ (List.mem_append_right _ (List.mem_append_right _ (List.mem_append_right _ (List.mem_append_right _ (List.mem_append_right _ (List.mem_append_right _ (List.mem_append_right _ (List.mem_append_right _ (List.mem_append_left _ (List.mem_of_getElem? (i := 3) rfl))))))))))))
theorem kn_324 : Cond.instanceMethod yX4_active ∈ kn_T := (List.mem_append_right _ (List.mem_append_right _ (List.mem_append_right _ (List.mem_append_right _ (List.mem_append_right _ (List.mem_append_right _ (List.mem_append_right _ (List.mem_append_right _ (List.mem_append_right _ (List.mem_append_right _ (List.mem_append_left _ (List.mem_of_getElem? (i := 4) rfl))))))))))))
theorem kn_325 : Cond.code yX4_active cX4_active 2 (some .boolean) ∈ kn_T := (List.mem_append_right _ (List.mem_append_right _ (List.mem_append_right _ (List.mem_append_right _ (List.mem_append_right _ (List.mem_append_right _ (List.mem_append_right _ (List.mem_append_right _ (List.mem_append_right _ (List.mem_append_right _ (List.mem_append_left _ (List.mem_of_getElem? (i := 5) rfl))))))))))))
theorem kn_326 : Cond.methodLink RL 32 yX4_unlock ∈ kn_T := (List.mem_append_right _ (List.mem_append_right _ (List.mem_append_right _ (List.mem_append_right _ (List.mem_append_right _ (List.mem_append_right _ (List.mem_append_right _ (List.mem_append_right _ (List.mem_append_right _ (List.mem_append_right _ (List.mem_append_left _ (List.mem_of_getElem? (i := 6) rfl))))))))))))
theorem kn_327 : Cond.instanceMethod yX4_unlock ∈ kn_T := (List.mem_append_right _ (List.mem_append_right _ (List.mem_append_right _ (List.mem_append_right _ (List.mem_append_right _ (List.mem_append_right _ (List.mem_append_right _ (List.mem_append_right _ (List.mem_append_right _ (List.mem_append_right _ (List.mem_append_left _ (List.mem_of_getElem? (i := 7) rfl))))))))))))
theorem kn_328 : Cond.selects RX4 yX4_unlock yX4_unlock ∈ kn_T := (List.mem_append_right _ (List.mem_append_right _ (List.mem_append_right _ (List.mem_append_right _ (List.mem_append_right _ (List.mem_append_right _ (List.mem_append_right _ (List.mem_append_right _ (List.mem_append_right _ (List.mem_append_right _ (List.mem_append_left _ (List.mem_of_getElem? (i := 8) rfl))))))))))))
theorem kn_329 : Cond.code yX4_unlock cX4_unlock 3 (some .int) ∈ kn_T := (List.mem_append_right _ (List.mem_append_right _ (List.mem_append_right _ (List.mem_append_right _ (List.mem_append_right _ (List.mem_append_right _ (List.mem_append_right _ (List.mem_append_right _ (List.mem_append_right _ (List.mem_append_right _ (List.mem_append_left _ (List.mem_of_getElem? (i := 9) rfl))))))))))))
theorem kn_330 : Cond.methodLink RX4 112 yX4_opens ∈ kn_T := (List.mem_append_right _ (List.mem_append_right _ (List.mem_append_right _ (List.mem_append_right _ (List.mem_append_right _ (List.mem_append_right _ (List.mem_append_right _ (List.mem_append_right _ (List.mem_append_right _ (List.mem_append_right _ (List.mem_append_left _ (List.mem_of_getElem? (i := 10) rfl))))))))))))
theorem kn_331 : Cond.instanceMethod yX4_opens ∈ kn_T := (List.mem_append_right _ (List.mem_append_right _ (List.mem_append_right _ (List.mem_append_right _ (List.mem_append_right _ (List.mem_append_right _ (List.mem_append_right _ (List.mem_append_right _ (List.mem_append_right _ (List.mem_append_right _ (List.mem_append_left _ (List.mem_of_getElem? (i := 11) rfl))))))))))))
theorem kn_332 : Cond.code yX4_opens cX4_opens 6 (some .boolean) ∈ kn_T := (List.mem_append_right _ (List.mem_append_right _ (List.mem_append_right _ (List.mem_append_right _ (List.mem_append_right _ (List.mem_append_right _ (List.mem_append_right _ (List.mem_append_right _ (List.mem_append_right _ (List.mem_append_right _ (List.mem_append_left _ (List.mem_of_getElem? (i := 12) rfl))))))))))))
theorem kn_333 : Cond.methodLink RX4 50 yX4_dec ∈ kn_T := (List.mem_append_right _ (List.mem_append_right _ (List.mem_append_right _ (List.mem_append_right _ (List.mem_append_right _ (List.mem_append_right _ (List.mem_append_right _ (List.mem_append_right _ (List.mem_append_right _ (List.mem_append_right _ (List.mem_append_left _ (List.mem_of_getElem? (i := 13) rfl))))))))))))
theorem kn_334 : Cond.static yX4_dec ∈ kn_T := (List.mem_append_right _ (List.mem_append_right _ (List.mem_append_right _ (List.mem_append_right _ (List.mem_append_right _ (List.mem_append_right _ (List.mem_append_right _ (List.mem_append_right _ (List.mem_append_right _ (List.mem_append_right _ (List.mem_append_left _ (List.mem_of_getElem? (i := 14) rfl))))))))))))
theorem kn_335 : Cond.code yX4_dec cX4_dec 6 (some .int) ∈ kn_T := (List.mem_append_right _ (List.mem_append_right _ (List.mem_append_right _ (List.mem_append_right _ (List.mem_append_right _ (List.mem_append_right _ (List.mem_append_right _ (List.mem_append_right _ (List.mem_append_right _ (List.mem_append_right _ (List.mem_append_left _ (List.mem_of_getElem? (i := 15) rfl))))))))))))
theorem kn_336 : Cond.methodLink RL 36 yX4_lock ∈ kn_T := (List.mem_append_right _ (List.mem_append_right _ (List.mem_append_right _ (List.mem_append_right _ (List.mem_append_right _ (List.mem_append_right _ (List.mem_append_right _ (List.mem_append_right _ (List.mem_append_right _ (List.mem_append_right _ (List.mem_append_left _ (List.mem_of_getElem? (i := 16) rfl))))))))))))
theorem kn_337 : Cond.instanceMethod yX4_lock ∈ kn_T := (List.mem_append_right _ (List.mem_append_right _ (List.mem_append_right _ (List.mem_append_right _ (List.mem_append_right _ (List.mem_append_right _ (List.mem_append_right _ (List.mem_append_right _ (List.mem_append_right _ (List.mem_append_right _ (List.mem_append_left _ (List.mem_of_getElem? (i := 17) rfl))))))))))))
theorem kn_338 : Cond.selects RX4 yX4_lock yX4_lock ∈ kn_T := (List.mem_append_right _ (List.mem_append_right _ (List.mem_append_right _ (List.mem_append_right _ (List.mem_append_right _ (List.mem_append_right _ (List.mem_append_right _ (List.mem_append_right _ (List.mem_append_right _ (List.mem_append_right _ (List.mem_append_left _ (List.mem_of_getElem? (i := 18) rfl))))))))))))
theorem kn_339 : Cond.code yX4_lock cX4_lock 2 (some .int) ∈ kn_T := (List.mem_append_right _ (List.mem_append_right _ (List.mem_append_right _ (List.mem_append_right _ (List.mem_append_right _ (List.mem_append_right _ (List.mem_append_right _ (List.mem_append_right _ (List.mem_append_right _ (List.mem_append_right _ (List.mem_append_left _ (List.mem_of_getElem? (i := 19) rfl))))))))))))
theorem kn_340 : Cond.methodLink RL 41 yX4_add ∈ kn_T := (List.mem_append_right _ (List.mem_append_right _ (List.mem_append_right _ (List.mem_append_right _ (List.mem_append_right _ (List.mem_append_right _ (List.mem_append_right _ (List.mem_append_right _ (List.mem_append_right _ (List.mem_append_right _ (List.mem_append_left _ (List.mem_of_getElem? (i := 20) rfl))))))))))))
theorem kn_341 : Cond.instanceMethod yX4_add ∈ kn_T := (List.mem_append_right _ (List.mem_append_right _ (List.mem_append_right _ (List.mem_append_right _ (List.mem_append_right _ (List.mem_append_right _ (List.mem_append_right _ (List.mem_append_right _ (List.mem_append_right _ (List.mem_append_right _ (List.mem_append_left _ (List.mem_of_getElem? (i := 21) rfl))))))))))))
theorem kn_342 : Cond.selects RX4 yX4_add yX4_add ∈ kn_T := (List.mem_append_right _ (List.mem_append_right _ (List.mem_append_right _ (List.mem_append_right _ (List.mem_append_right _ (List.mem_append_right _ (List.mem_append_right _ (List.mem_append_right _ (List.mem_append_right _ (List.mem_append_right _ (List.mem_append_left _ (List.mem_of_getElem? (i := 22) rfl))))))))))))
theorem kn_343 : Cond.code yX4_add cX4_add 4 (some .int) ∈ kn_T := (List.mem_append_right _ (List.mem_append_right _ (List.mem_append_right _ (List.mem_append_right _ (List.mem_append_right _ (List.mem_append_right _ (List.mem_append_right _ (List.mem_append_right _ (List.mem_append_right _ (List.mem_append_right _ (List.mem_append_left _ (List.mem_of_getElem? (i := 23) rfl))))))))))))
theorem kn_344 : Cond.methodLink RX4 122 yX4_closed ∈ kn_T := (List.mem_append_right _ (List.mem_append_right _ (List.mem_append_right _ (List.mem_append_right _ (List.mem_append_right _ (List.mem_append_right _ (List.mem_append_right _ (List.mem_append_right _ (List.mem_append_right _ (List.mem_append_right _ (List.mem_append_left _ (List.mem_of_getElem? (i := 24) rfl))))))))))))
theorem kn_345 : Cond.instanceMethod yX4_closed ∈ kn_T := (List.mem_append_right _ (List.mem_append_right _ (List.mem_append_right _ (List.mem_append_right _ (List.mem_append_right _ (List.mem_append_right _ (List.mem_append_right _ (List.mem_append_right _ (List.mem_append_right _ (List.mem_append_right _ (List.mem_append_left _ (List.mem_of_getElem? (i := 25) rfl))))))))))))
theorem kn_346 : Cond.code yX4_closed cX4_closed 1 (some .int) ∈ kn_T := (List.mem_append_right _ (List.mem_append_right _ (List.mem_append_right _ (List.mem_append_right _ (List.mem_append_right _ (List.mem_append_right _ (List.mem_append_right _ (List.mem_append_right _ (List.mem_append_right _ (List.mem_append_right _ (List.mem_append_left _ (List.mem_of_getElem? (i := 26) rfl))))))))))))
theorem kn_347 : Cond.methodLink RX4 125 yX4_planChange ∈ kn_T := (List.mem_append_right _ (List.mem_append_right _ (List.mem_append_right _ (List.mem_append_right _ (List.mem_append_right _ (List.mem_append_right _ (List.mem_append_right _ (List.mem_append_right _ (List.mem_append_right _ (List.mem_append_right _ (List.mem_append_left _ (List.mem_of_getElem? (i := 27) rfl))))))))))))
theorem kn_348 : Cond.instanceMethod yX4_planChange ∈ kn_T := (List.mem_append_right _ (List.mem_append_right _ (List.mem_append_right _ (List.mem_append_right _ (List.mem_append_right _ (List.mem_append_right _ (List.mem_append_right _ (List.mem_append_right _ (List.mem_append_right _ (List.mem_append_right _ (List.mem_append_left _ (List.mem_of_getElem? (i := 28) rfl))))))))))))
theorem kn_349 : Cond.code yX4_planChange cX4_planChange 4 none ∈ kn_T := (List.mem_append_right _ (List.mem_append_right _ (List.mem_append_right _ (List.mem_append_right _ (List.mem_append_right _ (List.mem_append_right _ (List.mem_append_right _ (List.mem_append_right _ (List.mem_append_right _ (List.mem_append_right _ (List.mem_append_left _ (List.mem_of_getElem? (i := 29) rfl))))))))))))
theorem kn_350 : Cond.methodLink RL 46 yX4_change ∈ kn_T := (List.mem_append_right _ (List.mem_append_right _ (List.mem_append_right _ (List.mem_append_right _ (List.mem_append_right _ (List.mem_append_right _ (List.mem_append_right _ (List.mem_append_right _ (List.mem_append_right _ (List.mem_append_right _ (List.mem_append_left _ (List.mem_of_getElem? (i := 30) rfl))))))))))))
theorem kn_351 : Cond.instanceMethod yX4_change ∈ kn_T := (List.mem_append_right _ (List.mem_append_right _ (List.mem_append_right _ (List.mem_append_right _ (List.mem_append_right _ (List.mem_append_right _ (List.mem_append_right _ (List.mem_append_right _ (List.mem_append_right _ (List.mem_append_right _ (List.mem_append_left _ (List.mem_of_getElem? (i := 31) rfl))))))))))))
theorem kn_352 : Cond.selects RX4 yX4_change yX4_change ∈ kn_T := (List.mem_append_right _ (List.mem_append_right _ (List.mem_append_right _ (List.mem_append_right _ (List.mem_append_right _ (List.mem_append_right _ (List.mem_append_right _ (List.mem_append_right _ (List.mem_append_right _ (List.mem_append_right _ (List.mem_append_right _ (List.mem_append_left _ (List.mem_of_getElem? (i := 0) rfl)))))))))))))
theorem kn_353 : Cond.code yX4_change cX4_change 4 (some .int) ∈ kn_T := (List.mem_append_right _ (List.mem_append_right _ (List.mem_append_right _ (List.mem_append_right _ (List.mem_append_right _ (List.mem_append_right _ (List.mem_append_right _ (List.mem_append_right _ (List.mem_append_right _ (List.mem_append_right _ (List.mem_append_right _ (List.mem_append_left _ (List.mem_of_getElem? (i := 1) rfl)))))))))))))
theorem kn_354 : Cond.methodLink RX4 128 yX4_badSlot ∈ kn_T := (List.mem_append_right _ (List.mem_append_right _ (List.mem_append_right _ (List.mem_append_right _ (List.mem_append_right _ (List.mem_append_right _ (List.mem_append_right _ (List.mem_append_right _ (List.mem_append_right _ (List.mem_append_right _ (List.mem_append_right _ (List.mem_append_left _ (List.mem_of_getElem? (i := 2) rfl)))))))))))))
theorem kn_355 : Cond.instanceMethod yX4_badSlot ∈ kn_T := (List.mem_append_right _ (List.mem_append_right _ (List.mem_append_right _ (List.mem_append_right _ (List.mem_append_right _ (List.mem_append_right _ (List.mem_append_right _ (List.mem_append_right _ (List.mem_append_right _ (List.mem_append_right _ (List.mem_append_right _ (List.mem_append_left _ (List.mem_of_getElem? (i := 3) rfl)))))))))))))
theorem kn_356 : Cond.code yX4_badSlot cX4_badSlot 2 (some .int) ∈ kn_T := (List.mem_append_right _ (List.mem_append_right _ (List.mem_append_right _ (List.mem_append_right _ (List.mem_append_right _ (List.mem_append_right _ (List.mem_append_right _ (List.mem_append_right _ (List.mem_append_right _ (List.mem_append_right _ (List.mem_append_right _ (List.mem_append_left _ (List.mem_of_getElem? (i := 4) rfl)))))))))))))
theorem kn_357 : Cond.methodLink RL 50 yX4_revoke ∈ kn_T := (List.mem_append_right _ (List.mem_append_right _ (List.mem_append_right _ (List.mem_append_right _ (List.mem_append_right _ (List.mem_append_right _ (List.mem_append_right _ (List.mem_append_right _ (List.mem_append_right _ (List.mem_append_right _ (List.mem_append_right _ (List.mem_append_left _ (List.mem_of_getElem? (i := 5) rfl)))))))))))))
theorem kn_358 : Cond.instanceMethod yX4_revoke ∈ kn_T := (List.mem_append_right _ (List.mem_append_right _ (List.mem_append_right _ (List.mem_append_right _ (List.mem_append_right _ (List.mem_append_right _ (List.mem_append_right _ (List.mem_append_right _ (List.mem_append_right _ (List.mem_append_right _ (List.mem_append_right _ (List.mem_append_left _ (List.mem_of_getElem? (i := 6) rfl)))))))))))))
theorem kn_359 : Cond.selects RX4 yX4_revoke yX4_revoke ∈ kn_T := (List.mem_append_right _ (List.mem_append_right _ (List.mem_append_right _ (List.mem_append_right _ (List.mem_append_right _ (List.mem_append_right _ (List.mem_append_right _ (List.mem_append_right _ (List.mem_append_right _ (List.mem_append_right _ (List.mem_append_right _ (List.mem_append_left _ (List.mem_of_getElem? (i := 7) rfl)))))))))))))
theorem kn_360 : Cond.code yX4_revoke cX4_revoke 3 (some .int) ∈ kn_T := (List.mem_append_right _ (List.mem_append_right _ (List.mem_append_right _ (List.mem_append_right _ (List.mem_append_right _ (List.mem_append_right _ (List.mem_append_right _ (List.mem_append_right _ (List.mem_append_right _ (List.mem_append_right _ (List.mem_append_right _ (List.mem_append_left _ (List.mem_of_getElem? (i := 8) rfl)))))))))))))
theorem kn_361 : Cond.methodLink RL 54 yX4_write ∈ kn_T := (List.mem_append_right _ (List.mem_append_right _ (List.mem_append_right _ (List.mem_append_right _ (List.mem_append_right _ (List.mem_append_right _ (List.mem_append_right _ (List.mem_append_right _ (List.mem_append_right _ (List.mem_append_right _ (List.mem_append_right _ (List.mem_append_left _ (List.mem_of_getElem? (i := 9) rfl)))))))))))))
theorem kn_362 : Cond.instanceMethod yX4_write ∈ kn_T := (List.mem_append_right _ (List.mem_append_right _ (List.mem_append_right _ (List.mem_append_right _ (List.mem_append_right _ (List.mem_append_right _ (List.mem_append_right _ (List.mem_append_right _ (List.mem_append_right _ (List.mem_append_right _ (List.mem_append_right _ (List.mem_append_left _ (List.mem_of_getElem? (i := 10) rfl)))))))))))))
theorem kn_363 : Cond.selects RX4 yX4_write yX4_write ∈ kn_T := (List.mem_append_right _ (List.mem_append_right _ (List.mem_append_right _ (List.mem_append_right _ (List.mem_append_right _ (List.mem_append_right _ (List.mem_append_right _ (List.mem_append_right _ (List.mem_append_right _ (List.mem_append_right _ (List.mem_append_right _ (List.mem_append_left _ (List.mem_of_getElem? (i := 11) rfl)))))))))))))
theorem kn_364 : Cond.code yX4_write cX4_write 6 (some .int) ∈ kn_T := (List.mem_append_right _ (List.mem_append_right _ (List.mem_append_right _ (List.mem_append_right _ (List.mem_append_right _ (List.mem_append_right _ (List.mem_append_right _ (List.mem_append_right _ (List.mem_append_right _ (List.mem_append_right _ (List.mem_append_right _ (List.mem_append_left _ (List.mem_of_getElem? (i := 12) rfl)))))))))))))
theorem kn_365 : Cond.methodLink RX4 131 yX4_badWord ∈ kn_T := (List.mem_append_right _ (List.mem_append_right _ (List.mem_append_right _ (List.mem_append_right _ (List.mem_append_right _ (List.mem_append_right _ (List.mem_append_right _ (List.mem_append_right _ (List.mem_append_right _ (List.mem_append_right _ (List.mem_append_right _ (List.mem_append_left _ (List.mem_of_getElem? (i := 13) rfl)))))))))))))
theorem kn_366 : Cond.instanceMethod yX4_badWord ∈ kn_T := (List.mem_append_right _ (List.mem_append_right _ (List.mem_append_right _ (List.mem_append_right _ (List.mem_append_right _ (List.mem_append_right _ (List.mem_append_right _ (List.mem_append_right _ (List.mem_append_right _ (List.mem_append_right _ (List.mem_append_right _ (List.mem_append_left _ (List.mem_of_getElem? (i := 14) rfl)))))))))))))
theorem kn_367 : Cond.code yX4_badWord cX4_badWord 3 (some .int) ∈ kn_T := (List.mem_append_right _ (List.mem_append_right _ (List.mem_append_right _ (List.mem_append_right _ (List.mem_append_right _ (List.mem_append_right _ (List.mem_append_right _ (List.mem_append_right _ (List.mem_append_right _ (List.mem_append_right _ (List.mem_append_right _ (List.mem_append_left _ (List.mem_of_getElem? (i := 15) rfl)))))))))))))
theorem kn_368 : Cond.methodLink RX4 134 yX4_show ∈ kn_T := (List.mem_append_right _ (List.mem_append_right _ (List.mem_append_right _ (List.mem_append_right _ (List.mem_append_right _ (List.mem_append_right _ (List.mem_append_right _ (List.mem_append_right _ (List.mem_append_right _ (List.mem_append_right _ (List.mem_append_right _ (List.mem_append_left _ (List.mem_of_getElem? (i := 16) rfl)))))))))))))
theorem kn_369 : Cond.static yX4_show ∈ kn_T := (List.mem_append_right _ (List.mem_append_right _ (List.mem_append_right _ (List.mem_append_right _ (List.mem_append_right _ (List.mem_append_right _ (List.mem_append_right _ (List.mem_append_right _ (List.mem_append_right _ (List.mem_append_right _ (List.mem_append_right _ (List.mem_append_left _ (List.mem_of_getElem? (i := 17) rfl)))))))))))))
theorem kn_370 : Cond.code yX4_show cX4_show 6 (some .int) ∈ kn_T := (List.mem_append_right _ (List.mem_append_right _ (List.mem_append_right _ (List.mem_append_right _ (List.mem_append_right _ (List.mem_append_right _ (List.mem_append_right _ (List.mem_append_right _ (List.mem_append_right _ (List.mem_append_right _ (List.mem_append_right _ (List.mem_append_left _ (List.mem_of_getElem? (i := 18) rfl)))))))))))))
theorem kn_371 : Cond.methodLink RL 59 yX4_read ∈ kn_T := (List.mem_append_right _ (List.mem_append_right _ (List.mem_append_right _ (List.mem_append_right _ (List.mem_append_right _ (List.mem_append_right _ (List.mem_append_right _ (List.mem_append_right _ (List.mem_append_right _ (List.mem_append_right _ (List.mem_append_right _ (List.mem_append_left _ (List.mem_of_getElem? (i := 19) rfl)))))))))))))
theorem kn_372 : Cond.instanceMethod yX4_read ∈ kn_T := (List.mem_append_right _ (List.mem_append_right _ (List.mem_append_right _ (List.mem_append_right _ (List.mem_append_right _ (List.mem_append_right _ (List.mem_append_right _ (List.mem_append_right _ (List.mem_append_right _ (List.mem_append_right _ (List.mem_append_right _ (List.mem_append_left _ (List.mem_of_getElem? (i := 20) rfl)))))))))))))
theorem kn_373 : Cond.selects RX4 yX4_read yX4_read ∈ kn_T := (List.mem_append_right _ (List.mem_append_right _ (List.mem_append_right _ (List.mem_append_right _ (List.mem_append_right _ (List.mem_append_right _ (List.mem_append_right _ (List.mem_append_right _ (List.mem_append_right _ (List.mem_append_right _ (List.mem_append_right _ (List.mem_append_left _ (List.mem_of_getElem? (i := 21) rfl)))))))))))))
theorem kn_374 : Cond.code yX4_read cX4_read 4 (some .long) ∈ kn_T := (List.mem_append_right _ (List.mem_append_right _ (List.mem_append_right _ (List.mem_append_right _ (List.mem_append_right _ (List.mem_append_right _ (List.mem_append_right _ (List.mem_append_right _ (List.mem_append_right _ (List.mem_append_right _ (List.mem_append_right _ (List.mem_append_left _ (List.mem_of_getElem? (i := 22) rfl)))))))))))))
theorem kn_375 : Cond.constantLong RX4 137 4294967296 ∈ kn_T := (List.mem_append_right _ (List.mem_append_right _ (List.mem_append_right _ (List.mem_append_right _ (List.mem_append_right _ (List.mem_append_right _ (List.mem_append_right _ (List.mem_append_right _ (List.mem_append_right _ (List.mem_append_right _ (List.mem_append_right _ (List.mem_append_left _ (List.mem_of_getElem? (i := 23) rfl)))))))))))))
theorem kn_376 : Cond.methodLink RL 63 yX4_state ∈ kn_T := (List.mem_append_right _ (List.mem_append_right _ (List.mem_append_right _ (List.mem_append_right _ (List.mem_append_right _ (List.mem_append_right _ (List.mem_append_right _ (List.mem_append_right _ (List.mem_append_right _ (List.mem_append_right _ (List.mem_append_right _ (List.mem_append_left _ (List.mem_of_getElem? (i := 24) rfl)))))))))))))
theorem kn_377 : Cond.instanceMethod yX4_state ∈ kn_T := (List.mem_append_right _ (List.mem_append_right _ (List.mem_append_right _ (List.mem_append_right _ (List.mem_append_right _ (List.mem_append_right _ (List.mem_append_right _ (List.mem_append_right _ (List.mem_append_right _ (List.mem_append_right _ (List.mem_append_right _ (List.mem_append_left _ (List.mem_of_getElem? (i := 25) rfl)))))))))))))
theorem kn_378 : Cond.selects RX4 yX4_state yX4_state ∈ kn_T := (List.mem_append_right _ (List.mem_append_right _ (List.mem_append_right _ (List.mem_append_right _ (List.mem_append_right _ (List.mem_append_right _ (List.mem_append_right _ (List.mem_append_right _ (List.mem_append_right _ (List.mem_append_right _ (List.mem_append_right _ (List.mem_append_left _ (List.mem_of_getElem? (i := 26) rfl)))))))))))))
theorem kn_379 : Cond.code yX4_state cX4_state 1 (some .int) ∈ kn_T := (List.mem_append_right _ (List.mem_append_right _ (List.mem_append_right _ (List.mem_append_right _ (List.mem_append_right _ (List.mem_append_right _ (List.mem_append_right _ (List.mem_append_right _ (List.mem_append_right _ (List.mem_append_right _ (List.mem_append_right _ (List.mem_append_left _ (List.mem_of_getElem? (i := 27) rfl)))))))))))))
theorem kn_380 : Cond.methodLink RL 67 yX4_slots ∈ kn_T := (List.mem_append_right _ (List.mem_append_right _ (List.mem_append_right _ (List.mem_append_right _ (List.mem_append_right _ (List.mem_append_right _ (List.mem_append_right _ (List.mem_append_right _ (List.mem_append_right _ (List.mem_append_right _ (List.mem_append_right _ (List.mem_append_left _ (List.mem_of_getElem? (i := 28) rfl)))))))))))))
theorem kn_381 : Cond.instanceMethod yX4_slots ∈ kn_T := (List.mem_append_right _ (List.mem_append_right _ (List.mem_append_right _ (List.mem_append_right _ (List.mem_append_right _ (List.mem_append_right _ (List.mem_append_right _ (List.mem_append_right _ (List.mem_append_right _ (List.mem_append_right _ (List.mem_append_right _ (List.mem_append_left _ (List.mem_of_getElem? (i := 29) rfl)))))))))))))
theorem kn_382 : Cond.selects RX4 yX4_slots yX4_slots ∈ kn_T := (List.mem_append_right _ (List.mem_append_right _ (List.mem_append_right _ (List.mem_append_right _ (List.mem_append_right _ (List.mem_append_right _ (List.mem_append_right _ (List.mem_append_right _ (List.mem_append_right _ (List.mem_append_right _ (List.mem_append_right _ (List.mem_append_left _ (List.mem_of_getElem? (i := 30) rfl)))))))))))))
theorem kn_383 : Cond.code yX4_slots cX4_slots 3 (some .int) ∈ kn_T := (List.mem_append_right _ (List.mem_append_right _ (List.mem_append_right _ (List.mem_append_right _ (List.mem_append_right _ (List.mem_append_right _ (List.mem_append_right _ (List.mem_append_right _ (List.mem_append_right _ (List.mem_append_right _ (List.mem_append_right _ (List.mem_append_left _ (List.mem_of_getElem? (i := 31) rfl)))))))))))))
theorem kn_384 : Cond.methodLink RL 71 yX4_peek ∈ kn_T := (List.mem_append_right _ (List.mem_append_right _ (List.mem_append_right _ (List.mem_append_right _ (List.mem_append_right _ (List.mem_append_right _ (List.mem_append_right _ (List.mem_append_right _ (List.mem_append_right _ (List.mem_append_right _ (List.mem_append_right _ (List.mem_append_right _ (List.mem_append_left _ (List.mem_of_getElem? (i := 0) rfl))))))))))))))
theorem kn_385 : Cond.instanceMethod yX4_peek ∈ kn_T := (List.mem_append_right _ (List.mem_append_right _ (List.mem_append_right _ (List.mem_append_right _ (List.mem_append_right _ (List.mem_append_right _ (List.mem_append_right _ (List.mem_append_right _ (List.mem_append_right _ (List.mem_append_right _ (List.mem_append_right _ (List.mem_append_right _ (List.mem_append_left _ (List.mem_of_getElem? (i := 1) rfl))))))))))))))
theorem kn_386 : Cond.selects RX4 yX4_peek yX4_peek ∈ kn_T := (List.mem_append_right _ (List.mem_append_right _ (List.mem_append_right _ (List.mem_append_right _ (List.mem_append_right _ (List.mem_append_right _ (List.mem_append_right _ (List.mem_append_right _ (List.mem_append_right _ (List.mem_append_right _ (List.mem_append_right _ (List.mem_append_right _ (List.mem_append_left _ (List.mem_of_getElem? (i := 2) rfl))))))))))))))
theorem kn_387 : Cond.code yX4_peek cX4_peek 2 (some .int) ∈ kn_T := (List.mem_append_right _ (List.mem_append_right _ (List.mem_append_right _ (List.mem_append_right _ (List.mem_append_right _ (List.mem_append_right _ (List.mem_append_right _ (List.mem_append_right _ (List.mem_append_right _ (List.mem_append_right _ (List.mem_append_right _ (List.mem_append_right _ (List.mem_append_left _ (List.mem_of_getElem? (i := 3) rfl))))))))))))))
theorem kn_388 : Cond.methodLink RL 75 yX4_writes ∈ kn_T := (List.mem_append_right _ (List.mem_append_right _ (List.mem_append_right _ (List.mem_append_right _ (List.mem_append_right _ (List.mem_append_right _ (List.mem_append_right _ (List.mem_append_right _ (List.mem_append_right _ (List.mem_append_right _ (List.mem_append_right _ (List.mem_append_right _ (List.mem_append_left _ (List.mem_of_getElem? (i := 4) rfl))))))))))))))
theorem kn_389 : Cond.instanceMethod yX4_writes ∈ kn_T := (List.mem_append_right _ (List.mem_append_right _ (List.mem_append_right _ (List.mem_append_right _ (List.mem_append_right _ (List.mem_append_right _ (List.mem_append_right _ (List.mem_append_right _ (List.mem_append_right _ (List.mem_append_right _ (List.mem_append_right _ (List.mem_append_right _ (List.mem_append_left _ (List.mem_of_getElem? (i := 5) rfl))))))))))))))
theorem kn_390 : Cond.selects RX4 yX4_writes yX4_writes ∈ kn_T := (List.mem_append_right _ (List.mem_append_right _ (List.mem_append_right _ (List.mem_append_right _ (List.mem_append_right _ (List.mem_append_right _ (List.mem_append_right _ (List.mem_append_right _ (List.mem_append_right _ (List.mem_append_right _ (List.mem_append_right _ (List.mem_append_right _ (List.mem_append_left _ (List.mem_of_getElem? (i := 6) rfl))))))))))))))
theorem kn_391 : Cond.code yX4_writes cX4_writes 1 (some .int) ∈ kn_T := (List.mem_append_right _ (List.mem_append_right _ (List.mem_append_right _ (List.mem_append_right _ (List.mem_append_right _ (List.mem_append_right _ (List.mem_append_right _ (List.mem_append_right _ (List.mem_append_right _ (List.mem_append_right _ (List.mem_append_right _ (List.mem_append_right _ (List.mem_append_left _ (List.mem_of_getElem? (i := 7) rfl))))))))))))))
theorem kn_392 : Cond.selects RX3 yX3_workOutVolume yX3_workOutVolume ∈ kn_T := (List.mem_append_right _ (List.mem_append_right _ (List.mem_append_right _ (List.mem_append_right _ (List.mem_append_right _ (List.mem_append_right _ (List.mem_append_right _ (List.mem_append_right _ (List.mem_append_right _ (List.mem_append_right _ (List.mem_append_right _ (List.mem_append_right _ (List.mem_append_left _ (List.mem_of_getElem? (i := 8) rfl))))))))))))))
theorem kn_393 : Cond.selects RX3 yX3_putVolume yX3_putVolume ∈ kn_T := (List.mem_append_right _ (List.mem_append_right _ (List.mem_append_right _ (List.mem_append_right _ (List.mem_append_right _ (List.mem_append_right _ (List.mem_append_right _ (List.mem_append_right _ (List.mem_append_right _ (List.mem_append_right _ (List.mem_append_right _ (List.mem_append_right _ (List.mem_append_left _ (List.mem_of_getElem? (i := 9) rfl))))))))))))))
theorem kn_394 : Cond.selects RX3 yX3_powerLost yX3_powerLost ∈ kn_T := (List.mem_append_right _ (List.mem_append_right _ (List.mem_append_right _ (List.mem_append_right _ (List.mem_append_right _ (List.mem_append_right _ (List.mem_append_right _ (List.mem_append_right _ (List.mem_append_right _ (List.mem_append_right _ (List.mem_append_right _ (List.mem_append_right _ (List.mem_append_left _ (List.mem_of_getElem? (i := 10) rfl))))))))))))))
theorem kn_395 : Cond.selects RX3 yX3_holdNoKeys yX3_holdNoKeys ∈ kn_T := (List.mem_append_right _ (List.mem_append_right _ (List.mem_append_right _ (List.mem_append_right _ (List.mem_append_right _ (List.mem_append_right _ (List.mem_append_right _ (List.mem_append_right _ (List.mem_append_right _ (List.mem_append_right _ (List.mem_append_right _ (List.mem_append_right _ (List.mem_append_left _ (List.mem_of_getElem? (i := 11) rfl))))))))))))))
theorem kn_396 : Cond.selects RX1 yX1_finishJournal yX1_finishJournal ∈ kn_T := (List.mem_append_right _ (List.mem_append_right _ (List.mem_append_right _ (List.mem_append_right _ (List.mem_append_right _ (List.mem_append_right _ (List.mem_append_right _ (List.mem_append_right _ (List.mem_append_right _ (List.mem_append_right _ (List.mem_append_right _ (List.mem_append_right _ (List.mem_append_left _ (List.mem_of_getElem? (i := 12) rfl))))))))))))))
theorem kn_397 : Cond.selects RX1 yX1_clearJournal yX1_clearJournal ∈ kn_T := (List.mem_append_right _ (List.mem_append_right _ (List.mem_append_right _ (List.mem_append_right _ (List.mem_append_right _ (List.mem_append_right _ (List.mem_append_right _ (List.mem_append_right _ (List.mem_append_right _ (List.mem_append_right _ (List.mem_append_right _ (List.mem_append_right _ (List.mem_append_left _ (List.mem_of_getElem? (i := 13) rfl))))))))))))))
theorem kn_398 : Cond.selects RX3 yX3_activeSlots yX3_activeSlots ∈ kn_T := (List.mem_append_right _ (List.mem_append_right _ (List.mem_append_right _ (List.mem_append_right _ (List.mem_append_right _ (List.mem_append_right _ (List.mem_append_right _ (List.mem_append_right _ (List.mem_append_right _ (List.mem_append_right _ (List.mem_append_right _ (List.mem_append_right _ (List.mem_append_left _ (List.mem_of_getElem? (i := 14) rfl))))))))))))))
theorem kn_399 : Cond.selects RX3 yX3_isActive yX3_isActive ∈ kn_T := (List.mem_append_right _ (List.mem_append_right _ (List.mem_append_right _ (List.mem_append_right _ (List.mem_append_right _ (List.mem_append_right _ (List.mem_append_right _ (List.mem_append_right _ (List.mem_append_right _ (List.mem_append_right _ (List.mem_append_right _ (List.mem_append_right _ (List.mem_append_left _ (List.mem_of_getElem? (i := 15) rfl))))))))))))))
theorem kn_400 : Cond.selects RX3 yX3_opensWith yX3_opensWith ∈ kn_T := (List.mem_append_right _ (List.mem_append_right _ (List.mem_append_right _ (List.mem_append_right _ (List.mem_append_right _ (List.mem_append_right _ (List.mem_append_right _ (List.mem_append_right _ (List.mem_append_right _ (List.mem_append_right _ (List.mem_append_right _ (List.mem_append_right _ (List.mem_append_left _ (List.mem_of_getElem? (i := 16) rfl))))))))))))))
theorem kn_401 : Cond.selects RX3 yX3_refusalUnlessOpen yX3_refusalUnlessOpen ∈ kn_T := (List.mem_append_right _ (List.mem_append_right _ (List.mem_append_right _ (List.mem_append_right _ (List.mem_append_right _ (List.mem_append_right _ (List.mem_append_right _ (List.mem_append_right _ (List.mem_append_right _ (List.mem_append_right _ (List.mem_append_right _ (List.mem_append_right _ (List.mem_append_left _ (List.mem_of_getElem? (i := 17) rfl))))))))))))))
theorem kn_402 : Cond.selects RX3 yX3_leastFreeSlot yX3_leastFreeSlot ∈ kn_T := (List.mem_append_right _ (List.mem_append_right _ (List.mem_append_right _ (List.mem_append_right _ (List.mem_append_right _ (List.mem_append_right _ (List.mem_append_right _ (List.mem_append_right _ (List.mem_append_right _ (List.mem_append_right _ (List.mem_append_right _ (List.mem_append_right _ (List.mem_append_left _ (List.mem_of_getElem? (i := 18) rfl))))))))))))))
theorem kn_403 : Cond.selects RX3 yX3_fillSlot yX3_fillSlot ∈ kn_T := (List.mem_append_right _ (List.mem_append_right _ (List.mem_append_right _ (List.mem_append_right _ (List.mem_append_right _ (List.mem_append_right _ (List.mem_append_right _ (List.mem_append_right _ (List.mem_append_right _ (List.mem_append_right _ (List.mem_append_right _ (List.mem_append_right _ (List.mem_append_left _ (List.mem_of_getElem? (i := 19) rfl))))))))))))))
theorem kn_404 : Cond.selects RX3 yX3_refusalOfSlot yX3_refusalOfSlot ∈ kn_T := (List.mem_append_right _ (List.mem_append_right _ (List.mem_append_right _ (List.mem_append_right _ (List.mem_append_right _ (List.mem_append_right _ (List.mem_append_right _ (List.mem_append_right _ (List.mem_append_right _ (List.mem_append_right _ (List.mem_append_right _ (List.mem_append_right _ (List.mem_append_left _ (List.mem_of_getElem? (i := 20) rfl))))))))))))))
theorem kn_405 : Cond.selects RX3 yX3_clearSlot yX3_clearSlot ∈ kn_T := (List.mem_append_right _ (List.mem_append_right _ (List.mem_append_right _ (List.mem_append_right _ (List.mem_append_right _ (List.mem_append_right _ (List.mem_append_right _ (List.mem_append_right _ (List.mem_append_right _ (List.mem_append_right _ (List.mem_append_right _ (List.mem_append_right _ (List.mem_append_left _ (List.mem_of_getElem? (i := 21) rfl))))))))))))))
theorem kn_406 : Cond.selects RX3 yX3_refusalOfWord yX3_refusalOfWord ∈ kn_T := (List.mem_append_right _ (List.mem_append_right _ (List.mem_append_right _ (List.mem_append_right _ (List.mem_append_right _ (List.mem_append_right _ (List.mem_append_right _ (List.mem_append_right _ (List.mem_append_right _ (List.mem_append_right _ (List.mem_append_right _ (List.mem_append_right _ (List.mem_append_left _ (List.mem_of_getElem? (i := 22) rfl))))))))))))))
theorem kn_407 : Cond.selects RX3 yX3_plainWord yX3_plainWord ∈ kn_T := (List.mem_append_right _ (List.mem_append_right _ (List.mem_append_right _ (List.mem_append_right _ (List.mem_append_right _ (List.mem_append_right _ (List.mem_append_right _ (List.mem_append_right _ (List.mem_append_right _ (List.mem_append_right _ (List.mem_append_right _ (List.mem_append_right _ (List.mem_append_left _ (List.mem_of_getElem? (i := 23) rfl))))))))))))))
theorem kn_408 : Cond.selects RX4 yX4_begin yX4_begin ∈ kn_T := (List.mem_append_right _ (List.mem_append_right _ (List.mem_append_right _ (List.mem_append_right _ (List.mem_append_right _ (List.mem_append_right _ (List.mem_append_right _ (List.mem_append_right _ (List.mem_append_right _ (List.mem_append_right _ (List.mem_append_right _ (List.mem_append_right _ (List.mem_append_left _ (List.mem_of_getElem? (i := 24) rfl))))))))))))))
theorem kn_409 : Cond.selects RX4 yX4_makeSlot yX4_makeSlot ∈ kn_T := (List.mem_append_right _ (List.mem_append_right _ (List.mem_append_right _ (List.mem_append_right _ (List.mem_append_right _ (List.mem_append_right _ (List.mem_append_right _ (List.mem_append_right _ (List.mem_append_right _ (List.mem_append_right _ (List.mem_append_right _ (List.mem_append_right _ (List.mem_append_left _ (List.mem_of_getElem? (i := 25) rfl))))))))))))))
theorem kn_410 : Cond.selects RX4 yX4_cover yX4_cover ∈ kn_T := (List.mem_append_right _ (List.mem_append_right _ (List.mem_append_right _ (List.mem_append_right _ (List.mem_append_right _ (List.mem_append_right _ (List.mem_append_right _ (List.mem_append_right _ (List.mem_append_right _ (List.mem_append_right _ (List.mem_append_right _ (List.mem_append_right _ (List.mem_append_left _ (List.mem_of_getElem? (i := 26) rfl))))))))))))))
theorem kn_411 : Cond.selects RX4 yX4_plan yX4_plan ∈ kn_T := (List.mem_append_right _ (List.mem_append_right _ (List.mem_append_right _ (List.mem_append_right _ (List.mem_append_right _ (List.mem_append_right _ (List.mem_append_right _ (List.mem_append_right _ (List.mem_append_right _ (List.mem_append_right _ (List.mem_append_right _ (List.mem_append_right _ (List.mem_append_left _ (List.mem_of_getElem? (i := 27) rfl))))))))))))))
theorem kn_412 : Cond.selects RX4 yX4_perform yX4_perform ∈ kn_T := (List.mem_append_right _ (List.mem_append_right _ (List.mem_append_right _ (List.mem_append_right _ (List.mem_append_right _ (List.mem_append_right _ (List.mem_append_right _ (List.mem_append_right _ (List.mem_append_right _ (List.mem_append_right _ (List.mem_append_right _ (List.mem_append_right _ (List.mem_append_left _ (List.mem_of_getElem? (i := 28) rfl))))))))))))))
theorem kn_413 : Cond.selects RX4 yX4_planFinish yX4_planFinish ∈ kn_T := (List.mem_append_right _ (List.mem_append_right _ (List.mem_append_right _ (List.mem_append_right _ (List.mem_append_right _ (List.mem_append_right _ (List.mem_append_right _ (List.mem_append_right _ (List.mem_append_right _ (List.mem_append_right _ (List.mem_append_right _ (List.mem_append_right _ (List.mem_append_left _ (List.mem_of_getElem? (i := 29) rfl))))))))))))))
theorem kn_414 : Cond.selects RX4 yX4_planClean yX4_planClean ∈ kn_T := (List.mem_append_right _ (List.mem_append_right _ (List.mem_append_right _ (List.mem_append_right _ (List.mem_append_right _ (List.mem_append_right _ (List.mem_append_right _ (List.mem_append_right _ (List.mem_append_right _ (List.mem_append_right _ (List.mem_append_right _ (List.mem_append_right _ (List.mem_append_left _ (List.mem_of_getElem? (i := 30) rfl))))))))))))))
theorem kn_415 : Cond.selects RX4 yX4_count yX4_count ∈ kn_T := (List.mem_append_right _ (List.mem_append_right _ (List.mem_append_right _ (List.mem_append_right _ (List.mem_append_right _ (List.mem_append_right _ (List.mem_append_right _ (List.mem_append_right _ (List.mem_append_right _ (List.mem_append_right _ (List.mem_append_right _ (List.mem_append_right _ (List.mem_append_left _ (List.mem_of_getElem? (i := 31) rfl))))))))))))))
theorem kn_416 : Cond.selects RX4 yX4_active yX4_active ∈ kn_T := (List.mem_append_right _ (List.mem_append_right _ (List.mem_append_right _ (List.mem_append_right _ (List.mem_append_right _ (List.mem_append_right _ (List.mem_append_right _ (List.mem_append_right _ (List.mem_append_right _ (List.mem_append_right _ (List.mem_append_right _ (List.mem_append_right _ (List.mem_append_right _ (List.mem_of_getElem? (i := 0) rfl))))))))))))))
theorem kn_417 : Cond.selects RX4 yX4_opens yX4_opens ∈ kn_T := (List.mem_append_right _ (List.mem_append_right _ (List.mem_append_right _ (List.mem_append_right _ (List.mem_append_right _ (List.mem_append_right _ (List.mem_append_right _ (List.mem_append_right _ (List.mem_append_right _ (List.mem_append_right _ (List.mem_append_right _ (List.mem_append_right _ (List.mem_append_right _ (List.mem_of_getElem? (i := 1) rfl))))))))))))))
theorem kn_418 : Cond.selects RX4 yX4_closed yX4_closed ∈ kn_T := (List.mem_append_right _ (List.mem_append_right _ (List.mem_append_right _ (List.mem_append_right _ (List.mem_append_right _ (List.mem_append_right _ (List.mem_append_right _ (List.mem_append_right _ (List.mem_append_right _ (List.mem_append_right _ (List.mem_append_right _ (List.mem_append_right _ (List.mem_append_right _ (List.mem_of_getElem? (i := 2) rfl))))))))))))))
theorem kn_419 : Cond.selects RX4 yX4_planChange yX4_planChange ∈ kn_T := (List.mem_append_right _ (List.mem_append_right _ (List.mem_append_right _ (List.mem_append_right _ (List.mem_append_right _ (List.mem_append_right _ (List.mem_append_right _ (List.mem_append_right _ (List.mem_append_right _ (List.mem_append_right _ (List.mem_append_right _ (List.mem_append_right _ (List.mem_append_right _ (List.mem_of_getElem? (i := 3) rfl))))))))))))))
theorem kn_420 : Cond.selects RX4 yX4_badSlot yX4_badSlot ∈ kn_T := (List.mem_append_right _ (List.mem_append_right _ (List.mem_append_right _ (List.mem_append_right _ (List.mem_append_right _ (List.mem_append_right _ (List.mem_append_right _ (List.mem_append_right _ (List.mem_append_right _ (List.mem_append_right _ (List.mem_append_right _ (List.mem_append_right _ (List.mem_append_right _ (List.mem_of_getElem? (i := 4) rfl))))))))))))))
theorem kn_421 : Cond.selects RX4 yX4_badWord yX4_badWord ∈ kn_T := (List.mem_append_right _ (List.mem_append_right _ (List.mem_append_right _ (List.mem_append_right _ (List.mem_append_right _ (List.mem_append_right _ (List.mem_append_right _ (List.mem_append_right _ (List.mem_append_right _ (List.mem_append_right _ (List.mem_append_right _ (List.mem_append_right _ (List.mem_append_right _ (List.mem_of_getElem? (i := 5) rfl))))))))))))))
theorem kn_iX1 : ∀ w ∈ u_ws RX1 TX1 3, w ∈ kn_T := by decide +kernel
theorem kn_iX3 : ∀ w ∈ u_ws RX3 TX3 5, w ∈ kn_T := by decide +kernel
theorem kn_iX4 : ∀ w ∈ u_ws RX4 TX4 14, w ∈ kn_T := by decide +kernel
theorem kd_X3_init : yX3_init.cls ≠ "java/lang/invoke/MethodHandle" ∧ yX3_init.cls ≠ "java/lang/invoke/VarHandle" ∧ (parseMethodDescriptor yX3_init.desc).map (fun d => d.parameters.length) = some 0 := by decide +kernel
theorem kd_X1_init : yX1_init.cls ≠ "java/lang/invoke/MethodHandle" ∧ yX1_init.cls ≠ "java/lang/invoke/VarHandle" ∧ (parseMethodDescriptor yX1_init.desc).map (fun d => d.parameters.length) = some 0 := by decide +kernel
theorem kd_X3_cut : yX3_cut.cls ≠ "java/lang/invoke/MethodHandle" ∧ yX3_cut.cls ≠ "java/lang/invoke/VarHandle" ∧ (parseMethodDescriptor yX3_cut.desc).map (fun d => d.parameters.length) = some 1 := by decide +kernel
theorem kd_X3_format : yX3_format.cls ≠ "java/lang/invoke/MethodHandle" ∧ yX3_format.cls ≠ "java/lang/invoke/VarHandle" ∧ (parseMethodDescriptor yX3_format.desc).map (fun d => d.parameters.length) = some 4 := by decide +kernel
theorem kd_X3_workOutVolume : yX3_workOutVolume.cls ≠ "java/lang/invoke/MethodHandle" ∧ yX3_workOutVolume.cls ≠ "java/lang/invoke/VarHandle" ∧ (parseMethodDescriptor yX3_workOutVolume.desc).map (fun d => d.parameters.length) = some 4 := by decide +kernel
theorem kd_J7_fill : yJ7_fill.cls ≠ "java/lang/invoke/MethodHandle" ∧ yJ7_fill.cls ≠ "java/lang/invoke/VarHandle" ∧ (parseMethodDescriptor yJ7_fill.desc).map (fun d => d.parameters.length) = some 2 := by decide +kernel
theorem kd_X0_mix : yX0_mix.cls ≠ "java/lang/invoke/MethodHandle" ∧ yX0_mix.cls ≠ "java/lang/invoke/VarHandle" ∧ (parseMethodDescriptor yX0_mix.desc).map (fun d => d.parameters.length) = some 2 := by decide +kernel
theorem kd_X0_digest : yX0_digest.cls ≠ "java/lang/invoke/MethodHandle" ∧ yX0_digest.cls ≠ "java/lang/invoke/VarHandle" ∧ (parseMethodDescriptor yX0_digest.desc).map (fun d => d.parameters.length) = some 3 := by decide +kernel
theorem kd_X3_slotPlace : yX3_slotPlace.cls ≠ "java/lang/invoke/MethodHandle" ∧ yX3_slotPlace.cls ≠ "java/lang/invoke/VarHandle" ∧ (parseMethodDescriptor yX3_slotPlace.desc).map (fun d => d.parameters.length) = some 1 := by decide +kernel
theorem kd_X2_workOut : yX2_workOut.cls ≠ "java/lang/invoke/MethodHandle" ∧ yX2_workOut.cls ≠ "java/lang/invoke/VarHandle" ∧ (parseMethodDescriptor yX2_workOut.desc).map (fun d => d.parameters.length) = some 6 := by decide +kernel
theorem kd_X2_workOutHalf : yX2_workOutHalf.cls ≠ "java/lang/invoke/MethodHandle" ∧ yX2_workOutHalf.cls ≠ "java/lang/invoke/VarHandle" ∧ (parseMethodDescriptor yX2_workOutHalf.desc).map (fun d => d.parameters.length) = some 6 := by decide +kernel
theorem kd_X0_slotKey : yX0_slotKey.cls ≠ "java/lang/invoke/MethodHandle" ∧ yX0_slotKey.cls ≠ "java/lang/invoke/VarHandle" ∧ (parseMethodDescriptor yX0_slotKey.desc).map (fun d => d.parameters.length) = some 3 := by decide +kernel
theorem kd_X2_mask : yX2_mask.cls ≠ "java/lang/invoke/MethodHandle" ∧ yX2_mask.cls ≠ "java/lang/invoke/VarHandle" ∧ (parseMethodDescriptor yX2_mask.desc).map (fun d => d.parameters.length) = some 3 := by decide +kernel
theorem kd_X0_encipher : yX0_encipher.cls ≠ "java/lang/invoke/MethodHandle" ∧ yX0_encipher.cls ≠ "java/lang/invoke/VarHandle" ∧ (parseMethodDescriptor yX0_encipher.desc).map (fun d => d.parameters.length) = some 2 := by decide +kernel
theorem kd_X0_roundMask : yX0_roundMask.cls ≠ "java/lang/invoke/MethodHandle" ∧ yX0_roundMask.cls ≠ "java/lang/invoke/VarHandle" ∧ (parseMethodDescriptor yX0_roundMask.desc).map (fun d => d.parameters.length) = some 3 := by decide +kernel
theorem kd_X3_sectorPlace : yX3_sectorPlace.cls ≠ "java/lang/invoke/MethodHandle" ∧ yX3_sectorPlace.cls ≠ "java/lang/invoke/VarHandle" ∧ (parseMethodDescriptor yX3_sectorPlace.desc).map (fun d => d.parameters.length) = some 1 := by decide +kernel
theorem kd_X0_encipherSectorWord : yX0_encipherSectorWord.cls ≠ "java/lang/invoke/MethodHandle" ∧ yX0_encipherSectorWord.cls ≠ "java/lang/invoke/VarHandle" ∧ (parseMethodDescriptor yX0_encipherSectorWord.desc).map (fun d => d.parameters.length) = some 5 := by decide +kernel
theorem kd_X0_tweak : yX0_tweak.cls ≠ "java/lang/invoke/MethodHandle" ∧ yX0_tweak.cls ≠ "java/lang/invoke/VarHandle" ∧ (parseMethodDescriptor yX0_tweak.desc).map (fun d => d.parameters.length) = some 3 := by decide +kernel
theorem kd_X3_putVolume : yX3_putVolume.cls ≠ "java/lang/invoke/MethodHandle" ∧ yX3_putVolume.cls ≠ "java/lang/invoke/VarHandle" ∧ (parseMethodDescriptor yX3_putVolume.desc).map (fun d => d.parameters.length) = some 0 := by decide +kernel
theorem kd_X1_put : yX1_put.cls ≠ "java/lang/invoke/MethodHandle" ∧ yX1_put.cls ≠ "java/lang/invoke/VarHandle" ∧ (parseMethodDescriptor yX1_put.desc).map (fun d => d.parameters.length) = some 2 := by decide +kernel
theorem kd_X3_powerLost : yX3_powerLost.cls ≠ "java/lang/invoke/MethodHandle" ∧ yX3_powerLost.cls ≠ "java/lang/invoke/VarHandle" ∧ (parseMethodDescriptor yX3_powerLost.desc).map (fun d => d.parameters.length) = some 0 := by decide +kernel
theorem kd_X3_holdNoKeys : yX3_holdNoKeys.cls ≠ "java/lang/invoke/MethodHandle" ∧ yX3_holdNoKeys.cls ≠ "java/lang/invoke/VarHandle" ∧ (parseMethodDescriptor yX3_holdNoKeys.desc).map (fun d => d.parameters.length) = some 1 := by decide +kernel
theorem kd_X3_mount : yX3_mount.cls ≠ "java/lang/invoke/MethodHandle" ∧ yX3_mount.cls ≠ "java/lang/invoke/VarHandle" ∧ (parseMethodDescriptor yX3_mount.desc).map (fun d => d.parameters.length) = some 0 := by decide +kernel
theorem kd_X1_wordAt : yX1_wordAt.cls ≠ "java/lang/invoke/MethodHandle" ∧ yX1_wordAt.cls ≠ "java/lang/invoke/VarHandle" ∧ (parseMethodDescriptor yX1_wordAt.desc).map (fun d => d.parameters.length) = some 1 := by decide +kernel
theorem kd_X1_settleJournal : yX1_settleJournal.cls ≠ "java/lang/invoke/MethodHandle" ∧ yX1_settleJournal.cls ≠ "java/lang/invoke/VarHandle" ∧ (parseMethodDescriptor yX1_settleJournal.desc).map (fun d => d.parameters.length) = some 0 := by decide +kernel
theorem kd_X1_finishJournal : yX1_finishJournal.cls ≠ "java/lang/invoke/MethodHandle" ∧ yX1_finishJournal.cls ≠ "java/lang/invoke/VarHandle" ∧ (parseMethodDescriptor yX1_finishJournal.desc).map (fun d => d.parameters.length) = some 0 := by decide +kernel
theorem kd_X1_clearJournal : yX1_clearJournal.cls ≠ "java/lang/invoke/MethodHandle" ∧ yX1_clearJournal.cls ≠ "java/lang/invoke/VarHandle" ∧ (parseMethodDescriptor yX1_clearJournal.desc).map (fun d => d.parameters.length) = some 0 := by decide +kernel
theorem kd_X3_activeSlots : yX3_activeSlots.cls ≠ "java/lang/invoke/MethodHandle" ∧ yX3_activeSlots.cls ≠ "java/lang/invoke/VarHandle" ∧ (parseMethodDescriptor yX3_activeSlots.desc).map (fun d => d.parameters.length) = some 0 := by decide +kernel
theorem kd_X3_slots : yX3_slots.cls ≠ "java/lang/invoke/MethodHandle" ∧ yX3_slots.cls ≠ "java/lang/invoke/VarHandle" ∧ (parseMethodDescriptor yX3_slots.desc).map (fun d => d.parameters.length) = some 0 := by decide +kernel
theorem kd_X3_isActive : yX3_isActive.cls ≠ "java/lang/invoke/MethodHandle" ∧ yX3_isActive.cls ≠ "java/lang/invoke/VarHandle" ∧ (parseMethodDescriptor yX3_isActive.desc).map (fun d => d.parameters.length) = some 1 := by decide +kernel
theorem kd_J6_bitCount : yJ6_bitCount.cls ≠ "java/lang/invoke/MethodHandle" ∧ yJ6_bitCount.cls ≠ "java/lang/invoke/VarHandle" ∧ (parseMethodDescriptor yJ6_bitCount.desc).map (fun d => d.parameters.length) = some 1 := by decide +kernel
theorem kd_X3_unlock : yX3_unlock.cls ≠ "java/lang/invoke/MethodHandle" ∧ yX3_unlock.cls ≠ "java/lang/invoke/VarHandle" ∧ (parseMethodDescriptor yX3_unlock.desc).map (fun d => d.parameters.length) = some 1 := by decide +kernel
theorem kd_X3_opensWith : yX3_opensWith.cls ≠ "java/lang/invoke/MethodHandle" ∧ yX3_opensWith.cls ≠ "java/lang/invoke/VarHandle" ∧ (parseMethodDescriptor yX3_opensWith.desc).map (fun d => d.parameters.length) = some 2 := by decide +kernel
theorem kd_X2_openHalf : yX2_openHalf.cls ≠ "java/lang/invoke/MethodHandle" ∧ yX2_openHalf.cls ≠ "java/lang/invoke/VarHandle" ∧ (parseMethodDescriptor yX2_openHalf.desc).map (fun d => d.parameters.length) = some 4 := by decide +kernel
theorem kd_X0_decipher : yX0_decipher.cls ≠ "java/lang/invoke/MethodHandle" ∧ yX0_decipher.cls ≠ "java/lang/invoke/VarHandle" ∧ (parseMethodDescriptor yX0_decipher.desc).map (fun d => d.parameters.length) = some 2 := by decide +kernel
theorem kd_X3_lock : yX3_lock.cls ≠ "java/lang/invoke/MethodHandle" ∧ yX3_lock.cls ≠ "java/lang/invoke/VarHandle" ∧ (parseMethodDescriptor yX3_lock.desc).map (fun d => d.parameters.length) = some 0 := by decide +kernel
theorem kd_X3_add : yX3_add.cls ≠ "java/lang/invoke/MethodHandle" ∧ yX3_add.cls ≠ "java/lang/invoke/VarHandle" ∧ (parseMethodDescriptor yX3_add.desc).map (fun d => d.parameters.length) = some 2 := by decide +kernel
theorem kd_X3_refusalUnlessOpen : yX3_refusalUnlessOpen.cls ≠ "java/lang/invoke/MethodHandle" ∧ yX3_refusalUnlessOpen.cls ≠ "java/lang/invoke/VarHandle" ∧ (parseMethodDescriptor yX3_refusalUnlessOpen.desc).map (fun d => d.parameters.length) = some 0 := by decide +kernel
theorem kd_X3_leastFreeSlot : yX3_leastFreeSlot.cls ≠ "java/lang/invoke/MethodHandle" ∧ yX3_leastFreeSlot.cls ≠ "java/lang/invoke/VarHandle" ∧ (parseMethodDescriptor yX3_leastFreeSlot.desc).map (fun d => d.parameters.length) = some 0 := by decide +kernel
theorem kd_X3_fillSlot : yX3_fillSlot.cls ≠ "java/lang/invoke/MethodHandle" ∧ yX3_fillSlot.cls ≠ "java/lang/invoke/VarHandle" ∧ (parseMethodDescriptor yX3_fillSlot.desc).map (fun d => d.parameters.length) = some 3 := by decide +kernel
theorem kd_X1_replaceByJournal : yX1_replaceByJournal.cls ≠ "java/lang/invoke/MethodHandle" ∧ yX1_replaceByJournal.cls ≠ "java/lang/invoke/VarHandle" ∧ (parseMethodDescriptor yX1_replaceByJournal.desc).map (fun d => d.parameters.length) = some 3 := by decide +kernel
theorem kd_X3_change : yX3_change.cls ≠ "java/lang/invoke/MethodHandle" ∧ yX3_change.cls ≠ "java/lang/invoke/VarHandle" ∧ (parseMethodDescriptor yX3_change.desc).map (fun d => d.parameters.length) = some 3 := by decide +kernel
theorem kd_X3_refusalOfSlot : yX3_refusalOfSlot.cls ≠ "java/lang/invoke/MethodHandle" ∧ yX3_refusalOfSlot.cls ≠ "java/lang/invoke/VarHandle" ∧ (parseMethodDescriptor yX3_refusalOfSlot.desc).map (fun d => d.parameters.length) = some 1 := by decide +kernel
theorem kd_X3_revoke : yX3_revoke.cls ≠ "java/lang/invoke/MethodHandle" ∧ yX3_revoke.cls ≠ "java/lang/invoke/VarHandle" ∧ (parseMethodDescriptor yX3_revoke.desc).map (fun d => d.parameters.length) = some 1 := by decide +kernel
theorem kd_X3_clearSlot : yX3_clearSlot.cls ≠ "java/lang/invoke/MethodHandle" ∧ yX3_clearSlot.cls ≠ "java/lang/invoke/VarHandle" ∧ (parseMethodDescriptor yX3_clearSlot.desc).map (fun d => d.parameters.length) = some 1 := by decide +kernel
theorem kd_X3_write : yX3_write.cls ≠ "java/lang/invoke/MethodHandle" ∧ yX3_write.cls ≠ "java/lang/invoke/VarHandle" ∧ (parseMethodDescriptor yX3_write.desc).map (fun d => d.parameters.length) = some 3 := by decide +kernel
theorem kd_X3_refusalOfWord : yX3_refusalOfWord.cls ≠ "java/lang/invoke/MethodHandle" ∧ yX3_refusalOfWord.cls ≠ "java/lang/invoke/VarHandle" ∧ (parseMethodDescriptor yX3_refusalOfWord.desc).map (fun d => d.parameters.length) = some 2 := by decide +kernel
theorem kd_X3_plainWord : yX3_plainWord.cls ≠ "java/lang/invoke/MethodHandle" ∧ yX3_plainWord.cls ≠ "java/lang/invoke/VarHandle" ∧ (parseMethodDescriptor yX3_plainWord.desc).map (fun d => d.parameters.length) = some 2 := by decide +kernel
theorem kd_X0_decipherSectorWord : yX0_decipherSectorWord.cls ≠ "java/lang/invoke/MethodHandle" ∧ yX0_decipherSectorWord.cls ≠ "java/lang/invoke/VarHandle" ∧ (parseMethodDescriptor yX0_decipherSectorWord.desc).map (fun d => d.parameters.length) = some 5 := by decide +kernel
theorem kd_X3_read : yX3_read.cls ≠ "java/lang/invoke/MethodHandle" ∧ yX3_read.cls ≠ "java/lang/invoke/VarHandle" ∧ (parseMethodDescriptor yX3_read.desc).map (fun d => d.parameters.length) = some 2 := by decide +kernel
theorem kd_X3_state : yX3_state.cls ≠ "java/lang/invoke/MethodHandle" ∧ yX3_state.cls ≠ "java/lang/invoke/VarHandle" ∧ (parseMethodDescriptor yX3_state.desc).map (fun d => d.parameters.length) = some 0 := by decide +kernel
theorem kd_X3_peek : yX3_peek.cls ≠ "java/lang/invoke/MethodHandle" ∧ yX3_peek.cls ≠ "java/lang/invoke/VarHandle" ∧ (parseMethodDescriptor yX3_peek.desc).map (fun d => d.parameters.length) = some 1 := by decide +kernel
theorem kd_X3_writes : yX3_writes.cls ≠ "java/lang/invoke/MethodHandle" ∧ yX3_writes.cls ≠ "java/lang/invoke/VarHandle" ∧ (parseMethodDescriptor yX3_writes.desc).map (fun d => d.parameters.length) = some 0 := by decide +kernel
theorem kd_X4_init : yX4_init.cls ≠ "java/lang/invoke/MethodHandle" ∧ yX4_init.cls ≠ "java/lang/invoke/VarHandle" ∧ (parseMethodDescriptor yX4_init.desc).map (fun d => d.parameters.length) = some 0 := by decide +kernel
theorem kd_X4_cut : yX4_cut.cls ≠ "java/lang/invoke/MethodHandle" ∧ yX4_cut.cls ≠ "java/lang/invoke/VarHandle" ∧ (parseMethodDescriptor yX4_cut.desc).map (fun d => d.parameters.length) = some 1 := by decide +kernel
theorem kd_X4_format : yX4_format.cls ≠ "java/lang/invoke/MethodHandle" ∧ yX4_format.cls ≠ "java/lang/invoke/VarHandle" ∧ (parseMethodDescriptor yX4_format.desc).map (fun d => d.parameters.length) = some 4 := by decide +kernel
theorem kd_X4_begin : yX4_begin.cls ≠ "java/lang/invoke/MethodHandle" ∧ yX4_begin.cls ≠ "java/lang/invoke/VarHandle" ∧ (parseMethodDescriptor yX4_begin.desc).map (fun d => d.parameters.length) = some 0 := by decide +kernel
theorem kd_X4_h : yX4_h.cls ≠ "java/lang/invoke/MethodHandle" ∧ yX4_h.cls ≠ "java/lang/invoke/VarHandle" ∧ (parseMethodDescriptor yX4_h.desc).map (fun d => d.parameters.length) = some 2 := by decide +kernel
theorem kd_X4_digest : yX4_digest.cls ≠ "java/lang/invoke/MethodHandle" ∧ yX4_digest.cls ≠ "java/lang/invoke/VarHandle" ∧ (parseMethodDescriptor yX4_digest.desc).map (fun d => d.parameters.length) = some 3 := by decide +kernel
theorem kd_X4_makeSlot : yX4_makeSlot.cls ≠ "java/lang/invoke/MethodHandle" ∧ yX4_makeSlot.cls ≠ "java/lang/invoke/VarHandle" ∧ (parseMethodDescriptor yX4_makeSlot.desc).map (fun d => d.parameters.length) = some 4 := by decide +kernel
theorem kd_X4_cover : yX4_cover.cls ≠ "java/lang/invoke/MethodHandle" ∧ yX4_cover.cls ≠ "java/lang/invoke/VarHandle" ∧ (parseMethodDescriptor yX4_cover.desc).map (fun d => d.parameters.length) = some 1 := by decide +kernel
theorem kd_X4_slotKey : yX4_slotKey.cls ≠ "java/lang/invoke/MethodHandle" ∧ yX4_slotKey.cls ≠ "java/lang/invoke/VarHandle" ∧ (parseMethodDescriptor yX4_slotKey.desc).map (fun d => d.parameters.length) = some 3 := by decide +kernel
theorem kd_X4_enc : yX4_enc.cls ≠ "java/lang/invoke/MethodHandle" ∧ yX4_enc.cls ≠ "java/lang/invoke/VarHandle" ∧ (parseMethodDescriptor yX4_enc.desc).map (fun d => d.parameters.length) = some 2 := by decide +kernel
theorem kd_X4_round : yX4_round.cls ≠ "java/lang/invoke/MethodHandle" ∧ yX4_round.cls ≠ "java/lang/invoke/VarHandle" ∧ (parseMethodDescriptor yX4_round.desc).map (fun d => d.parameters.length) = some 3 := by decide +kernel
theorem kd_X4_hide : yX4_hide.cls ≠ "java/lang/invoke/MethodHandle" ∧ yX4_hide.cls ≠ "java/lang/invoke/VarHandle" ∧ (parseMethodDescriptor yX4_hide.desc).map (fun d => d.parameters.length) = some 5 := by decide +kernel
theorem kd_X4_mask : yX4_mask.cls ≠ "java/lang/invoke/MethodHandle" ∧ yX4_mask.cls ≠ "java/lang/invoke/VarHandle" ∧ (parseMethodDescriptor yX4_mask.desc).map (fun d => d.parameters.length) = some 3 := by decide +kernel
theorem kd_X4_plan : yX4_plan.cls ≠ "java/lang/invoke/MethodHandle" ∧ yX4_plan.cls ≠ "java/lang/invoke/VarHandle" ∧ (parseMethodDescriptor yX4_plan.desc).map (fun d => d.parameters.length) = some 2 := by decide +kernel
theorem kd_X4_perform : yX4_perform.cls ≠ "java/lang/invoke/MethodHandle" ∧ yX4_perform.cls ≠ "java/lang/invoke/VarHandle" ∧ (parseMethodDescriptor yX4_perform.desc).map (fun d => d.parameters.length) = some 0 := by decide +kernel
theorem kd_X4_mount : yX4_mount.cls ≠ "java/lang/invoke/MethodHandle" ∧ yX4_mount.cls ≠ "java/lang/invoke/VarHandle" ∧ (parseMethodDescriptor yX4_mount.desc).map (fun d => d.parameters.length) = some 0 := by decide +kernel
theorem kd_X4_planFinish : yX4_planFinish.cls ≠ "java/lang/invoke/MethodHandle" ∧ yX4_planFinish.cls ≠ "java/lang/invoke/VarHandle" ∧ (parseMethodDescriptor yX4_planFinish.desc).map (fun d => d.parameters.length) = some 0 := by decide +kernel
theorem kd_X4_planClean : yX4_planClean.cls ≠ "java/lang/invoke/MethodHandle" ∧ yX4_planClean.cls ≠ "java/lang/invoke/VarHandle" ∧ (parseMethodDescriptor yX4_planClean.desc).map (fun d => d.parameters.length) = some 0 := by decide +kernel
theorem kd_X4_count : yX4_count.cls ≠ "java/lang/invoke/MethodHandle" ∧ yX4_count.cls ≠ "java/lang/invoke/VarHandle" ∧ (parseMethodDescriptor yX4_count.desc).map (fun d => d.parameters.length) = some 0 := by decide +kernel
theorem kd_X4_active : yX4_active.cls ≠ "java/lang/invoke/MethodHandle" ∧ yX4_active.cls ≠ "java/lang/invoke/VarHandle" ∧ (parseMethodDescriptor yX4_active.desc).map (fun d => d.parameters.length) = some 1 := by decide +kernel
theorem kd_X4_unlock : yX4_unlock.cls ≠ "java/lang/invoke/MethodHandle" ∧ yX4_unlock.cls ≠ "java/lang/invoke/VarHandle" ∧ (parseMethodDescriptor yX4_unlock.desc).map (fun d => d.parameters.length) = some 1 := by decide +kernel
theorem kd_X4_opens : yX4_opens.cls ≠ "java/lang/invoke/MethodHandle" ∧ yX4_opens.cls ≠ "java/lang/invoke/VarHandle" ∧ (parseMethodDescriptor yX4_opens.desc).map (fun d => d.parameters.length) = some 2 := by decide +kernel
theorem kd_X4_dec : yX4_dec.cls ≠ "java/lang/invoke/MethodHandle" ∧ yX4_dec.cls ≠ "java/lang/invoke/VarHandle" ∧ (parseMethodDescriptor yX4_dec.desc).map (fun d => d.parameters.length) = some 2 := by decide +kernel
theorem kd_X4_lock : yX4_lock.cls ≠ "java/lang/invoke/MethodHandle" ∧ yX4_lock.cls ≠ "java/lang/invoke/VarHandle" ∧ (parseMethodDescriptor yX4_lock.desc).map (fun d => d.parameters.length) = some 0 := by decide +kernel
theorem kd_X4_add : yX4_add.cls ≠ "java/lang/invoke/MethodHandle" ∧ yX4_add.cls ≠ "java/lang/invoke/VarHandle" ∧ (parseMethodDescriptor yX4_add.desc).map (fun d => d.parameters.length) = some 2 := by decide +kernel
theorem kd_X4_closed : yX4_closed.cls ≠ "java/lang/invoke/MethodHandle" ∧ yX4_closed.cls ≠ "java/lang/invoke/VarHandle" ∧ (parseMethodDescriptor yX4_closed.desc).map (fun d => d.parameters.length) = some 0 := by decide +kernel
theorem kd_X4_planChange : yX4_planChange.cls ≠ "java/lang/invoke/MethodHandle" ∧ yX4_planChange.cls ≠ "java/lang/invoke/VarHandle" ∧ (parseMethodDescriptor yX4_planChange.desc).map (fun d => d.parameters.length) = some 2 := by decide +kernel
theorem kd_X4_change : yX4_change.cls ≠ "java/lang/invoke/MethodHandle" ∧ yX4_change.cls ≠ "java/lang/invoke/VarHandle" ∧ (parseMethodDescriptor yX4_change.desc).map (fun d => d.parameters.length) = some 3 := by decide +kernel
theorem kd_X4_badSlot : yX4_badSlot.cls ≠ "java/lang/invoke/MethodHandle" ∧ yX4_badSlot.cls ≠ "java/lang/invoke/VarHandle" ∧ (parseMethodDescriptor yX4_badSlot.desc).map (fun d => d.parameters.length) = some 1 := by decide +kernel
theorem kd_X4_revoke : yX4_revoke.cls ≠ "java/lang/invoke/MethodHandle" ∧ yX4_revoke.cls ≠ "java/lang/invoke/VarHandle" ∧ (parseMethodDescriptor yX4_revoke.desc).map (fun d => d.parameters.length) = some 1 := by decide +kernel
theorem kd_X4_write : yX4_write.cls ≠ "java/lang/invoke/MethodHandle" ∧ yX4_write.cls ≠ "java/lang/invoke/VarHandle" ∧ (parseMethodDescriptor yX4_write.desc).map (fun d => d.parameters.length) = some 3 := by decide +kernel
theorem kd_X4_badWord : yX4_badWord.cls ≠ "java/lang/invoke/MethodHandle" ∧ yX4_badWord.cls ≠ "java/lang/invoke/VarHandle" ∧ (parseMethodDescriptor yX4_badWord.desc).map (fun d => d.parameters.length) = some 2 := by decide +kernel
theorem kd_X4_show : yX4_show.cls ≠ "java/lang/invoke/MethodHandle" ∧ yX4_show.cls ≠ "java/lang/invoke/VarHandle" ∧ (parseMethodDescriptor yX4_show.desc).map (fun d => d.parameters.length) = some 5 := by decide +kernel
theorem kd_X4_read : yX4_read.cls ≠ "java/lang/invoke/MethodHandle" ∧ yX4_read.cls ≠ "java/lang/invoke/VarHandle" ∧ (parseMethodDescriptor yX4_read.desc).map (fun d => d.parameters.length) = some 2 := by decide +kernel
theorem kd_X4_state : yX4_state.cls ≠ "java/lang/invoke/MethodHandle" ∧ yX4_state.cls ≠ "java/lang/invoke/VarHandle" ∧ (parseMethodDescriptor yX4_state.desc).map (fun d => d.parameters.length) = some 0 := by decide +kernel
theorem kd_X4_slots : yX4_slots.cls ≠ "java/lang/invoke/MethodHandle" ∧ yX4_slots.cls ≠ "java/lang/invoke/VarHandle" ∧ (parseMethodDescriptor yX4_slots.desc).map (fun d => d.parameters.length) = some 0 := by decide +kernel
theorem kd_X4_peek : yX4_peek.cls ≠ "java/lang/invoke/MethodHandle" ∧ yX4_peek.cls ≠ "java/lang/invoke/VarHandle" ∧ (parseMethodDescriptor yX4_peek.desc).map (fun d => d.parameters.length) = some 1 := by decide +kernel
theorem kd_X4_writes : yX4_writes.cls ≠ "java/lang/invoke/MethodHandle" ∧ yX4_writes.cls ≠ "java/lang/invoke/VarHandle" ∧ (parseMethodDescriptor yX4_writes.desc).map (fun d => d.parameters.length) = some 0 := by decide +kernel
abbrev wsX3_init : List Cond := .code yX3_init cX3_init 1 none :: kn_T
abbrev wsX1_init : List Cond := .code yX1_init cX1_init 1 none :: kn_T
abbrev wsX3_cut : List Cond := .code yX3_cut cX3_cut 2 (some .boolean) :: kn_T
abbrev wsX3_format : List Cond := .code yX3_format cX3_format 5 (some .int) :: kn_T
abbrev wsX3_workOutVolume : List Cond := .code yX3_workOutVolume cX3_workOutVolume 8 none :: kn_T
abbrev wsJ7_fill : List Cond := .code yJ7_fill cJ7_fill 4 none :: kn_T
abbrev wsX0_mix : List Cond := .code yX0_mix cX0_mix 3 (some .int) :: kn_T
abbrev wsX0_digest : List Cond := .code yX0_digest cX0_digest 3 (some .int) :: kn_T
abbrev wsX3_slotPlace : List Cond := .code yX3_slotPlace cX3_slotPlace 1 (some .int) :: kn_T
abbrev wsX2_workOut : List Cond := .code yX2_workOut cX2_workOut 6 none :: kn_T
abbrev wsX2_workOutHalf : List Cond := .code yX2_workOutHalf cX2_workOutHalf 11 none :: kn_T
abbrev wsX0_slotKey : List Cond := .code yX0_slotKey cX0_slotKey 6 (some .int) :: kn_T
abbrev wsX2_mask : List Cond := .code yX2_mask cX2_mask 3 (some .int) :: kn_T
abbrev wsX0_encipher : List Cond := .code yX0_encipher cX0_encipher 6 (some .int) :: kn_T
abbrev wsX0_roundMask : List Cond := .code yX0_roundMask cX0_roundMask 3 (some .int) :: kn_T
abbrev wsX3_sectorPlace : List Cond := .code yX3_sectorPlace cX3_sectorPlace 1 (some .int) :: kn_T
abbrev wsX0_encipherSectorWord : List Cond := .code yX0_encipherSectorWord cX0_encipherSectorWord 6 (some .int) :: kn_T
abbrev wsX0_tweak : List Cond := .code yX0_tweak cX0_tweak 5 (some .int) :: kn_T
abbrev wsX3_putVolume : List Cond := .code yX3_putVolume cX3_putVolume 2 (some .boolean) :: kn_T
abbrev wsX1_put : List Cond := .code yX1_put cX1_put 3 (some .boolean) :: kn_T
abbrev wsX3_powerLost : List Cond := .code yX3_powerLost cX3_powerLost 1 (some .int) :: kn_T
abbrev wsX3_holdNoKeys : List Cond := .code yX3_holdNoKeys cX3_holdNoKeys 2 none :: kn_T
abbrev wsX3_mount : List Cond := .code yX3_mount cX3_mount 1 (some .int) :: kn_T
abbrev wsX1_wordAt : List Cond := .code yX1_wordAt cX1_wordAt 2 (some .int) :: kn_T
abbrev wsX1_settleJournal : List Cond := .code yX1_settleJournal cX1_settleJournal 1 (some .boolean) :: kn_T
abbrev wsX1_finishJournal : List Cond := .code yX1_finishJournal cX1_finishJournal 4 (some .boolean) :: kn_T
abbrev wsX1_clearJournal : List Cond := .code yX1_clearJournal cX1_clearJournal 2 (some .boolean) :: kn_T
abbrev wsX3_activeSlots : List Cond := .code yX3_activeSlots cX3_activeSlots 1 (some .int) :: kn_T
abbrev wsX3_slots : List Cond := .code yX3_slots cX3_slots 3 (some .int) :: kn_T
abbrev wsX3_isActive : List Cond := .code yX3_isActive cX3_isActive 2 (some .boolean) :: kn_T
abbrev wsJ6_bitCount : List Cond := .code yJ6_bitCount cJ6_bitCount 1 (some .int) :: kn_T
abbrev wsX3_unlock : List Cond := .code yX3_unlock cX3_unlock 3 (some .int) :: kn_T
abbrev wsX3_opensWith : List Cond := .code yX3_opensWith cX3_opensWith 6 (some .boolean) :: kn_T
abbrev wsX2_openHalf : List Cond := .code yX2_openHalf cX2_openHalf 9 (some .int) :: kn_T
abbrev wsX0_decipher : List Cond := .code yX0_decipher cX0_decipher 6 (some .int) :: kn_T
abbrev wsX3_lock : List Cond := .code yX3_lock cX3_lock 2 (some .int) :: kn_T
abbrev wsX3_add : List Cond := .code yX3_add cX3_add 5 (some .int) :: kn_T
abbrev wsX3_refusalUnlessOpen : List Cond := .code yX3_refusalUnlessOpen cX3_refusalUnlessOpen 1 (some .int) :: kn_T
abbrev wsX3_leastFreeSlot : List Cond := .code yX3_leastFreeSlot cX3_leastFreeSlot 2 (some .int) :: kn_T
abbrev wsX3_fillSlot : List Cond := .code yX3_fillSlot cX3_fillSlot 4 (some .boolean) :: kn_T
abbrev wsX1_replaceByJournal : List Cond := .code yX1_replaceByJournal cX1_replaceByJournal 5 (some .boolean) :: kn_T
abbrev wsX3_change : List Cond := .code yX3_change cX3_change 5 (some .int) :: kn_T
abbrev wsX3_refusalOfSlot : List Cond := .code yX3_refusalOfSlot cX3_refusalOfSlot 3 (some .int) :: kn_T
abbrev wsX3_revoke : List Cond := .code yX3_revoke cX3_revoke 3 (some .int) :: kn_T
abbrev wsX3_clearSlot : List Cond := .code yX3_clearSlot cX3_clearSlot 2 (some .boolean) :: kn_T
abbrev wsX3_write : List Cond := .code yX3_write cX3_write 7 (some .int) :: kn_T
abbrev wsX3_refusalOfWord : List Cond := .code yX3_refusalOfWord cX3_refusalOfWord 5 (some .int) :: kn_T
abbrev wsX3_plainWord : List Cond := .code yX3_plainWord cX3_plainWord 4 (some .int) :: kn_T
abbrev wsX0_decipherSectorWord : List Cond := .code yX0_decipherSectorWord cX0_decipherSectorWord 6 (some .int) :: kn_T
abbrev wsX3_read : List Cond := .code yX3_read cX3_read 4 (some .long) :: kn_T
abbrev wsX3_state : List Cond := .code yX3_state cX3_state 1 (some .int) :: kn_T
abbrev wsX3_peek : List Cond := .code yX3_peek cX3_peek 2 (some .int) :: kn_T
abbrev wsX3_writes : List Cond := .code yX3_writes cX3_writes 1 (some .int) :: kn_T
abbrev wsX4_init : List Cond := .code yX4_init cX4_init 1 none :: kn_T
abbrev wsX4_cut : List Cond := .code yX4_cut cX4_cut 2 (some .boolean) :: kn_T
abbrev wsX4_format : List Cond := .code yX4_format cX4_format 7 (some .int) :: kn_T
abbrev wsX4_begin : List Cond := .code yX4_begin cX4_begin 2 none :: kn_T
abbrev wsX4_h : List Cond := .code yX4_h cX4_h 3 (some .int) :: kn_T
abbrev wsX4_digest : List Cond := .code yX4_digest cX4_digest 4 (some .int) :: kn_T
abbrev wsX4_makeSlot : List Cond := .code yX4_makeSlot cX4_makeSlot 8 none :: kn_T
abbrev wsX4_cover : List Cond := .code yX4_cover cX4_cover 3 (some .int) :: kn_T
abbrev wsX4_slotKey : List Cond := .code yX4_slotKey cX4_slotKey 6 (some .int) :: kn_T
abbrev wsX4_enc : List Cond := .code yX4_enc cX4_enc 6 (some .int) :: kn_T
abbrev wsX4_round : List Cond := .code yX4_round cX4_round 4 (some .int) :: kn_T
abbrev wsX4_hide : List Cond := .code yX4_hide cX4_hide 6 (some .int) :: kn_T
abbrev wsX4_mask : List Cond := .code yX4_mask cX4_mask 5 (some .int) :: kn_T
abbrev wsX4_plan : List Cond := .code yX4_plan cX4_plan 3 none :: kn_T
abbrev wsX4_perform : List Cond := .code yX4_perform cX4_perform 2 (some .boolean) :: kn_T
abbrev wsX4_mount : List Cond := .code yX4_mount cX4_mount 1 (some .int) :: kn_T
abbrev wsX4_planFinish : List Cond := .code yX4_planFinish cX4_planFinish 4 none :: kn_T
abbrev wsX4_planClean : List Cond := .code yX4_planClean cX4_planClean 2 none :: kn_T
abbrev wsX4_count : List Cond := .code yX4_count cX4_count 3 (some .int) :: kn_T
abbrev wsX4_active : List Cond := .code yX4_active cX4_active 2 (some .boolean) :: kn_T
abbrev wsX4_unlock : List Cond := .code yX4_unlock cX4_unlock 3 (some .int) :: kn_T
abbrev wsX4_opens : List Cond := .code yX4_opens cX4_opens 6 (some .boolean) :: kn_T
abbrev wsX4_dec : List Cond := .code yX4_dec cX4_dec 6 (some .int) :: kn_T
abbrev wsX4_lock : List Cond := .code yX4_lock cX4_lock 2 (some .int) :: kn_T
abbrev wsX4_add : List Cond := .code yX4_add cX4_add 4 (some .int) :: kn_T
abbrev wsX4_closed : List Cond := .code yX4_closed cX4_closed 1 (some .int) :: kn_T
abbrev wsX4_planChange : List Cond := .code yX4_planChange cX4_planChange 4 none :: kn_T
abbrev wsX4_change : List Cond := .code yX4_change cX4_change 4 (some .int) :: kn_T
abbrev wsX4_badSlot : List Cond := .code yX4_badSlot cX4_badSlot 2 (some .int) :: kn_T
abbrev wsX4_revoke : List Cond := .code yX4_revoke cX4_revoke 3 (some .int) :: kn_T
abbrev wsX4_write : List Cond := .code yX4_write cX4_write 6 (some .int) :: kn_T
abbrev wsX4_badWord : List Cond := .code yX4_badWord cX4_badWord 3 (some .int) :: kn_T
abbrev wsX4_show : List Cond := .code yX4_show cX4_show 6 (some .int) :: kn_T
abbrev wsX4_read : List Cond := .code yX4_read cX4_read 4 (some .long) :: kn_T
abbrev wsX4_state : List Cond := .code yX4_state cX4_state 1 (some .int) :: kn_T
abbrev wsX4_slots : List Cond := .code yX4_slots cX4_slots 3 (some .int) :: kn_T
abbrev wsX4_peek : List Cond := .code yX4_peek cX4_peek 2 (some .int) :: kn_T
abbrev wsX4_writes : List Cond := .code yX4_writes cX4_writes 1 (some .int) :: kn_T
abbrev cL_law : ByteArray := code
end
section
theorem dX0_mix_0 : decode cX0_mix 0 = .ok (.iload_n 0, 1) := by decide +kernel
theorem dX0_mix_1 : decode cX0_mix 1 = .ok (.ldc 7, 2) := by decide +kernel
theorem dX0_mix_3 : decode cX0_mix 3 = .ok (.ixor, 1) := by decide +kernel
theorem dX0_mix_4 : decode cX0_mix 4 = .ok (.ldc 8, 2) := by decide +kernel
theorem dX0_mix_6 : decode cX0_mix 6 = .ok (.imul, 1) := by decide +kernel
theorem dX0_mix_7 : decode cX0_mix 7 = .ok (.iload_n 1, 1) := by decide +kernel
theorem dX0_mix_8 : decode cX0_mix 8 = .ok (.iadd, 1) := by decide +kernel
theorem dX0_mix_9 : decode cX0_mix 9 = .ok (.istore_n 2, 1) := by decide +kernel
theorem dX0_mix_10 : decode cX0_mix 10 = .ok (.iload_n 2, 1) := by decide +kernel
theorem dX0_mix_11 : decode cX0_mix 11 = .ok (.iload_n 2, 1) := by decide +kernel
theorem dX0_mix_12 : decode cX0_mix 12 = .ok (.bipush 15, 2) := by decide +kernel
theorem dX0_mix_14 : decode cX0_mix 14 = .ok (.iushr, 1) := by decide +kernel
theorem dX0_mix_15 : decode cX0_mix 15 = .ok (.ixor, 1) := by decide +kernel
theorem dX0_mix_16 : decode cX0_mix 16 = .ok (.istore_n 2, 1) := by decide +kernel
theorem dX0_mix_17 : decode cX0_mix 17 = .ok (.iload_n 2, 1) := by decide +kernel
theorem dX0_mix_18 : decode cX0_mix 18 = .ok (.ldc 9, 2) := by decide +kernel
theorem dX0_mix_20 : decode cX0_mix 20 = .ok (.imul, 1) := by decide +kernel
theorem dX0_mix_21 : decode cX0_mix 21 = .ok (.istore_n 2, 1) := by decide +kernel
theorem dX0_mix_22 : decode cX0_mix 22 = .ok (.iload_n 2, 1) := by decide +kernel
theorem dX0_mix_23 : decode cX0_mix 23 = .ok (.iload_n 2, 1) := by decide +kernel
theorem dX0_mix_24 : decode cX0_mix 24 = .ok (.bipush 13, 2) := by decide +kernel
theorem dX0_mix_26 : decode cX0_mix 26 = .ok (.iushr, 1) := by decide +kernel
theorem dX0_mix_27 : decode cX0_mix 27 = .ok (.ixor, 1) := by decide +kernel
theorem dX0_mix_28 : decode cX0_mix 28 = .ok (.ireturn, 1) := by decide +kernel
theorem dX0_encipher_0 : decode cX0_encipher 0 = .ok (.iload_n 1, 1) := by decide +kernel
theorem dX0_encipher_1 : decode cX0_encipher 1 = .ok (.bipush 16, 2) := by decide +kernel
theorem dX0_encipher_3 : decode cX0_encipher 3 = .ok (.iushr, 1) := by decide +kernel
theorem dX0_encipher_4 : decode cX0_encipher 4 = .ok (.istore_n 2, 1) := by decide +kernel
theorem dX0_encipher_5 : decode cX0_encipher 5 = .ok (.iload_n 1, 1) := by decide +kernel
theorem dX0_encipher_6 : decode cX0_encipher 6 = .ok (.ldc 12, 2) := by decide +kernel
theorem dX0_encipher_8 : decode cX0_encipher 8 = .ok (.iand, 1) := by decide +kernel
theorem dX0_encipher_9 : decode cX0_encipher 9 = .ok (.istore_n 3, 1) := by decide +kernel
theorem dX0_encipher_10 : decode cX0_encipher 10 = .ok (.iconst 0, 1) := by decide +kernel
theorem dX0_encipher_11 : decode cX0_encipher 11 = .ok (.istore 4, 2) := by decide +kernel
theorem dX0_encipher_13 : decode cX0_encipher 13 = .ok (.iload 4, 2) := by decide +kernel
theorem dX0_encipher_15 : decode cX0_encipher 15 = .ok (.iconst 4, 1) := by decide +kernel
theorem dX0_encipher_16 : decode cX0_encipher 16 = .ok (.if_icmp .ge 25, 3) := by decide +kernel
theorem dX0_encipher_19 : decode cX0_encipher 19 = .ok (.iload_n 2, 1) := by decide +kernel
theorem dX0_encipher_20 : decode cX0_encipher 20 = .ok (.istore 5, 2) := by decide +kernel
theorem dX0_encipher_22 : decode cX0_encipher 22 = .ok (.iload_n 3, 1) := by decide +kernel
theorem dX0_encipher_23 : decode cX0_encipher 23 = .ok (.istore_n 2, 1) := by decide +kernel
theorem dX0_encipher_24 : decode cX0_encipher 24 = .ok (.iload 5, 2) := by decide +kernel
theorem dX0_encipher_26 : decode cX0_encipher 26 = .ok (.iload_n 0, 1) := by decide +kernel
theorem dX0_encipher_27 : decode cX0_encipher 27 = .ok (.iload 4, 2) := by decide +kernel
theorem dX0_encipher_29 : decode cX0_encipher 29 = .ok (.iload_n 3, 1) := by decide +kernel
theorem dX0_encipher_30 : decode cX0_encipher 30 = .ok (.invokestatic 13, 3) := by decide +kernel
theorem dX0_encipher_33 : decode cX0_encipher 33 = .ok (.ixor, 1) := by decide +kernel
theorem dX0_encipher_34 : decode cX0_encipher 34 = .ok (.istore_n 3, 1) := by decide +kernel
theorem dX0_encipher_35 : decode cX0_encipher 35 = .ok (.iinc 4 1, 3) := by decide +kernel
theorem dX0_encipher_38 : decode cX0_encipher 38 = .ok (.goto (-25), 3) := by decide +kernel
theorem dX0_encipher_41 : decode cX0_encipher 41 = .ok (.iload_n 2, 1) := by decide +kernel
theorem dX0_encipher_42 : decode cX0_encipher 42 = .ok (.bipush 16, 2) := by decide +kernel
theorem dX0_encipher_44 : decode cX0_encipher 44 = .ok (.ishl, 1) := by decide +kernel
theorem dX0_encipher_45 : decode cX0_encipher 45 = .ok (.iload_n 3, 1) := by decide +kernel
theorem dX0_encipher_46 : decode cX0_encipher 46 = .ok (.ior, 1) := by decide +kernel
theorem dX0_encipher_47 : decode cX0_encipher 47 = .ok (.ireturn, 1) := by decide +kernel
theorem dX0_decipher_0 : decode cX0_decipher 0 = .ok (.iload_n 1, 1) := by decide +kernel
theorem dX0_decipher_1 : decode cX0_decipher 1 = .ok (.bipush 16, 2) := by decide +kernel
theorem dX0_decipher_3 : decode cX0_decipher 3 = .ok (.iushr, 1) := by decide +kernel
theorem dX0_decipher_4 : decode cX0_decipher 4 = .ok (.istore_n 2, 1) := by decide +kernel
theorem dX0_decipher_5 : decode cX0_decipher 5 = .ok (.iload_n 1, 1) := by decide +kernel
theorem dX0_decipher_6 : decode cX0_decipher 6 = .ok (.ldc 12, 2) := by decide +kernel
theorem dX0_decipher_8 : decode cX0_decipher 8 = .ok (.iand, 1) := by decide +kernel
theorem dX0_decipher_9 : decode cX0_decipher 9 = .ok (.istore_n 3, 1) := by decide +kernel
theorem dX0_decipher_10 : decode cX0_decipher 10 = .ok (.iconst 3, 1) := by decide +kernel
theorem dX0_decipher_11 : decode cX0_decipher 11 = .ok (.istore 4, 2) := by decide +kernel
theorem dX0_decipher_13 : decode cX0_decipher 13 = .ok (.iload 4, 2) := by decide +kernel
theorem dX0_decipher_15 : decode cX0_decipher 15 = .ok (.ifCond .lt 25, 3) := by decide +kernel
theorem dX0_decipher_18 : decode cX0_decipher 18 = .ok (.iload_n 3, 1) := by decide +kernel
theorem dX0_decipher_19 : decode cX0_decipher 19 = .ok (.istore 5, 2) := by decide +kernel
theorem dX0_decipher_21 : decode cX0_decipher 21 = .ok (.iload_n 2, 1) := by decide +kernel
theorem dX0_decipher_22 : decode cX0_decipher 22 = .ok (.istore_n 3, 1) := by decide +kernel
theorem dX0_decipher_23 : decode cX0_decipher 23 = .ok (.iload 5, 2) := by decide +kernel
theorem dX0_decipher_25 : decode cX0_decipher 25 = .ok (.iload_n 0, 1) := by decide +kernel
theorem dX0_decipher_26 : decode cX0_decipher 26 = .ok (.iload 4, 2) := by decide +kernel
theorem dX0_decipher_28 : decode cX0_decipher 28 = .ok (.iload_n 2, 1) := by decide +kernel
theorem dX0_decipher_29 : decode cX0_decipher 29 = .ok (.invokestatic 13, 3) := by decide +kernel
theorem dX0_decipher_32 : decode cX0_decipher 32 = .ok (.ixor, 1) := by decide +kernel
theorem dX0_decipher_33 : decode cX0_decipher 33 = .ok (.istore_n 2, 1) := by decide +kernel
theorem dX0_decipher_34 : decode cX0_decipher 34 = .ok (.iinc 4 (-1), 3) := by decide +kernel
theorem dX0_decipher_37 : decode cX0_decipher 37 = .ok (.goto (-24), 3) := by decide +kernel
theorem dX0_decipher_40 : decode cX0_decipher 40 = .ok (.iload_n 2, 1) := by decide +kernel
theorem dX0_decipher_41 : decode cX0_decipher 41 = .ok (.bipush 16, 2) := by decide +kernel
theorem dX0_decipher_43 : decode cX0_decipher 43 = .ok (.ishl, 1) := by decide +kernel
theorem dX0_decipher_44 : decode cX0_decipher 44 = .ok (.iload_n 3, 1) := by decide +kernel
theorem dX0_decipher_45 : decode cX0_decipher 45 = .ok (.ior, 1) := by decide +kernel
theorem dX0_decipher_46 : decode cX0_decipher 46 = .ok (.ireturn, 1) := by decide +kernel
theorem dX0_roundMask_0 : decode cX0_roundMask 0 = .ok (.iload_n 0, 1) := by decide +kernel
theorem dX0_roundMask_1 : decode cX0_roundMask 1 = .ok (.iload_n 1, 1) := by decide +kernel
theorem dX0_roundMask_2 : decode cX0_roundMask 2 = .ok (.invokestatic 17, 3) := by decide +kernel
theorem dX0_roundMask_5 : decode cX0_roundMask 5 = .ok (.iload_n 2, 1) := by decide +kernel
theorem dX0_roundMask_6 : decode cX0_roundMask 6 = .ok (.invokestatic 17, 3) := by decide +kernel
theorem dX0_roundMask_9 : decode cX0_roundMask 9 = .ok (.ldc 12, 2) := by decide +kernel
theorem dX0_roundMask_11 : decode cX0_roundMask 11 = .ok (.iand, 1) := by decide +kernel
theorem dX0_roundMask_12 : decode cX0_roundMask 12 = .ok (.ireturn, 1) := by decide +kernel
theorem dX0_slotKey_0 : decode cX0_slotKey 0 = .ok (.iload_n 0, 1) := by decide +kernel
theorem dX0_slotKey_1 : decode cX0_slotKey 1 = .ok (.iload_n 1, 1) := by decide +kernel
theorem dX0_slotKey_2 : decode cX0_slotKey 2 = .ok (.invokestatic 17, 3) := by decide +kernel
theorem dX0_slotKey_5 : decode cX0_slotKey 5 = .ok (.iload_n 2, 1) := by decide +kernel
theorem dX0_slotKey_6 : decode cX0_slotKey 6 = .ok (.invokestatic 17, 3) := by decide +kernel
theorem dX0_slotKey_9 : decode cX0_slotKey 9 = .ok (.istore_n 3, 1) := by decide +kernel
theorem dX0_slotKey_10 : decode cX0_slotKey 10 = .ok (.iload_n 3, 1) := by decide +kernel
theorem dX0_slotKey_11 : decode cX0_slotKey 11 = .ok (.istore 4, 2) := by decide +kernel
theorem dX0_slotKey_13 : decode cX0_slotKey 13 = .ok (.iconst 0, 1) := by decide +kernel
theorem dX0_slotKey_14 : decode cX0_slotKey 14 = .ok (.istore 5, 2) := by decide +kernel
theorem dX0_slotKey_16 : decode cX0_slotKey 16 = .ok (.iload 5, 2) := by decide +kernel
theorem dX0_slotKey_18 : decode cX0_slotKey 18 = .ok (.bipush 7, 2) := by decide +kernel
theorem dX0_slotKey_20 : decode cX0_slotKey 20 = .ok (.if_icmp .ge 21, 3) := by decide +kernel
theorem dX0_slotKey_23 : decode cX0_slotKey 23 = .ok (.iload_n 0, 1) := by decide +kernel
theorem dX0_slotKey_24 : decode cX0_slotKey 24 = .ok (.iload_n 3, 1) := by decide +kernel
theorem dX0_slotKey_25 : decode cX0_slotKey 25 = .ok (.invokestatic 17, 3) := by decide +kernel
theorem dX0_slotKey_28 : decode cX0_slotKey 28 = .ok (.istore_n 3, 1) := by decide +kernel
theorem dX0_slotKey_29 : decode cX0_slotKey 29 = .ok (.iload 4, 2) := by decide +kernel
theorem dX0_slotKey_31 : decode cX0_slotKey 31 = .ok (.iload_n 3, 1) := by decide +kernel
theorem dX0_slotKey_32 : decode cX0_slotKey 32 = .ok (.ixor, 1) := by decide +kernel
theorem dX0_slotKey_33 : decode cX0_slotKey 33 = .ok (.istore 4, 2) := by decide +kernel
theorem dX0_slotKey_35 : decode cX0_slotKey 35 = .ok (.iinc 5 1, 3) := by decide +kernel
theorem dX0_slotKey_38 : decode cX0_slotKey 38 = .ok (.goto (-22), 3) := by decide +kernel
theorem dX0_slotKey_41 : decode cX0_slotKey 41 = .ok (.iload 4, 2) := by decide +kernel
theorem dX0_slotKey_43 : decode cX0_slotKey 43 = .ok (.ireturn, 1) := by decide +kernel
theorem dX0_digest_0 : decode cX0_digest 0 = .ok (.iload_n 0, 1) := by decide +kernel
theorem dX0_digest_1 : decode cX0_digest 1 = .ok (.iload_n 2, 1) := by decide +kernel
theorem dX0_digest_2 : decode cX0_digest 2 = .ok (.invokestatic 17, 3) := by decide +kernel
theorem dX0_digest_5 : decode cX0_digest 5 = .ok (.iload_n 1, 1) := by decide +kernel
theorem dX0_digest_6 : decode cX0_digest 6 = .ok (.invokestatic 17, 3) := by decide +kernel
theorem dX0_digest_9 : decode cX0_digest 9 = .ok (.ireturn, 1) := by decide +kernel
theorem dX0_encipherSectorWord_0 : decode cX0_encipherSectorWord 0 = .ok (.iload_n 1, 1) := by decide +kernel
theorem dX0_encipherSectorWord_1 : decode cX0_encipherSectorWord 1 = .ok (.iload_n 2, 1) := by decide +kernel
theorem dX0_encipherSectorWord_2 : decode cX0_encipherSectorWord 2 = .ok (.iload_n 3, 1) := by decide +kernel
theorem dX0_encipherSectorWord_3 : decode cX0_encipherSectorWord 3 = .ok (.invokestatic 21, 3) := by decide +kernel
theorem dX0_encipherSectorWord_6 : decode cX0_encipherSectorWord 6 = .ok (.istore 5, 2) := by decide +kernel
theorem dX0_encipherSectorWord_8 : decode cX0_encipherSectorWord 8 = .ok (.iload_n 0, 1) := by decide +kernel
theorem dX0_encipherSectorWord_9 : decode cX0_encipherSectorWord 9 = .ok (.iload 4, 2) := by decide +kernel
theorem dX0_encipherSectorWord_11 : decode cX0_encipherSectorWord 11 = .ok (.iload 5, 2) := by decide +kernel
theorem dX0_encipherSectorWord_13 : decode cX0_encipherSectorWord 13 = .ok (.ixor, 1) := by decide +kernel
theorem dX0_encipherSectorWord_14 : decode cX0_encipherSectorWord 14 = .ok (.invokestatic 24, 3) := by decide +kernel
theorem dX0_encipherSectorWord_17 : decode cX0_encipherSectorWord 17 = .ok (.iload 5, 2) := by decide +kernel
theorem dX0_encipherSectorWord_19 : decode cX0_encipherSectorWord 19 = .ok (.ixor, 1) := by decide +kernel
theorem dX0_encipherSectorWord_20 : decode cX0_encipherSectorWord 20 = .ok (.ireturn, 1) := by decide +kernel
theorem dX0_decipherSectorWord_0 : decode cX0_decipherSectorWord 0 = .ok (.iload_n 1, 1) := by decide +kernel
theorem dX0_decipherSectorWord_1 : decode cX0_decipherSectorWord 1 = .ok (.iload_n 2, 1) := by decide +kernel
theorem dX0_decipherSectorWord_2 : decode cX0_decipherSectorWord 2 = .ok (.iload_n 3, 1) := by decide +kernel
theorem dX0_decipherSectorWord_3 : decode cX0_decipherSectorWord 3 = .ok (.invokestatic 21, 3) := by decide +kernel
theorem dX0_decipherSectorWord_6 : decode cX0_decipherSectorWord 6 = .ok (.istore 5, 2) := by decide +kernel
theorem dX0_decipherSectorWord_8 : decode cX0_decipherSectorWord 8 = .ok (.iload_n 0, 1) := by decide +kernel
theorem dX0_decipherSectorWord_9 : decode cX0_decipherSectorWord 9 = .ok (.iload 4, 2) := by decide +kernel
theorem dX0_decipherSectorWord_11 : decode cX0_decipherSectorWord 11 = .ok (.iload 5, 2) := by decide +kernel
theorem dX0_decipherSectorWord_13 : decode cX0_decipherSectorWord 13 = .ok (.ixor, 1) := by decide +kernel
theorem dX0_decipherSectorWord_14 : decode cX0_decipherSectorWord 14 = .ok (.invokestatic 27, 3) := by decide +kernel
theorem dX0_decipherSectorWord_17 : decode cX0_decipherSectorWord 17 = .ok (.iload 5, 2) := by decide +kernel
theorem dX0_decipherSectorWord_19 : decode cX0_decipherSectorWord 19 = .ok (.ixor, 1) := by decide +kernel
theorem dX0_decipherSectorWord_20 : decode cX0_decipherSectorWord 20 = .ok (.ireturn, 1) := by decide +kernel
theorem dX0_tweak_0 : decode cX0_tweak 0 = .ok (.iload_n 0, 1) := by decide +kernel
theorem dX0_tweak_1 : decode cX0_tweak 1 = .ok (.iload_n 1, 1) := by decide +kernel
theorem dX0_tweak_2 : decode cX0_tweak 2 = .ok (.invokestatic 24, 3) := by decide +kernel
theorem dX0_tweak_5 : decode cX0_tweak 5 = .ok (.istore_n 3, 1) := by decide +kernel
theorem dX0_tweak_6 : decode cX0_tweak 6 = .ok (.iconst 0, 1) := by decide +kernel
theorem dX0_tweak_7 : decode cX0_tweak 7 = .ok (.istore 4, 2) := by decide +kernel
theorem dX0_tweak_9 : decode cX0_tweak 9 = .ok (.iload 4, 2) := by decide +kernel
theorem dX0_tweak_11 : decode cX0_tweak 11 = .ok (.iload_n 2, 1) := by decide +kernel
theorem dX0_tweak_12 : decode cX0_tweak 12 = .ok (.if_icmp .ge 25, 3) := by decide +kernel
theorem dX0_tweak_15 : decode cX0_tweak 15 = .ok (.iload_n 3, 1) := by decide +kernel
theorem dX0_tweak_16 : decode cX0_tweak 16 = .ok (.iconst 1, 1) := by decide +kernel
theorem dX0_tweak_17 : decode cX0_tweak 17 = .ok (.ishl, 1) := by decide +kernel
theorem dX0_tweak_18 : decode cX0_tweak 18 = .ok (.iload_n 3, 1) := by decide +kernel
theorem dX0_tweak_19 : decode cX0_tweak 19 = .ok (.ifCond .ge 9, 3) := by decide +kernel
theorem dX0_tweak_22 : decode cX0_tweak 22 = .ok (.sipush 141, 3) := by decide +kernel
theorem dX0_tweak_25 : decode cX0_tweak 25 = .ok (.goto 4, 3) := by decide +kernel
theorem dX0_tweak_28 : decode cX0_tweak 28 = .ok (.iconst 0, 1) := by decide +kernel
theorem dX0_tweak_29 : decode cX0_tweak 29 = .ok (.ixor, 1) := by decide +kernel
theorem dX0_tweak_30 : decode cX0_tweak 30 = .ok (.istore_n 3, 1) := by decide +kernel
theorem dX0_tweak_31 : decode cX0_tweak 31 = .ok (.iinc 4 1, 3) := by decide +kernel
theorem dX0_tweak_34 : decode cX0_tweak 34 = .ok (.goto (-25), 3) := by decide +kernel
theorem dX0_tweak_37 : decode cX0_tweak 37 = .ok (.iload_n 3, 1) := by decide +kernel
theorem dX0_tweak_38 : decode cX0_tweak 38 = .ok (.ireturn, 1) := by decide +kernel
theorem dX1_init_0 : decode cX1_init 0 = .ok (.aload_n 0, 1) := by decide +kernel
theorem dX1_init_1 : decode cX1_init 1 = .ok (.invokespecial 1, 3) := by decide +kernel
theorem dX1_init_4 : decode cX1_init 4 = .ok (.aload_n 0, 1) := by decide +kernel
theorem dX1_init_5 : decode cX1_init 5 = .ok (.bipush 80, 2) := by decide +kernel
theorem dX1_init_7 : decode cX1_init 7 = .ok (.newarray .int, 2) := by decide +kernel
theorem dX1_init_9 : decode cX1_init 9 = .ok (.putfield 9, 3) := by decide +kernel
theorem dX1_init_12 : decode cX1_init 12 = .ok (.aload_n 0, 1) := by decide +kernel
theorem dX1_init_13 : decode cX1_init 13 = .ok (.iconst (-1), 1) := by decide +kernel
theorem dX1_init_14 : decode cX1_init 14 = .ok (.putfield 13, 3) := by decide +kernel
theorem dX1_init_17 : decode cX1_init 17 = .ok (.return_, 1) := by decide +kernel
theorem dX1_wordAt_0 : decode cX1_wordAt 0 = .ok (.iload_n 1, 1) := by decide +kernel
theorem dX1_wordAt_1 : decode cX1_wordAt 1 = .ok (.ifCond .lt 18, 3) := by decide +kernel
theorem dX1_wordAt_4 : decode cX1_wordAt 4 = .ok (.iload_n 1, 1) := by decide +kernel
theorem dX1_wordAt_5 : decode cX1_wordAt 5 = .ok (.bipush 80, 2) := by decide +kernel
theorem dX1_wordAt_7 : decode cX1_wordAt 7 = .ok (.if_icmp .ge 12, 3) := by decide +kernel
theorem dX1_wordAt_10 : decode cX1_wordAt 10 = .ok (.aload_n 0, 1) := by decide +kernel
theorem dX1_wordAt_11 : decode cX1_wordAt 11 = .ok (.getfield 9, 3) := by decide +kernel
theorem dX1_wordAt_14 : decode cX1_wordAt 14 = .ok (.iload_n 1, 1) := by decide +kernel
theorem dX1_wordAt_15 : decode cX1_wordAt 15 = .ok (.iaload, 1) := by decide +kernel
theorem dX1_wordAt_16 : decode cX1_wordAt 16 = .ok (.goto 4, 3) := by decide +kernel
theorem dX1_wordAt_19 : decode cX1_wordAt 19 = .ok (.iconst 0, 1) := by decide +kernel
theorem dX1_wordAt_20 : decode cX1_wordAt 20 = .ok (.ireturn, 1) := by decide +kernel
theorem dX1_put_0 : decode cX1_put 0 = .ok (.aload_n 0, 1) := by decide +kernel
theorem dX1_put_1 : decode cX1_put 1 = .ok (.getfield 13, 3) := by decide +kernel
theorem dX1_put_4 : decode cX1_put 4 = .ok (.ifCond .ne 10, 3) := by decide +kernel
theorem dX1_put_7 : decode cX1_put 7 = .ok (.aload_n 0, 1) := by decide +kernel
theorem dX1_put_8 : decode cX1_put 8 = .ok (.iconst (-1), 1) := by decide +kernel
theorem dX1_put_9 : decode cX1_put 9 = .ok (.putfield 13, 3) := by decide +kernel
theorem dX1_put_12 : decode cX1_put 12 = .ok (.iconst 0, 1) := by decide +kernel
theorem dX1_put_13 : decode cX1_put 13 = .ok (.ireturn, 1) := by decide +kernel
theorem dX1_put_14 : decode cX1_put 14 = .ok (.aload_n 0, 1) := by decide +kernel
theorem dX1_put_15 : decode cX1_put 15 = .ok (.getfield 13, 3) := by decide +kernel
theorem dX1_put_18 : decode cX1_put 18 = .ok (.ifCond .le 13, 3) := by decide +kernel
theorem dX1_put_21 : decode cX1_put 21 = .ok (.aload_n 0, 1) := by decide +kernel
theorem dX1_put_22 : decode cX1_put 22 = .ok (.dup, 1) := by decide +kernel
theorem dX1_put_23 : decode cX1_put 23 = .ok (.getfield 13, 3) := by decide +kernel
theorem dX1_put_26 : decode cX1_put 26 = .ok (.iconst 1, 1) := by decide +kernel
theorem dX1_put_27 : decode cX1_put 27 = .ok (.isub, 1) := by decide +kernel
theorem dX1_put_28 : decode cX1_put 28 = .ok (.putfield 13, 3) := by decide +kernel
theorem dX1_put_31 : decode cX1_put 31 = .ok (.aload_n 0, 1) := by decide +kernel
theorem dX1_put_32 : decode cX1_put 32 = .ok (.dup, 1) := by decide +kernel
theorem dX1_put_33 : decode cX1_put 33 = .ok (.getfield 17, 3) := by decide +kernel
theorem dX1_put_36 : decode cX1_put 36 = .ok (.iconst 1, 1) := by decide +kernel
theorem dX1_put_37 : decode cX1_put 37 = .ok (.iadd, 1) := by decide +kernel
theorem dX1_put_38 : decode cX1_put 38 = .ok (.putfield 17, 3) := by decide +kernel
theorem dX1_put_41 : decode cX1_put 41 = .ok (.iload_n 1, 1) := by decide +kernel
theorem dX1_put_42 : decode cX1_put 42 = .ok (.ifCond .lt 16, 3) := by decide +kernel
theorem dX1_put_45 : decode cX1_put 45 = .ok (.iload_n 1, 1) := by decide +kernel
theorem dX1_put_46 : decode cX1_put 46 = .ok (.bipush 80, 2) := by decide +kernel
theorem dX1_put_48 : decode cX1_put 48 = .ok (.if_icmp .ge 10, 3) := by decide +kernel
theorem dX1_put_51 : decode cX1_put 51 = .ok (.aload_n 0, 1) := by decide +kernel
theorem dX1_put_52 : decode cX1_put 52 = .ok (.getfield 9, 3) := by decide +kernel
theorem dX1_put_55 : decode cX1_put 55 = .ok (.iload_n 1, 1) := by decide +kernel
theorem dX1_put_56 : decode cX1_put 56 = .ok (.iload_n 2, 1) := by decide +kernel
theorem dX1_put_57 : decode cX1_put 57 = .ok (.iastore, 1) := by decide +kernel
theorem dX1_put_58 : decode cX1_put 58 = .ok (.iconst 1, 1) := by decide +kernel
theorem dX1_put_59 : decode cX1_put 59 = .ok (.ireturn, 1) := by decide +kernel
theorem dX1_replaceByJournal_0 : decode cX1_replaceByJournal 0 = .ok (.iconst 0, 1) := by decide +kernel
theorem dX1_replaceByJournal_1 : decode cX1_replaceByJournal 1 = .ok (.istore 4, 2) := by decide +kernel
theorem dX1_replaceByJournal_3 : decode cX1_replaceByJournal 3 = .ok (.iload 4, 2) := by decide +kernel
theorem dX1_replaceByJournal_5 : decode cX1_replaceByJournal 5 = .ok (.iload_n 2, 1) := by decide +kernel
theorem dX1_replaceByJournal_6 : decode cX1_replaceByJournal 6 = .ok (.if_icmp .ge 34, 3) := by decide +kernel
theorem dX1_replaceByJournal_9 : decode cX1_replaceByJournal 9 = .ok (.iload 4, 2) := by decide +kernel
theorem dX1_replaceByJournal_11 : decode cX1_replaceByJournal 11 = .ok (.aload_n 3, 1) := by decide +kernel
theorem dX1_replaceByJournal_12 : decode cX1_replaceByJournal 12 = .ok (.arraylength, 1) := by decide +kernel
theorem dX1_replaceByJournal_13 : decode cX1_replaceByJournal 13 = .ok (.if_icmp .ge 27, 3) := by decide +kernel
theorem dX1_replaceByJournal_16 : decode cX1_replaceByJournal 16 = .ok (.aload_n 0, 1) := by decide +kernel
theorem dX1_replaceByJournal_17 : decode cX1_replaceByJournal 17 = .ok (.bipush 38, 2) := by decide +kernel
theorem dX1_replaceByJournal_19 : decode cX1_replaceByJournal 19 = .ok (.iload 4, 2) := by decide +kernel
theorem dX1_replaceByJournal_21 : decode cX1_replaceByJournal 21 = .ok (.iadd, 1) := by decide +kernel
theorem dX1_replaceByJournal_22 : decode cX1_replaceByJournal 22 = .ok (.aload_n 3, 1) := by decide +kernel
theorem dX1_replaceByJournal_23 : decode cX1_replaceByJournal 23 = .ok (.iload 4, 2) := by decide +kernel
theorem dX1_replaceByJournal_25 : decode cX1_replaceByJournal 25 = .ok (.iaload, 1) := by decide +kernel
theorem dX1_replaceByJournal_26 : decode cX1_replaceByJournal 26 = .ok (.invokevirtual 20, 3) := by decide +kernel
theorem dX1_replaceByJournal_29 : decode cX1_replaceByJournal 29 = .ok (.ifCond .ne 5, 3) := by decide +kernel
theorem dX1_replaceByJournal_32 : decode cX1_replaceByJournal 32 = .ok (.iconst 0, 1) := by decide +kernel
theorem dX1_replaceByJournal_33 : decode cX1_replaceByJournal 33 = .ok (.ireturn, 1) := by decide +kernel
theorem dX1_replaceByJournal_34 : decode cX1_replaceByJournal 34 = .ok (.iinc 4 1, 3) := by decide +kernel
theorem dX1_replaceByJournal_37 : decode cX1_replaceByJournal 37 = .ok (.goto (-34), 3) := by decide +kernel
theorem dX1_replaceByJournal_40 : decode cX1_replaceByJournal 40 = .ok (.aload_n 0, 1) := by decide +kernel
theorem dX1_replaceByJournal_41 : decode cX1_replaceByJournal 41 = .ok (.bipush 37, 2) := by decide +kernel
theorem dX1_replaceByJournal_43 : decode cX1_replaceByJournal 43 = .ok (.iload_n 1, 1) := by decide +kernel
theorem dX1_replaceByJournal_44 : decode cX1_replaceByJournal 44 = .ok (.sipush 256, 3) := by decide +kernel
theorem dX1_replaceByJournal_47 : decode cX1_replaceByJournal 47 = .ok (.iload_n 2, 1) := by decide +kernel
theorem dX1_replaceByJournal_48 : decode cX1_replaceByJournal 48 = .ok (.imul, 1) := by decide +kernel
theorem dX1_replaceByJournal_49 : decode cX1_replaceByJournal 49 = .ok (.iadd, 1) := by decide +kernel
theorem dX1_replaceByJournal_50 : decode cX1_replaceByJournal 50 = .ok (.invokevirtual 20, 3) := by decide +kernel
theorem dX1_replaceByJournal_53 : decode cX1_replaceByJournal 53 = .ok (.ifCond .eq 24, 3) := by decide +kernel
theorem dX1_replaceByJournal_56 : decode cX1_replaceByJournal 56 = .ok (.aload_n 0, 1) := by decide +kernel
theorem dX1_replaceByJournal_57 : decode cX1_replaceByJournal 57 = .ok (.bipush 36, 2) := by decide +kernel
theorem dX1_replaceByJournal_59 : decode cX1_replaceByJournal 59 = .ok (.iconst 1, 1) := by decide +kernel
theorem dX1_replaceByJournal_60 : decode cX1_replaceByJournal 60 = .ok (.invokevirtual 20, 3) := by decide +kernel
theorem dX1_replaceByJournal_63 : decode cX1_replaceByJournal 63 = .ok (.ifCond .eq 14, 3) := by decide +kernel
theorem dX1_replaceByJournal_66 : decode cX1_replaceByJournal 66 = .ok (.aload_n 0, 1) := by decide +kernel
theorem dX1_replaceByJournal_67 : decode cX1_replaceByJournal 67 = .ok (.invokevirtual 24, 3) := by decide +kernel
theorem dX1_replaceByJournal_70 : decode cX1_replaceByJournal 70 = .ok (.ifCond .eq 7, 3) := by decide +kernel
theorem dX1_replaceByJournal_73 : decode cX1_replaceByJournal 73 = .ok (.iconst 1, 1) := by decide +kernel
theorem dX1_replaceByJournal_74 : decode cX1_replaceByJournal 74 = .ok (.goto 4, 3) := by decide +kernel
theorem dX1_replaceByJournal_77 : decode cX1_replaceByJournal 77 = .ok (.iconst 0, 1) := by decide +kernel
theorem dX1_replaceByJournal_78 : decode cX1_replaceByJournal 78 = .ok (.ireturn, 1) := by decide +kernel
theorem dX1_settleJournal_0 : decode cX1_settleJournal 0 = .ok (.aload_n 0, 1) := by decide +kernel
theorem dX1_settleJournal_1 : decode cX1_settleJournal 1 = .ok (.bipush 36, 2) := by decide +kernel
theorem dX1_settleJournal_3 : decode cX1_settleJournal 3 = .ok (.invokevirtual 28, 3) := by decide +kernel
theorem dX1_settleJournal_6 : decode cX1_settleJournal 6 = .ok (.iconst 1, 1) := by decide +kernel
theorem dX1_settleJournal_7 : decode cX1_settleJournal 7 = .ok (.if_icmp .ne 10, 3) := by decide +kernel
theorem dX1_settleJournal_10 : decode cX1_settleJournal 10 = .ok (.aload_n 0, 1) := by decide +kernel
theorem dX1_settleJournal_11 : decode cX1_settleJournal 11 = .ok (.invokevirtual 24, 3) := by decide +kernel
theorem dX1_settleJournal_14 : decode cX1_settleJournal 14 = .ok (.goto 7, 3) := by decide +kernel
theorem dX1_settleJournal_17 : decode cX1_settleJournal 17 = .ok (.aload_n 0, 1) := by decide +kernel
theorem dX1_settleJournal_18 : decode cX1_settleJournal 18 = .ok (.invokevirtual 32, 3) := by decide +kernel
theorem dX1_settleJournal_21 : decode cX1_settleJournal 21 = .ok (.ireturn, 1) := by decide +kernel
theorem dX1_finishJournal_0 : decode cX1_finishJournal 0 = .ok (.aload_n 0, 1) := by decide +kernel
theorem dX1_finishJournal_1 : decode cX1_finishJournal 1 = .ok (.bipush 37, 2) := by decide +kernel
theorem dX1_finishJournal_3 : decode cX1_finishJournal 3 = .ok (.invokevirtual 28, 3) := by decide +kernel
theorem dX1_finishJournal_6 : decode cX1_finishJournal 6 = .ok (.sipush 255, 3) := by decide +kernel
theorem dX1_finishJournal_9 : decode cX1_finishJournal 9 = .ok (.iand, 1) := by decide +kernel
theorem dX1_finishJournal_10 : decode cX1_finishJournal 10 = .ok (.istore_n 1, 1) := by decide +kernel
theorem dX1_finishJournal_11 : decode cX1_finishJournal 11 = .ok (.aload_n 0, 1) := by decide +kernel
theorem dX1_finishJournal_12 : decode cX1_finishJournal 12 = .ok (.bipush 37, 2) := by decide +kernel
theorem dX1_finishJournal_14 : decode cX1_finishJournal 14 = .ok (.invokevirtual 28, 3) := by decide +kernel
theorem dX1_finishJournal_17 : decode cX1_finishJournal 17 = .ok (.bipush 8, 2) := by decide +kernel
theorem dX1_finishJournal_19 : decode cX1_finishJournal 19 = .ok (.iushr, 1) := by decide +kernel
theorem dX1_finishJournal_20 : decode cX1_finishJournal 20 = .ok (.istore_n 2, 1) := by decide +kernel
theorem dX1_finishJournal_21 : decode cX1_finishJournal 21 = .ok (.iconst 0, 1) := by decide +kernel
theorem dX1_finishJournal_22 : decode cX1_finishJournal 22 = .ok (.istore_n 3, 1) := by decide +kernel
theorem dX1_finishJournal_23 : decode cX1_finishJournal 23 = .ok (.iload_n 3, 1) := by decide +kernel
theorem dX1_finishJournal_24 : decode cX1_finishJournal 24 = .ok (.iload_n 2, 1) := by decide +kernel
theorem dX1_finishJournal_25 : decode cX1_finishJournal 25 = .ok (.if_icmp .ge 35, 3) := by decide +kernel
theorem dX1_finishJournal_28 : decode cX1_finishJournal 28 = .ok (.iload_n 3, 1) := by decide +kernel
theorem dX1_finishJournal_29 : decode cX1_finishJournal 29 = .ok (.bipush 8, 2) := by decide +kernel
theorem dX1_finishJournal_31 : decode cX1_finishJournal 31 = .ok (.if_icmp .ge 29, 3) := by decide +kernel
theorem dX1_finishJournal_34 : decode cX1_finishJournal 34 = .ok (.aload_n 0, 1) := by decide +kernel
theorem dX1_finishJournal_35 : decode cX1_finishJournal 35 = .ok (.iload_n 1, 1) := by decide +kernel
theorem dX1_finishJournal_36 : decode cX1_finishJournal 36 = .ok (.iload_n 3, 1) := by decide +kernel
theorem dX1_finishJournal_37 : decode cX1_finishJournal 37 = .ok (.iadd, 1) := by decide +kernel
theorem dX1_finishJournal_38 : decode cX1_finishJournal 38 = .ok (.aload_n 0, 1) := by decide +kernel
theorem dX1_finishJournal_39 : decode cX1_finishJournal 39 = .ok (.bipush 38, 2) := by decide +kernel
theorem dX1_finishJournal_41 : decode cX1_finishJournal 41 = .ok (.iload_n 3, 1) := by decide +kernel
theorem dX1_finishJournal_42 : decode cX1_finishJournal 42 = .ok (.iadd, 1) := by decide +kernel
theorem dX1_finishJournal_43 : decode cX1_finishJournal 43 = .ok (.invokevirtual 28, 3) := by decide +kernel
theorem dX1_finishJournal_46 : decode cX1_finishJournal 46 = .ok (.invokevirtual 20, 3) := by decide +kernel
theorem dX1_finishJournal_49 : decode cX1_finishJournal 49 = .ok (.ifCond .ne 5, 3) := by decide +kernel
theorem dX1_finishJournal_52 : decode cX1_finishJournal 52 = .ok (.iconst 0, 1) := by decide +kernel
theorem dX1_finishJournal_53 : decode cX1_finishJournal 53 = .ok (.ireturn, 1) := by decide +kernel
theorem dX1_finishJournal_54 : decode cX1_finishJournal 54 = .ok (.iinc 3 1, 3) := by decide +kernel
theorem dX1_finishJournal_57 : decode cX1_finishJournal 57 = .ok (.goto (-34), 3) := by decide +kernel
theorem dX1_finishJournal_60 : decode cX1_finishJournal 60 = .ok (.aload_n 0, 1) := by decide +kernel
theorem dX1_finishJournal_61 : decode cX1_finishJournal 61 = .ok (.bipush 36, 2) := by decide +kernel
theorem dX1_finishJournal_63 : decode cX1_finishJournal 63 = .ok (.iconst 0, 1) := by decide +kernel
theorem dX1_finishJournal_64 : decode cX1_finishJournal 64 = .ok (.invokevirtual 20, 3) := by decide +kernel
theorem dX1_finishJournal_67 : decode cX1_finishJournal 67 = .ok (.ifCond .eq 14, 3) := by decide +kernel
theorem dX1_finishJournal_70 : decode cX1_finishJournal 70 = .ok (.aload_n 0, 1) := by decide +kernel
theorem dX1_finishJournal_71 : decode cX1_finishJournal 71 = .ok (.invokevirtual 32, 3) := by decide +kernel
theorem dX1_finishJournal_74 : decode cX1_finishJournal 74 = .ok (.ifCond .eq 7, 3) := by decide +kernel
theorem dX1_finishJournal_77 : decode cX1_finishJournal 77 = .ok (.iconst 1, 1) := by decide +kernel
theorem dX1_finishJournal_78 : decode cX1_finishJournal 78 = .ok (.goto 4, 3) := by decide +kernel
theorem dX1_finishJournal_81 : decode cX1_finishJournal 81 = .ok (.iconst 0, 1) := by decide +kernel
theorem dX1_finishJournal_82 : decode cX1_finishJournal 82 = .ok (.ireturn, 1) := by decide +kernel
theorem dX1_clearJournal_0 : decode cX1_clearJournal 0 = .ok (.bipush 37, 2) := by decide +kernel
theorem dX1_clearJournal_2 : decode cX1_clearJournal 2 = .ok (.istore_n 1, 1) := by decide +kernel
theorem dX1_clearJournal_3 : decode cX1_clearJournal 3 = .ok (.iload_n 1, 1) := by decide +kernel
theorem dX1_clearJournal_4 : decode cX1_clearJournal 4 = .ok (.bipush 45, 2) := by decide +kernel
theorem dX1_clearJournal_6 : decode cX1_clearJournal 6 = .ok (.if_icmp .gt 28, 3) := by decide +kernel
theorem dX1_clearJournal_9 : decode cX1_clearJournal 9 = .ok (.aload_n 0, 1) := by decide +kernel
theorem dX1_clearJournal_10 : decode cX1_clearJournal 10 = .ok (.iload_n 1, 1) := by decide +kernel
theorem dX1_clearJournal_11 : decode cX1_clearJournal 11 = .ok (.invokevirtual 28, 3) := by decide +kernel
theorem dX1_clearJournal_14 : decode cX1_clearJournal 14 = .ok (.ifCond .eq 14, 3) := by decide +kernel
theorem dX1_clearJournal_17 : decode cX1_clearJournal 17 = .ok (.aload_n 0, 1) := by decide +kernel
theorem dX1_clearJournal_18 : decode cX1_clearJournal 18 = .ok (.iload_n 1, 1) := by decide +kernel
theorem dX1_clearJournal_19 : decode cX1_clearJournal 19 = .ok (.iconst 0, 1) := by decide +kernel
theorem dX1_clearJournal_20 : decode cX1_clearJournal 20 = .ok (.invokevirtual 20, 3) := by decide +kernel
theorem dX1_clearJournal_23 : decode cX1_clearJournal 23 = .ok (.ifCond .ne 5, 3) := by decide +kernel
theorem dX1_clearJournal_26 : decode cX1_clearJournal 26 = .ok (.iconst 0, 1) := by decide +kernel
theorem dX1_clearJournal_27 : decode cX1_clearJournal 27 = .ok (.ireturn, 1) := by decide +kernel
theorem dX1_clearJournal_28 : decode cX1_clearJournal 28 = .ok (.iinc 1 1, 3) := by decide +kernel
theorem dX1_clearJournal_31 : decode cX1_clearJournal 31 = .ok (.goto (-28), 3) := by decide +kernel
theorem dX1_clearJournal_34 : decode cX1_clearJournal 34 = .ok (.iconst 1, 1) := by decide +kernel
theorem dX1_clearJournal_35 : decode cX1_clearJournal 35 = .ok (.ireturn, 1) := by decide +kernel
theorem dX2_workOut_0 : decode cX2_workOut 0 = .ok (.iload_n 1, 1) := by decide +kernel
theorem dX2_workOut_1 : decode cX2_workOut 1 = .ok (.ifCond .lt 12, 3) := by decide +kernel
theorem dX2_workOut_4 : decode cX2_workOut 4 = .ok (.iload_n 1, 1) := by decide +kernel
theorem dX2_workOut_5 : decode cX2_workOut 5 = .ok (.aload_n 0, 1) := by decide +kernel
theorem dX2_workOut_6 : decode cX2_workOut 6 = .ok (.arraylength, 1) := by decide +kernel
theorem dX2_workOut_7 : decode cX2_workOut 7 = .ok (.bipush 8, 2) := by decide +kernel
theorem dX2_workOut_9 : decode cX2_workOut 9 = .ok (.isub, 1) := by decide +kernel
theorem dX2_workOut_10 : decode cX2_workOut 10 = .ok (.if_icmp .le 4, 3) := by decide +kernel
theorem dX2_workOut_13 : decode cX2_workOut 13 = .ok (.return_, 1) := by decide +kernel
theorem dX2_workOut_14 : decode cX2_workOut 14 = .ok (.aload_n 0, 1) := by decide +kernel
theorem dX2_workOut_15 : decode cX2_workOut 15 = .ok (.iload_n 1, 1) := by decide +kernel
theorem dX2_workOut_16 : decode cX2_workOut 16 = .ok (.iconst 1, 1) := by decide +kernel
theorem dX2_workOut_17 : decode cX2_workOut 17 = .ok (.iastore, 1) := by decide +kernel
theorem dX2_workOut_18 : decode cX2_workOut 18 = .ok (.aload_n 0, 1) := by decide +kernel
theorem dX2_workOut_19 : decode cX2_workOut 19 = .ok (.iload_n 1, 1) := by decide +kernel
theorem dX2_workOut_20 : decode cX2_workOut 20 = .ok (.iconst 1, 1) := by decide +kernel
theorem dX2_workOut_21 : decode cX2_workOut 21 = .ok (.iadd, 1) := by decide +kernel
theorem dX2_workOut_22 : decode cX2_workOut 22 = .ok (.iload 5, 2) := by decide +kernel
theorem dX2_workOut_24 : decode cX2_workOut 24 = .ok (.iconst 0, 1) := by decide +kernel
theorem dX2_workOut_25 : decode cX2_workOut 25 = .ok (.invokestatic 11, 3) := by decide +kernel
theorem dX2_workOut_28 : decode cX2_workOut 28 = .ok (.iastore, 1) := by decide +kernel
theorem dX2_workOut_29 : decode cX2_workOut 29 = .ok (.aload_n 0, 1) := by decide +kernel
theorem dX2_workOut_30 : decode cX2_workOut 30 = .ok (.iload_n 1, 1) := by decide +kernel
theorem dX2_workOut_31 : decode cX2_workOut 31 = .ok (.iconst 0, 1) := by decide +kernel
theorem dX2_workOut_32 : decode cX2_workOut 32 = .ok (.iload_n 2, 1) := by decide +kernel
theorem dX2_workOut_33 : decode cX2_workOut 33 = .ok (.iload 4, 2) := by decide +kernel
theorem dX2_workOut_35 : decode cX2_workOut 35 = .ok (.iload 5, 2) := by decide +kernel
theorem dX2_workOut_37 : decode cX2_workOut 37 = .ok (.invokestatic 17, 3) := by decide +kernel
theorem dX2_workOut_40 : decode cX2_workOut 40 = .ok (.aload_n 0, 1) := by decide +kernel
theorem dX2_workOut_41 : decode cX2_workOut 41 = .ok (.iload_n 1, 1) := by decide +kernel
theorem dX2_workOut_42 : decode cX2_workOut 42 = .ok (.iconst 1, 1) := by decide +kernel
theorem dX2_workOut_43 : decode cX2_workOut 43 = .ok (.iload_n 3, 1) := by decide +kernel
theorem dX2_workOut_44 : decode cX2_workOut 44 = .ok (.iload 4, 2) := by decide +kernel
theorem dX2_workOut_46 : decode cX2_workOut 46 = .ok (.iload 5, 2) := by decide +kernel
theorem dX2_workOut_48 : decode cX2_workOut 48 = .ok (.invokestatic 17, 3) := by decide +kernel
theorem dX2_workOut_51 : decode cX2_workOut 51 = .ok (.return_, 1) := by decide +kernel
theorem dX2_workOutHalf_0 : decode cX2_workOutHalf 0 = .ok (.iload 4, 2) := by decide +kernel
theorem dX2_workOutHalf_2 : decode cX2_workOutHalf 2 = .ok (.aload_n 0, 1) := by decide +kernel
theorem dX2_workOutHalf_3 : decode cX2_workOutHalf 3 = .ok (.iload_n 1, 1) := by decide +kernel
theorem dX2_workOutHalf_4 : decode cX2_workOutHalf 4 = .ok (.iconst 1, 1) := by decide +kernel
theorem dX2_workOutHalf_5 : decode cX2_workOutHalf 5 = .ok (.iadd, 1) := by decide +kernel
theorem dX2_workOutHalf_6 : decode cX2_workOutHalf 6 = .ok (.iaload, 1) := by decide +kernel
theorem dX2_workOutHalf_7 : decode cX2_workOutHalf 7 = .ok (.iload_n 2, 1) := by decide +kernel
theorem dX2_workOutHalf_8 : decode cX2_workOutHalf 8 = .ok (.invokestatic 21, 3) := by decide +kernel
theorem dX2_workOutHalf_11 : decode cX2_workOutHalf 11 = .ok (.istore 6, 2) := by decide +kernel
theorem dX2_workOutHalf_13 : decode cX2_workOutHalf 13 = .ok (.iload 5, 2) := by decide +kernel
theorem dX2_workOutHalf_15 : decode cX2_workOutHalf 15 = .ok (.iload_n 2, 1) := by decide +kernel
theorem dX2_workOutHalf_16 : decode cX2_workOutHalf 16 = .ok (.iconst 1, 1) := by decide +kernel
theorem dX2_workOutHalf_17 : decode cX2_workOutHalf 17 = .ok (.iadd, 1) := by decide +kernel
theorem dX2_workOutHalf_18 : decode cX2_workOutHalf 18 = .ok (.invokestatic 11, 3) := by decide +kernel
theorem dX2_workOutHalf_21 : decode cX2_workOutHalf 21 = .ok (.istore 7, 2) := by decide +kernel
theorem dX2_workOutHalf_23 : decode cX2_workOutHalf 23 = .ok (.iload 5, 2) := by decide +kernel
theorem dX2_workOutHalf_25 : decode cX2_workOutHalf 25 = .ok (.iload_n 2, 1) := by decide +kernel
theorem dX2_workOutHalf_26 : decode cX2_workOutHalf 26 = .ok (.iconst 3, 1) := by decide +kernel
theorem dX2_workOutHalf_27 : decode cX2_workOutHalf 27 = .ok (.iadd, 1) := by decide +kernel
theorem dX2_workOutHalf_28 : decode cX2_workOutHalf 28 = .ok (.invokestatic 11, 3) := by decide +kernel
theorem dX2_workOutHalf_31 : decode cX2_workOutHalf 31 = .ok (.istore 8, 2) := by decide +kernel
theorem dX2_workOutHalf_33 : decode cX2_workOutHalf 33 = .ok (.iload 7, 2) := by decide +kernel
theorem dX2_workOutHalf_35 : decode cX2_workOutHalf 35 = .ok (.iload 8, 2) := by decide +kernel
theorem dX2_workOutHalf_37 : decode cX2_workOutHalf 37 = .ok (.iload_n 2, 1) := by decide +kernel
theorem dX2_workOutHalf_38 : decode cX2_workOutHalf 38 = .ok (.invokestatic 25, 3) := by decide +kernel
theorem dX2_workOutHalf_41 : decode cX2_workOutHalf 41 = .ok (.iload_n 3, 1) := by decide +kernel
theorem dX2_workOutHalf_42 : decode cX2_workOutHalf 42 = .ok (.ixor, 1) := by decide +kernel
theorem dX2_workOutHalf_43 : decode cX2_workOutHalf 43 = .ok (.istore 9, 2) := by decide +kernel
theorem dX2_workOutHalf_45 : decode cX2_workOutHalf 45 = .ok (.iload_n 1, 1) := by decide +kernel
theorem dX2_workOutHalf_46 : decode cX2_workOutHalf 46 = .ok (.iconst 2, 1) := by decide +kernel
theorem dX2_workOutHalf_47 : decode cX2_workOutHalf 47 = .ok (.iadd, 1) := by decide +kernel
theorem dX2_workOutHalf_48 : decode cX2_workOutHalf 48 = .ok (.iload_n 2, 1) := by decide +kernel
theorem dX2_workOutHalf_49 : decode cX2_workOutHalf 49 = .ok (.iadd, 1) := by decide +kernel
theorem dX2_workOutHalf_50 : decode cX2_workOutHalf 50 = .ok (.istore 10, 2) := by decide +kernel
theorem dX2_workOutHalf_52 : decode cX2_workOutHalf 52 = .ok (.aload_n 0, 1) := by decide +kernel
theorem dX2_workOutHalf_53 : decode cX2_workOutHalf 53 = .ok (.iload 10, 2) := by decide +kernel
theorem dX2_workOutHalf_55 : decode cX2_workOutHalf 55 = .ok (.iload 6, 2) := by decide +kernel
theorem dX2_workOutHalf_57 : decode cX2_workOutHalf 57 = .ok (.iload 7, 2) := by decide +kernel
theorem dX2_workOutHalf_59 : decode cX2_workOutHalf 59 = .ok (.invokestatic 28, 3) := by decide +kernel
theorem dX2_workOutHalf_62 : decode cX2_workOutHalf 62 = .ok (.iastore, 1) := by decide +kernel
theorem dX2_workOutHalf_63 : decode cX2_workOutHalf 63 = .ok (.aload_n 0, 1) := by decide +kernel
theorem dX2_workOutHalf_64 : decode cX2_workOutHalf 64 = .ok (.iload 10, 2) := by decide +kernel
theorem dX2_workOutHalf_66 : decode cX2_workOutHalf 66 = .ok (.iconst 2, 1) := by decide +kernel
theorem dX2_workOutHalf_67 : decode cX2_workOutHalf 67 = .ok (.iadd, 1) := by decide +kernel
theorem dX2_workOutHalf_68 : decode cX2_workOutHalf 68 = .ok (.iload 6, 2) := by decide +kernel
theorem dX2_workOutHalf_70 : decode cX2_workOutHalf 70 = .ok (.iload 8, 2) := by decide +kernel
theorem dX2_workOutHalf_72 : decode cX2_workOutHalf 72 = .ok (.invokestatic 28, 3) := by decide +kernel
theorem dX2_workOutHalf_75 : decode cX2_workOutHalf 75 = .ok (.iastore, 1) := by decide +kernel
theorem dX2_workOutHalf_76 : decode cX2_workOutHalf 76 = .ok (.aload_n 0, 1) := by decide +kernel
theorem dX2_workOutHalf_77 : decode cX2_workOutHalf 77 = .ok (.iload 10, 2) := by decide +kernel
theorem dX2_workOutHalf_79 : decode cX2_workOutHalf 79 = .ok (.iconst 4, 1) := by decide +kernel
theorem dX2_workOutHalf_80 : decode cX2_workOutHalf 80 = .ok (.iadd, 1) := by decide +kernel
theorem dX2_workOutHalf_81 : decode cX2_workOutHalf 81 = .ok (.iload 6, 2) := by decide +kernel
theorem dX2_workOutHalf_83 : decode cX2_workOutHalf 83 = .ok (.iload 9, 2) := by decide +kernel
theorem dX2_workOutHalf_85 : decode cX2_workOutHalf 85 = .ok (.invokestatic 28, 3) := by decide +kernel
theorem dX2_workOutHalf_88 : decode cX2_workOutHalf 88 = .ok (.iastore, 1) := by decide +kernel
theorem dX2_workOutHalf_89 : decode cX2_workOutHalf 89 = .ok (.return_, 1) := by decide +kernel
theorem dX2_openHalf_0 : decode cX2_openHalf 0 = .ok (.iload_n 3, 1) := by decide +kernel
theorem dX2_openHalf_1 : decode cX2_openHalf 1 = .ok (.aload_n 0, 1) := by decide +kernel
theorem dX2_openHalf_2 : decode cX2_openHalf 2 = .ok (.iload_n 1, 1) := by decide +kernel
theorem dX2_openHalf_3 : decode cX2_openHalf 3 = .ok (.iconst 1, 1) := by decide +kernel
theorem dX2_openHalf_4 : decode cX2_openHalf 4 = .ok (.iadd, 1) := by decide +kernel
theorem dX2_openHalf_5 : decode cX2_openHalf 5 = .ok (.invokevirtual 31, 3) := by decide +kernel
theorem dX2_openHalf_8 : decode cX2_openHalf 8 = .ok (.iload_n 2, 1) := by decide +kernel
theorem dX2_openHalf_9 : decode cX2_openHalf 9 = .ok (.invokestatic 21, 3) := by decide +kernel
theorem dX2_openHalf_12 : decode cX2_openHalf 12 = .ok (.istore 4, 2) := by decide +kernel
theorem dX2_openHalf_14 : decode cX2_openHalf 14 = .ok (.iload_n 1, 1) := by decide +kernel
theorem dX2_openHalf_15 : decode cX2_openHalf 15 = .ok (.iconst 2, 1) := by decide +kernel
theorem dX2_openHalf_16 : decode cX2_openHalf 16 = .ok (.iadd, 1) := by decide +kernel
theorem dX2_openHalf_17 : decode cX2_openHalf 17 = .ok (.iload_n 2, 1) := by decide +kernel
theorem dX2_openHalf_18 : decode cX2_openHalf 18 = .ok (.iadd, 1) := by decide +kernel
theorem dX2_openHalf_19 : decode cX2_openHalf 19 = .ok (.istore 5, 2) := by decide +kernel
theorem dX2_openHalf_21 : decode cX2_openHalf 21 = .ok (.iload 4, 2) := by decide +kernel
theorem dX2_openHalf_23 : decode cX2_openHalf 23 = .ok (.aload_n 0, 1) := by decide +kernel
theorem dX2_openHalf_24 : decode cX2_openHalf 24 = .ok (.iload 5, 2) := by decide +kernel
theorem dX2_openHalf_26 : decode cX2_openHalf 26 = .ok (.invokevirtual 31, 3) := by decide +kernel
theorem dX2_openHalf_29 : decode cX2_openHalf 29 = .ok (.invokestatic 37, 3) := by decide +kernel
theorem dX2_openHalf_32 : decode cX2_openHalf 32 = .ok (.istore 6, 2) := by decide +kernel
theorem dX2_openHalf_34 : decode cX2_openHalf 34 = .ok (.iload 4, 2) := by decide +kernel
theorem dX2_openHalf_36 : decode cX2_openHalf 36 = .ok (.aload_n 0, 1) := by decide +kernel
theorem dX2_openHalf_37 : decode cX2_openHalf 37 = .ok (.iload 5, 2) := by decide +kernel
theorem dX2_openHalf_39 : decode cX2_openHalf 39 = .ok (.iconst 2, 1) := by decide +kernel
theorem dX2_openHalf_40 : decode cX2_openHalf 40 = .ok (.iadd, 1) := by decide +kernel
theorem dX2_openHalf_41 : decode cX2_openHalf 41 = .ok (.invokevirtual 31, 3) := by decide +kernel
theorem dX2_openHalf_44 : decode cX2_openHalf 44 = .ok (.invokestatic 37, 3) := by decide +kernel
theorem dX2_openHalf_47 : decode cX2_openHalf 47 = .ok (.istore 7, 2) := by decide +kernel
theorem dX2_openHalf_49 : decode cX2_openHalf 49 = .ok (.iload 4, 2) := by decide +kernel
theorem dX2_openHalf_51 : decode cX2_openHalf 51 = .ok (.aload_n 0, 1) := by decide +kernel
theorem dX2_openHalf_52 : decode cX2_openHalf 52 = .ok (.iload 5, 2) := by decide +kernel
theorem dX2_openHalf_54 : decode cX2_openHalf 54 = .ok (.iconst 4, 1) := by decide +kernel
theorem dX2_openHalf_55 : decode cX2_openHalf 55 = .ok (.iadd, 1) := by decide +kernel
theorem dX2_openHalf_56 : decode cX2_openHalf 56 = .ok (.invokevirtual 31, 3) := by decide +kernel
theorem dX2_openHalf_59 : decode cX2_openHalf 59 = .ok (.invokestatic 37, 3) := by decide +kernel
theorem dX2_openHalf_62 : decode cX2_openHalf 62 = .ok (.istore 8, 2) := by decide +kernel
theorem dX2_openHalf_64 : decode cX2_openHalf 64 = .ok (.iload 6, 2) := by decide +kernel
theorem dX2_openHalf_66 : decode cX2_openHalf 66 = .ok (.iload 7, 2) := by decide +kernel
theorem dX2_openHalf_68 : decode cX2_openHalf 68 = .ok (.iload_n 2, 1) := by decide +kernel
theorem dX2_openHalf_69 : decode cX2_openHalf 69 = .ok (.invokestatic 25, 3) := by decide +kernel
theorem dX2_openHalf_72 : decode cX2_openHalf 72 = .ok (.iload 8, 2) := by decide +kernel
theorem dX2_openHalf_74 : decode cX2_openHalf 74 = .ok (.ixor, 1) := by decide +kernel
theorem dX2_openHalf_75 : decode cX2_openHalf 75 = .ok (.ireturn, 1) := by decide +kernel
theorem dX2_mask_0 : decode cX2_mask 0 = .ok (.iload_n 0, 1) := by decide +kernel
theorem dX2_mask_1 : decode cX2_mask 1 = .ok (.iload_n 2, 1) := by decide +kernel
theorem dX2_mask_2 : decode cX2_mask 2 = .ok (.iconst 1, 1) := by decide +kernel
theorem dX2_mask_3 : decode cX2_mask 3 = .ok (.iadd, 1) := by decide +kernel
theorem dX2_mask_4 : decode cX2_mask 4 = .ok (.invokestatic 11, 3) := by decide +kernel
theorem dX2_mask_7 : decode cX2_mask 7 = .ok (.iload_n 1, 1) := by decide +kernel
theorem dX2_mask_8 : decode cX2_mask 8 = .ok (.ixor, 1) := by decide +kernel
theorem dX2_mask_9 : decode cX2_mask 9 = .ok (.iload_n 2, 1) := by decide +kernel
theorem dX2_mask_10 : decode cX2_mask 10 = .ok (.iconst 1, 1) := by decide +kernel
theorem dX2_mask_11 : decode cX2_mask 11 = .ok (.iadd, 1) := by decide +kernel
theorem dX2_mask_12 : decode cX2_mask 12 = .ok (.invokestatic 11, 3) := by decide +kernel
theorem dX2_mask_15 : decode cX2_mask 15 = .ok (.ireturn, 1) := by decide +kernel
theorem dJ6_bitCount_0 : decode cJ6_bitCount 0 = .ok (.iload_n 0, 1) := by decide +kernel
theorem dJ6_bitCount_1 : decode cJ6_bitCount 1 = .ok (.iload_n 0, 1) := by decide +kernel
theorem dJ6_bitCount_2 : decode cJ6_bitCount 2 = .ok (.iconst 1, 1) := by decide +kernel
theorem dJ6_bitCount_3 : decode cJ6_bitCount 3 = .ok (.iushr, 1) := by decide +kernel
theorem dJ6_bitCount_4 : decode cJ6_bitCount 4 = .ok (.ldc_w 265, 3) := by decide +kernel
theorem dJ6_bitCount_7 : decode cJ6_bitCount 7 = .ok (.iand, 1) := by decide +kernel
theorem dJ6_bitCount_8 : decode cJ6_bitCount 8 = .ok (.isub, 1) := by decide +kernel
theorem dJ6_bitCount_9 : decode cJ6_bitCount 9 = .ok (.istore_n 0, 1) := by decide +kernel
theorem dJ6_bitCount_10 : decode cJ6_bitCount 10 = .ok (.iload_n 0, 1) := by decide +kernel
theorem dJ6_bitCount_11 : decode cJ6_bitCount 11 = .ok (.ldc_w 266, 3) := by decide +kernel
theorem dJ6_bitCount_14 : decode cJ6_bitCount 14 = .ok (.iand, 1) := by decide +kernel
theorem dJ6_bitCount_15 : decode cJ6_bitCount 15 = .ok (.iload_n 0, 1) := by decide +kernel
theorem dJ6_bitCount_16 : decode cJ6_bitCount 16 = .ok (.iconst 2, 1) := by decide +kernel
theorem dJ6_bitCount_17 : decode cJ6_bitCount 17 = .ok (.iushr, 1) := by decide +kernel
theorem dJ6_bitCount_18 : decode cJ6_bitCount 18 = .ok (.ldc_w 266, 3) := by decide +kernel
theorem dJ6_bitCount_21 : decode cJ6_bitCount 21 = .ok (.iand, 1) := by decide +kernel
theorem dJ6_bitCount_22 : decode cJ6_bitCount 22 = .ok (.iadd, 1) := by decide +kernel
theorem dJ6_bitCount_23 : decode cJ6_bitCount 23 = .ok (.istore_n 0, 1) := by decide +kernel
theorem dJ6_bitCount_24 : decode cJ6_bitCount 24 = .ok (.iload_n 0, 1) := by decide +kernel
theorem dJ6_bitCount_25 : decode cJ6_bitCount 25 = .ok (.iload_n 0, 1) := by decide +kernel
theorem dJ6_bitCount_26 : decode cJ6_bitCount 26 = .ok (.iconst 4, 1) := by decide +kernel
theorem dJ6_bitCount_27 : decode cJ6_bitCount 27 = .ok (.iushr, 1) := by decide +kernel
theorem dJ6_bitCount_28 : decode cJ6_bitCount 28 = .ok (.iadd, 1) := by decide +kernel
theorem dJ6_bitCount_29 : decode cJ6_bitCount 29 = .ok (.ldc_w 267, 3) := by decide +kernel
theorem dJ6_bitCount_32 : decode cJ6_bitCount 32 = .ok (.iand, 1) := by decide +kernel
theorem dJ6_bitCount_33 : decode cJ6_bitCount 33 = .ok (.istore_n 0, 1) := by decide +kernel
theorem dJ6_bitCount_34 : decode cJ6_bitCount 34 = .ok (.iload_n 0, 1) := by decide +kernel
theorem dJ6_bitCount_35 : decode cJ6_bitCount 35 = .ok (.iload_n 0, 1) := by decide +kernel
theorem dJ6_bitCount_36 : decode cJ6_bitCount 36 = .ok (.bipush 8, 2) := by decide +kernel
theorem dJ6_bitCount_38 : decode cJ6_bitCount 38 = .ok (.iushr, 1) := by decide +kernel
theorem dJ6_bitCount_39 : decode cJ6_bitCount 39 = .ok (.iadd, 1) := by decide +kernel
theorem dJ6_bitCount_40 : decode cJ6_bitCount 40 = .ok (.istore_n 0, 1) := by decide +kernel
theorem dJ6_bitCount_41 : decode cJ6_bitCount 41 = .ok (.iload_n 0, 1) := by decide +kernel
theorem dJ6_bitCount_42 : decode cJ6_bitCount 42 = .ok (.iload_n 0, 1) := by decide +kernel
theorem dJ6_bitCount_43 : decode cJ6_bitCount 43 = .ok (.bipush 16, 2) := by decide +kernel
theorem dJ6_bitCount_45 : decode cJ6_bitCount 45 = .ok (.iushr, 1) := by decide +kernel
theorem dJ6_bitCount_46 : decode cJ6_bitCount 46 = .ok (.iadd, 1) := by decide +kernel
theorem dJ6_bitCount_47 : decode cJ6_bitCount 47 = .ok (.istore_n 0, 1) := by decide +kernel
theorem dJ6_bitCount_48 : decode cJ6_bitCount 48 = .ok (.iload_n 0, 1) := by decide +kernel
theorem dJ6_bitCount_49 : decode cJ6_bitCount 49 = .ok (.bipush 63, 2) := by decide +kernel
theorem dJ6_bitCount_51 : decode cJ6_bitCount 51 = .ok (.iand, 1) := by decide +kernel
theorem dJ6_bitCount_52 : decode cJ6_bitCount 52 = .ok (.ireturn, 1) := by decide +kernel
theorem dJ7_fill_0 : decode cJ7_fill 0 = .ok (.iconst 0, 1) := by decide +kernel
theorem dJ7_fill_1 : decode cJ7_fill 1 = .ok (.istore_n 2, 1) := by decide +kernel
theorem dJ7_fill_2 : decode cJ7_fill 2 = .ok (.aload_n 0, 1) := by decide +kernel
theorem dJ7_fill_3 : decode cJ7_fill 3 = .ok (.arraylength, 1) := by decide +kernel
theorem dJ7_fill_4 : decode cJ7_fill 4 = .ok (.istore_n 3, 1) := by decide +kernel
theorem dJ7_fill_5 : decode cJ7_fill 5 = .ok (.iload_n 2, 1) := by decide +kernel
theorem dJ7_fill_6 : decode cJ7_fill 6 = .ok (.iload_n 3, 1) := by decide +kernel
theorem dJ7_fill_7 : decode cJ7_fill 7 = .ok (.if_icmp .ge 13, 3) := by decide +kernel
theorem dJ7_fill_10 : decode cJ7_fill 10 = .ok (.aload_n 0, 1) := by decide +kernel
theorem dJ7_fill_11 : decode cJ7_fill 11 = .ok (.iload_n 2, 1) := by decide +kernel
theorem dJ7_fill_12 : decode cJ7_fill 12 = .ok (.iload_n 1, 1) := by decide +kernel
theorem dJ7_fill_13 : decode cJ7_fill 13 = .ok (.iastore, 1) := by decide +kernel
theorem dJ7_fill_14 : decode cJ7_fill 14 = .ok (.iinc 2 1, 3) := by decide +kernel
theorem dJ7_fill_17 : decode cJ7_fill 17 = .ok (.goto (-12), 3) := by decide +kernel
theorem dJ7_fill_20 : decode cJ7_fill 20 = .ok (.return_, 1) := by decide +kernel
end
section
/-! The layer: contracts of methods that make no cells, in one form (a world in, a world out), and one row an instruction over them. -/
def kv_us (x y : Int32) : Int32 := (x.toUInt32 >>> (y.toUInt32 &&& Int32.toUInt32 31)).toInt32
def kv_B (N : State → Prop) (D : va_G) (tys : List (ClassId × FieldType)) (A : Nat → Prop) (s : State) (ws : va_W) (H : Heap) (locs : List Loc) : Prop :=
  va_P D vwCl ws H ∧ va_D A ws ∧ va_K D vwCl tys s ∧ va_S A s.heap H locs ∧ (∀ q : Nat, s.heap.size ≤ q → A q) ∧ N s
/-- what moves with the tables: a method's extra word -/
def kv_Mv (N : State → Prop) : Prop := (∀ u U : State, u.WarmedH U.vm → N u → N U) ∧ ∀ u U : State, u.vm = U.vm → N u → N U
def kv_pre (N : State → Prop) (D : va_G) (tys : List (ClassId × FieldType)) (avs : List Value) (ws : va_W) (sz : Nat) : Array Value → State → Prop :=
  va_Pc avs (fun U => U.heap.size = sz ∧ va_P D vwCl ws U.heap ∧ va_K D vwCl tys U ∧ va_D (fun _ => True) ws ∧ N U)
def kv_at (D : va_G) (ws w1 : va_W) (sz : Nat) (_ : Unit) (t : State) : Prop := va_P D vwCl w1 t.heap ∧ va_D (va_A ws sz) w1
def kv_I (N : State → Prop) (l : Launch) (y : MethodName) (wds : List Cond) (rm : Room) (D : va_G) (tys : List (ClassId × FieldType)) (avs : List Value) (ws : va_W) (ans : Int32) (w1 : va_W) : Prop :=
  ∀ sz : Nat, Met l y wds rm (kv_pre N D tys avs ws sz) (va_Qi (fun r (_ : Unit) => r = ans) (kv_at D ws w1 sz) (va_A ws sz)) 0 0 (va_A ws sz)
def kv_L (N : State → Prop) (l : Launch) (y : MethodName) (wds : List Cond) (rm : Room) (D : va_G) (tys : List (ClassId × FieldType)) (avs : List Value) (ws : va_W) (ans : Int64) (w1 : va_W) : Prop :=
  ∀ sz : Nat, Met l y wds rm (kv_pre N D tys avs ws sz) (va_Ql (fun r (_ : Unit) => r = ans) (kv_at D ws w1 sz) (va_A ws sz)) 0 0 (va_A ws sz)
def kv_V (N : State → Prop) (l : Launch) (y : MethodName) (wds : List Cond) (rm : Room) (D : va_G) (tys : List (ClassId × FieldType)) (avs : List Value) (ws : va_W) (w1 : va_W) : Prop :=
  ∀ sz : Nat, Met l y wds rm (kv_pre N D tys avs ws sz) (va_Qv (fun (_ : Unit) => True) (kv_at D ws w1 sz) (va_A ws sz)) 0 0 (va_A ws sz)
theorem kv_blind {N : State → Prop} (hN : kv_Mv N) {D : va_G} {tys : List (ClassId × FieldType)} {avs : List Value} {ws : va_W} {sz : Nat} : FrameBlind (kv_pre N D tys avs ws sz) := by
  intro a U g mk q
  obtain ⟨q0, q1, qP, qK, qD, qN⟩ := q
  exact ⟨q0, q1, qP, va_K.moved (u := U) (U := U.calling g mk a) (Vm.Alike.refl U.vm) qK, qD, hN.2 U _ rfl qN⟩
theorem kv_T : kv_Mv (fun _ => True) := ⟨fun _ _ _ _ => trivial, fun _ _ _ _ => trivial⟩
theorem kv_openI {N : State → Prop} {l : Launch} {y : MethodName} {wds wds' : List Cond} {rm : Room} {D : va_G} {tys : List (ClassId × FieldType)} {avs : List Value} {ws : va_W} {ans : Int32} {w1 : va_W} {cc : ByteArray} {maxL : Nat} {rt : FieldType}
    (hy : plainName y.cls = true) (hw : wds = Cond.code y cc maxL (some rt) :: wds') (hrt : narrow rt (.int ans) = .int ans) (hlen : (lg_sl avs).length ≤ maxL)
    (body : ∀ (p : Program) (e : Env) (s : State) (m : MethodId) (args : Array Value) (below : List Frame) (meth : Method) (c : Code) (A : Nat → Prop) (H : Heap) (locs : List Loc) (ls : Array Slot) (Q : State → Prop),
      CallFix p m c cc maxL s args wds y.cls → lv_has ls maxL (lv_args 0 avs) → kv_B N D tys A s ws H locs →
      (∀ (H : Heap) (locs : List Loc) (w : va_W) (v : Int32) (pc : Nat) (ls : Array Slot), kv_B N D tys A s w H locs → v = ans → w = w1 → decode cc pc = .ok (.ireturn, 1) → W p l e rm s m args below meth c H locs 0 0 Q (F0 m pc ls [.int v])) →
      W p l e rm s m args below meth c H locs 0 0 Q (F0 m 0 ls [])) :
    kv_I N l y wds rm D tys avs ws ans w1 := by
  intro sz
  refine Met.ofW (cc := cc) (maxL := maxL) (ret := some rt) hy hw ?_
  intro p e s m args below meth c s₁ B hml hv
  obtain ⟨rfl, hsz, hP, hK, hD0, hN⟩ := hv
  have hts := atoms_spec (ws := wds) B.pre
  have hown : s.vm.findClass y.cls = some m.cls := findClass_of_methodNamed B.named
  subst hsz
  have hl := lv_entry avs (n := maxL) hlen
  rw [lg_entry_eq]
  refine body p e s m _ below meth c (va_A ws s.heap.size) _ _ _ _ ⟨B.exec, B.bytes, hml, hown, hts⟩ hl ⟨hP, hD0.self, hK, va_S.rf, fun q h => Or.inr h, hN⟩ ?_
  intro H locs w v pc ls hB hv hw1 hd
  subst hv
  subst hw1
  exact W.zret B.exec B.bytes B.returns hrt (fun t ht hW => ⟨⟨v, (), rfl, rfl, by rw [ht]; exact hB.1, hB.2.1⟩, hB.2.2.2.1.F ht⟩) hB.2.2.2.1.2.2 hd B.notSynchronized
theorem kv_openL {N : State → Prop} {l : Launch} {y : MethodName} {wds wds' : List Cond} {rm : Room} {D : va_G} {tys : List (ClassId × FieldType)} {avs : List Value} {ws : va_W} {ans : Int64} {w1 : va_W} {cc : ByteArray} {maxL : Nat}
    (hy : plainName y.cls = true) (hw : wds = Cond.code y cc maxL (some .long) :: wds') (hlen : (lg_sl avs).length ≤ maxL)
    (body : ∀ (p : Program) (e : Env) (s : State) (m : MethodId) (args : Array Value) (below : List Frame) (meth : Method) (c : Code) (A : Nat → Prop) (H : Heap) (locs : List Loc) (ls : Array Slot) (Q : State → Prop),
      CallFix p m c cc maxL s args wds y.cls → lv_has ls maxL (lv_args 0 avs) → kv_B N D tys A s ws H locs →
      (∀ (H : Heap) (locs : List Loc) (w : va_W) (v : Int64) (pc : Nat) (ls : Array Slot), kv_B N D tys A s w H locs → v = ans → w = w1 → decode cc pc = .ok (.lreturn, 1) → W p l e rm s m args below meth c H locs 0 0 Q (F0 m pc ls [.long v])) →
      W p l e rm s m args below meth c H locs 0 0 Q (F0 m 0 ls [])) :
    kv_L N l y wds rm D tys avs ws ans w1 := by
  intro sz
  refine Met.ofW (cc := cc) (maxL := maxL) (ret := some .long) hy hw ?_
  intro p e s m args below meth c s₁ B hml hv
  obtain ⟨rfl, hsz, hP, hK, hD0, hN⟩ := hv
  have hts := atoms_spec (ws := wds) B.pre
  have hown : s.vm.findClass y.cls = some m.cls := findClass_of_methodNamed B.named
  subst hsz
  have hl := lv_entry avs (n := maxL) hlen
  rw [lg_entry_eq]
  refine body p e s m _ below meth c (va_A ws s.heap.size) _ _ _ _ ⟨B.exec, B.bytes, hml, hown, hts⟩ hl ⟨hP, hD0.self, hK, va_S.rf, fun q h => Or.inr h, hN⟩ ?_
  intro H locs w v pc ls hB hv hw1 hd
  subst hv
  subst hw1
  exact W.lret B.exec B.bytes B.returns (fun t ht hW => ⟨⟨v, (), rfl, rfl, by rw [ht]; exact hB.1, hB.2.1⟩, hB.2.2.2.1.F ht⟩) hB.2.2.2.1.2.2 hd B.notSynchronized
theorem kv_openV {N : State → Prop} {l : Launch} {y : MethodName} {wds wds' : List Cond} {rm : Room} {D : va_G} {tys : List (ClassId × FieldType)} {avs : List Value} {ws : va_W} {w1 : va_W} {cc : ByteArray} {maxL : Nat}
    (hy : plainName y.cls = true) (hw : wds = Cond.code y cc maxL none :: wds') (hlen : (lg_sl avs).length ≤ maxL)
    (body : ∀ (p : Program) (e : Env) (s : State) (m : MethodId) (args : Array Value) (below : List Frame) (meth : Method) (c : Code) (A : Nat → Prop) (H : Heap) (locs : List Loc) (ls : Array Slot) (Q : State → Prop),
      CallFix p m c cc maxL s args wds y.cls → lv_has ls maxL (lv_args 0 avs) → kv_B N D tys A s ws H locs →
      (∀ (H : Heap) (locs : List Loc) (w : va_W) (pc : Nat) (ls : Array Slot), kv_B N D tys A s w H locs → w = w1 → decode cc pc = .ok (.return_, 1) → W p l e rm s m args below meth c H locs 0 0 Q (F0 m pc ls [])) →
      W p l e rm s m args below meth c H locs 0 0 Q (F0 m 0 ls [])) :
    kv_V N l y wds rm D tys avs ws w1 := by
  intro sz
  refine Met.ofW (cc := cc) (maxL := maxL) (ret := none) hy hw ?_
  intro p e s m args below meth c s₁ B hml hv
  obtain ⟨rfl, hsz, hP, hK, hD0, hN⟩ := hv
  have hts := atoms_spec (ws := wds) B.pre
  have hown : s.vm.findClass y.cls = some m.cls := findClass_of_methodNamed B.named
  subst hsz
  have hl := lv_entry avs (n := maxL) hlen
  rw [lg_entry_eq]
  refine body p e s m _ below meth c (va_A ws s.heap.size) _ _ _ _ ⟨B.exec, B.bytes, hml, hown, hts⟩ hl ⟨hP, hD0.self, hK, va_S.rf, fun q h => Or.inr h, hN⟩ ?_
  intro H locs w pc ls hB hw1 hd
  subst hw1
  exact W.vret B.exec B.bytes B.returns (fun t ht hW => ⟨⟨(), rfl, trivial, by rw [ht]; exact hB.1, hB.2.1⟩, hB.2.2.2.1.F ht⟩) hB.2.2.2.1.2.2 hd B.notSynchronized
section KVR
variable {N : State → Prop} {p : Program} {l : Launch} {e : Env} {R : Room} {s : State} {m : MethodId} {args : Array Value} {below : List Frame} {meth : Method} {c : Code} {H : Heap} {locs : List Loc} {cells slots : Nat} {Q : State → Prop}
variable {cc : ByteArray} {pc : Nat} {ls : Array Slot} {rest st0 : List Value} {D : va_G} {A : Nat → Prop} {a : Nat} {tys : List (ClassId × FieldType)} {ws w1 : va_W} {nL : Nat} {Ts : List Cond} {own : String}
variable {y : MethodName} {bytes : ByteArray} {maxL n index : Nat} {ret : Option FieldType} {wds : List Cond} {rm : Room} {As : List Value} {C : String} {b : Nat} {ans : Int32}
/-- the value on top, otherwise written -/
theorem kv_top {x y : Int32} (h : x = y) (k : W p l e R s m args below meth c H locs cells slots Q (F0 m pc ls (.int y :: rest))) : W p l e R s m args below meth c H locs cells slots Q (F0 m pc ls (.int x :: rest)) := by
  subst h; exact k
theorem kv_get (S : CallFix p m c cc nL s args Ts own) (hB : kv_B N D tys A s ws H locs) {T : u_T} {M ci index : Nat} (hin : ∀ w ∈ u_ws C T M, w ∈ Ts) (q0 : Nat) {fs : List Value} (he : ws[q0]? = some (a, .inr (ci, fs))) (hc : vwCl[ci]? = some (C, T, M)) (k : Nat) (hk : k < M) (hlink : Cond.fieldLink own index C (T k).2.1 (T k).2.2.1 ∈ Ts) (hC : (T k).1 = C) {v : Value} (hv : fs[k]? = some v) (hdg : decode cc pc = .ok (.getfield index, 3))
    (kk : W p l e R s m args below meth c H locs cells slots Q (F0 m (pc + 3) ls (v :: rest))) : W p l e R s m args below meth c H locs cells slots Q (F0 m pc ls (.ref a :: rest)) :=
  va_get S.1 S.2.1 S.2.2.2.2 hin S.2.2.2.1 hB.2.2.1 hB.1 q0 he hc k hk (S.2.2.2.2 _ hlink) (fun x h => by rw [hC] at h; exact h) hv hdg kk
theorem kv_put (S : CallFix p m c cc nL s args Ts own) (hB : kv_B N D tys A s ws H locs) {T : u_T} {M ci index : Nat} (hin : ∀ w ∈ u_ws C T M, w ∈ Ts) (ty0 : Nat → FieldType) (hty : ∀ k, k < M → parseFieldDescriptor (T k).2.2.1 = some (ty0 k)) (hnm : ∀ a, a < M → ∀ b, b < M → a ≠ b → (T a).2.1 ≠ (T b).2.1) (q0 : Nat) {fs : List Value} (he : ws[q0]? = some (a, .inr (ci, fs))) (hc : vwCl[ci]? = some (C, T, M)) (k : Nat) (hk : k < M) (hlink : Cond.fieldLink own index C (T k).2.1 (T k).2.2.1 ∈ Ts) (hC : (T k).1 = C) (hfin : (T k).2.2.2 = false) {v : Int32} (hd : parseFieldDescriptor (T k).2.2.1 = some .int) (hl : k < fs.length)
    (hdg : decode cc pc = .ok (.putfield index, 3)) (kk : ∀ (H1 : Heap) (locs1 : List Loc), kv_B N D tys A s (ws.set q0 (a, .inr (ci, fs.set k (.int v)))) H1 locs1 → W p l e R s m args below meth c H1 locs1 cells slots Q (F0 m (pc + 3) ls rest)) : W p l e R s m args below meth c H locs cells slots Q (F0 m pc ls (.int v :: .ref a :: rest)) :=
  va_put S.1 S.2.1 S.2.2.2.2 hin ty0 hty hnm S.2.2.2.1 hB.2.2.1 hB.1 hB.2.1 hB.2.2.2.1 q0 he hc k hk (S.2.2.2.2 _ hlink) (fun x h => by rw [hC] at h; exact h) hfin hd rfl rfl hl hdg (fun H1 locs1 h1 h2 h3 => kk H1 locs1 ⟨h1, h2, hB.2.2.1, h3, hB.2.2.2.2.1, hB.2.2.2.2.2⟩)
theorem kv_iald (S : CallFix p m c cc nL s args Ts own) (hB : kv_B N D tys A s ws H locs) (q0 t0 : Nat) {cA : ClassId} {n : Nat} {f : Nat → Int32} (ha : ws[q0]? = some (a, .inl (cA, n, .inl f))) (ht : tys[t0]? = some (cA, .int)) {i : Int32} (j : Nat) (hi : i = nI j) (hj : j < n) (hn : n < 2 ^ 31) (hdg : decode cc pc = .ok (.iaload, 1))
    (kk : W p l e R s m args below meth c H locs cells slots Q (F0 m (pc + 1) ls (.int (f j) :: rest))) : W p l e R s m args below meth c H locs cells slots Q (F0 m pc ls (.int i :: .ref a :: rest)) := by
  subst hi
  refine va_iald S.1 S.2.1 hB.2.2.1 hB.1 q0 t0 ha ht (vp_in_nI hj hn) hdg ?_
  rw [nI_clamp (by omega)]
  exact kk
theorem kv_iast (S : CallFix p m c cc nL s args Ts own) (hB : kv_B N D tys A s ws H locs) (q0 t0 : Nat) {cA : ClassId} {n : Nat} {f : Nat → Int32} (ha : ws[q0]? = some (a, .inl (cA, n, .inl f))) (ht : tys[t0]? = some (cA, .int)) {i x : Int32} (j : Nat) (hi : i = nI j) (hj : j < n) (hn : n < 2 ^ 31) (hdg : decode cc pc = .ok (.iastore, 1))
    (kk : ∀ (H1 : Heap) (locs1 : List Loc), kv_B N D tys A s (ws.set q0 (a, .inl (cA, n, .inl (upd f j x)))) H1 locs1 → W p l e R s m args below meth c H1 locs1 cells slots Q (F0 m (pc + 1) ls rest)) : W p l e R s m args below meth c H locs cells slots Q (F0 m pc ls (.int x :: .int i :: .ref a :: rest)) := by
  subst hi
  refine va_iast S.1 S.2.1 hB.2.2.1 hB.1 hB.2.1 hB.2.2.2.1 q0 t0 ha ht (vp_in_nI hj hn) hdg (fun H1 locs1 h1 h2 h3 => ?_)
  rw [nI_clamp (by omega)] at h1 h2
  exact kk H1 locs1 ⟨h1, h2, hB.2.2.1, h3, hB.2.2.2.2.1, hB.2.2.2.2.2⟩
theorem kv_alen (S : CallFix p m c cc nL s args Ts own) (hB : kv_B N D tys A s ws H locs) (q0 t0 : Nat) {cA : ClassId} {n : Nat} {f : Nat → Int32} (ha : ws[q0]? = some (a, .inl (cA, n, .inl f))) (ht : tys[t0]? = some (cA, .int)) (hdg : decode cc pc = .ok (.arraylength, 1))
    (kk : W p l e R s m args below meth c H locs cells slots Q (F0 m (pc + 1) ls (.int (nI n) :: rest))) : W p l e R s m args below meth c H locs cells slots Q (F0 m pc ls (.ref a :: rest)) :=
  va_alen S.1 S.2.1 hB.2.2.1 hB.1 q0 t0 ha ht rfl hdg kk
/-- branches whose numbers are naturals -/
theorem kv_bge {x y : Nat} (S : CallFix p m c cc nL s args Ts own) (hx : x < 2 ^ 31) (hy : y < 2 ^ 31) {off : Int} {tgt : Nat} (hdg : decode cc pc = .ok (.if_icmp .ge off, 3)) (ht : (pc : Int) + off = (tgt : Int))
    (kt : y ≤ x → W p l e R s m args below meth c H locs cells slots Q (F0 m tgt ls rest)) (kf : x < y → W p l e R s m args below meth c H locs cells slots Q (F0 m (pc + 3) ls rest)) : W p l e R s m args below meth c H locs cells slots Q (F0 m pc ls (.int (nI y) :: .int (nI x) :: rest)) :=
  lv_icmp_ge S.1 S.2.1 hdg ht (fun h => kt ((nI_leI hy hx).mp h)) (fun h => kf (Nat.lt_of_not_le fun q => h ((nI_leI hy hx).mpr q)))
theorem kv_bgt {x y : Nat} (S : CallFix p m c cc nL s args Ts own) (hx : x < 2 ^ 31) (hy : y < 2 ^ 31) {off : Int} {tgt : Nat} (hdg : decode cc pc = .ok (.if_icmp .gt off, 3)) (ht : (pc : Int) + off = (tgt : Int))
    (kt : y < x → W p l e R s m args below meth c H locs cells slots Q (F0 m tgt ls rest)) (kf : x ≤ y → W p l e R s m args below meth c H locs cells slots Q (F0 m (pc + 3) ls rest)) : W p l e R s m args below meth c H locs cells slots Q (F0 m pc ls (.int (nI y) :: .int (nI x) :: rest)) :=
  lv_icmp_gt S.1 S.2.1 hdg ht (fun h => kt ((nI_ltI hy hx).mp h)) (fun h => kf (Nat.le_of_not_lt fun q => h ((nI_ltI hy hx).mpr q)))
theorem kv_ble {x y : Nat} (S : CallFix p m c cc nL s args Ts own) (hx : x < 2 ^ 31) (hy : y < 2 ^ 31) {off : Int} {tgt : Nat} (hdg : decode cc pc = .ok (.if_icmp .le off, 3)) (ht : (pc : Int) + off = (tgt : Int))
    (kt : x ≤ y → W p l e R s m args below meth c H locs cells slots Q (F0 m tgt ls rest)) (kf : y < x → W p l e R s m args below meth c H locs cells slots Q (F0 m (pc + 3) ls rest)) : W p l e R s m args below meth c H locs cells slots Q (F0 m pc ls (.int (nI y) :: .int (nI x) :: rest)) :=
  lv_icmp_le S.1 S.2.1 hdg ht (fun h => kt ((nI_leI hx hy).mp h)) (fun h => kf (Nat.lt_of_not_le fun q => h ((nI_leI hx hy).mpr q)))
theorem kv_blt {x y : Nat} (S : CallFix p m c cc nL s args Ts own) (hx : x < 2 ^ 31) (hy : y < 2 ^ 31) {off : Int} {tgt : Nat} (hdg : decode cc pc = .ok (.if_icmp .lt off, 3)) (ht : (pc : Int) + off = (tgt : Int))
    (kt : x < y → W p l e R s m args below meth c H locs cells slots Q (F0 m tgt ls rest)) (kf : y ≤ x → W p l e R s m args below meth c H locs cells slots Q (F0 m (pc + 3) ls rest)) : W p l e R s m args below meth c H locs cells slots Q (F0 m pc ls (.int (nI y) :: .int (nI x) :: rest)) :=
  lv_icmp_lt S.1 S.2.1 hdg ht (fun h => kt ((nI_ltI hx hy).mp h)) (fun h => kf (Nat.le_of_not_lt fun q => h ((nI_ltI hx hy).mpr q)))
theorem kv_bne {x y : Nat} (S : CallFix p m c cc nL s args Ts own) (hx : x < 2 ^ 31) (hy : y < 2 ^ 31) {off : Int} {tgt : Nat} (hdg : decode cc pc = .ok (.if_icmp .ne off, 3)) (ht : (pc : Int) + off = (tgt : Int))
    (kt : x ≠ y → W p l e R s m args below meth c H locs cells slots Q (F0 m tgt ls rest)) (kf : x = y → W p l e R s m args below meth c H locs cells slots Q (F0 m (pc + 3) ls rest)) : W p l e R s m args below meth c H locs cells slots Q (F0 m pc ls (.int (nI y) :: .int (nI x) :: rest)) :=
  lv_icmp_ne S.1 S.2.1 hdg ht (fun h => kt (fun q => h ((nI_eq hx hy).mpr q))) (fun h => kf ((nI_eq hx hy).mp h))
theorem kv_blt0 {x : Nat} (S : CallFix p m c cc nL s args Ts own) (hx : x < 2 ^ 31) {off : Int} {tgt : Nat} (hdg : decode cc pc = .ok (.ifCond .lt off, 3)) (ht : (pc : Int) + off = (tgt : Int))
    (kf : W p l e R s m args below meth c H locs cells slots Q (F0 m (pc + 3) ls rest)) : W p l e R s m args below meth c H locs cells slots Q (F0 m pc ls (.int (nI x) :: rest)) :=
  lv_if_lt S.1 S.2.1 hdg ht (fun h => absurd h (nI_pos hx)) (fun _ => kf)
/-- a static method without a world -/
theorem kv_sP (S : CallFix p m c cc nL s args Ts own) (hM : kv_I (fun _ => True) l y wds rm D [] As [] ans []) (cw : CallB R s args own index y bytes maxL ret wds rm 0 0 n ∧ (Cond.static y).before args s = true) (hB : kv_B N D tys A s ws H locs)
    (hn : As.length = n) (hsize : ls.size = nL) (hstack : st0 = As.reverse ++ rest) (hW : (rest.map fun v => v.category).sum ≤ 8) (hdg : decode cc pc = .ok (.invokestatic index, 3)) (hR : cells ≤ R.cells ∧ slots ≤ R.slots)
    (kk : ∀ (H1 : Heap) (locs1 : List Loc), kv_B N D tys A s ws H1 locs1 → W p l e R s m args below meth c H1 locs1 cells slots Q (F0 m (pc + 3) ls (.int ans :: rest))) : W p l e R s m args below meth c H locs cells slots Q (F0 m pc ls st0) := by
  obtain ⟨hP, hD, hK, hS, hA, hN⟩ := hB
  have hFc : ∀ q, va_A [] H.size q → A q := by
    intro q h
    rcases h with ⟨k, e, h⟩ | h
    · simp at h
    · exact hA q (Nat.le_trans hS.1 h)
  refine va_calli (va_runS S (hM H.size) cw ⟨kv_blind kv_T, fun U hU hW => ⟨rfl, by rw [hU], fun k q hk => by simp at hk, va_K.moved hW.alike (hK.sub (tys' := []) [] rfl), ⟨fun i j p q h => by simp at h, fun k q h => by simp at h⟩, trivial⟩⟩ rfl hn hsize hstack (lv_room hW) hdg hR) hS (fun q _ h => hFc q h) hFc (fun r u t H1 locs1 ht hvm hpost hB1 hz1 hk1 hS1 => ?_)
  subst hpost
  refine kk H1 locs1 ⟨hP.kept (fun k q hk => ?_), hD, hK, hS1, hA, hN⟩
  have hl := (hP k q hk).lt
  refine hk1 q.1 hl (fun h => ?_)
  rcases h with ⟨k, e, h⟩ | h
  · simp at h
  · omega
/-- methods over the whole world of the caller: static and virtual; an int, nothing -/
theorem kv_sI (hNM : kv_Mv N) (S : CallFix p m c cc nL s args Ts own) (hM : kv_I N l y wds rm D tys As ws ans w1) (cw : CallB R s args own index y bytes maxL ret wds rm 0 0 n ∧ (Cond.static y).before args s = true) (hB : kv_B N D tys A s ws H locs)
    (hn : As.length = n) (hsize : ls.size = nL) (hstack : st0 = As.reverse ++ rest) (hW : (rest.map fun v => v.category).sum ≤ 8) (hdg : decode cc pc = .ok (.invokestatic index, 3)) (hR : cells ≤ R.cells ∧ slots ≤ R.slots)
    (kk : ∀ (H1 : Heap) (locs1 : List Loc), kv_B N D tys A s w1 H1 locs1 → W p l e R s m args below meth c H1 locs1 cells slots Q (F0 m (pc + 3) ls (.int ans :: rest))) : W p l e R s m args below meth c H locs cells slots Q (F0 m pc ls st0) := by
  obtain ⟨hP, hD, hK, hS, hA, hN⟩ := hB
  have hFc : ∀ q, va_A ws H.size q → A q := by
    intro q h
    rcases h with ⟨k, e, h⟩ | h
    · exact hD.2 k _ h
    · exact hA q (Nat.le_trans hS.1 h)
  refine va_calli (va_runS S (hM H.size) cw ⟨kv_blind hNM, fun U hU hW => ⟨rfl, by rw [hU], by rw [hU]; exact hP, va_K.moved hW.alike hK, hD.weaken (fun _ _ _ _ => trivial), hNM.1 _ _ hW hN⟩⟩ rfl hn hsize hstack (lv_room hW) hdg hR) hS (fun q _ h => hFc q h) hFc (fun r u t H1 locs1 ht hvm hpost hB1 hz1 hk1 hS1 => ?_)
  subst hpost
  exact kk H1 locs1 ⟨by rw [← ht]; exact hB1.1, hB1.2.weaken (fun k q _ h => hFc _ h), hK, hS1, hA, hN⟩
theorem kv_sV (hNM : kv_Mv N) (S : CallFix p m c cc nL s args Ts own) (hM : kv_V N l y wds rm D tys As ws w1) (cw : CallB R s args own index y bytes maxL ret wds rm 0 0 n ∧ (Cond.static y).before args s = true) (hB : kv_B N D tys A s ws H locs)
    (hn : As.length = n) (hsize : ls.size = nL) (hstack : st0 = As.reverse ++ rest) (hW : (rest.map fun v => v.category).sum ≤ 8) (hdg : decode cc pc = .ok (.invokestatic index, 3)) (hR : cells ≤ R.cells ∧ slots ≤ R.slots)
    (kk : ∀ (H1 : Heap) (locs1 : List Loc), kv_B N D tys A s w1 H1 locs1 → W p l e R s m args below meth c H1 locs1 cells slots Q (F0 m (pc + 3) ls rest)) : W p l e R s m args below meth c H locs cells slots Q (F0 m pc ls st0) := by
  obtain ⟨hP, hD, hK, hS, hA, hN⟩ := hB
  have hFc : ∀ q, va_A ws H.size q → A q := by
    intro q h
    rcases h with ⟨k, e, h⟩ | h
    · exact hD.2 k _ h
    · exact hA q (Nat.le_trans hS.1 h)
  refine va_callv (va_runS S (hM H.size) cw ⟨kv_blind hNM, fun U hU hW => ⟨rfl, by rw [hU], by rw [hU]; exact hP, va_K.moved hW.alike hK, hD.weaken (fun _ _ _ _ => trivial), hNM.1 _ _ hW hN⟩⟩ rfl hn hsize hstack (lv_room hW) hdg hR) hS (fun q _ h => hFc q h) hFc (fun u t H1 locs1 ht hvm hpost hB1 hz1 hk1 hS1 => ?_)
  exact kk H1 locs1 ⟨by rw [← ht]; exact hB1.1, hB1.2.weaken (fun k q _ h => hFc _ h), hK, hS1, hA, hN⟩
theorem kv_vI (hNM : kv_Mv N) (S : CallFix p m c cc nL s args Ts own) (hM : kv_I N l y wds rm D tys (.ref b :: As) ws ans w1) (cw : CallW R s args own C index y bytes maxL ret wds rm 0 0 n) (hB : kv_B N D tys A s ws H locs) (q0 : Nat) {ci : Nat} {fs : List Value} {T : u_T} {M : Nat} (he : ws[q0]? = some (b, .inr (ci, fs))) (hc : vwCl[ci]? = some (C, T, M))
    (hn : As.length = n) (hsize : ls.size = nL) (hstack : st0 = As.reverse ++ .ref b :: rest) (hW : (rest.map fun v => v.category).sum ≤ 8) (hdg : decode cc pc = .ok (.invokevirtual index, 3)) (hR : cells ≤ R.cells ∧ slots ≤ R.slots)
    (kk : ∀ (H1 : Heap) (locs1 : List Loc), kv_B N D tys A s w1 H1 locs1 → W p l e R s m args below meth c H1 locs1 cells slots Q (F0 m (pc + 3) ls (.int ans :: rest))) : W p l e R s m args below meth c H locs cells slots Q (F0 m pc ls st0) := by
  obtain ⟨hP, hD, hK, hS, hA, hN⟩ := hB
  have hFc : ∀ q, va_A ws H.size q → A q := by
    intro q h
    rcases h with ⟨k, e, h⟩ | h
    · exact hD.2 k _ h
    · exact hA q (Nat.le_trans hS.1 h)
  refine va_calli (va_runV S (hM H.size) cw ⟨kv_blind hNM, va_recv hK hP hc he, fun U hU hW => ⟨rfl, by rw [hU], by rw [hU]; exact hP, va_K.moved hW.alike hK, hD.weaken (fun _ _ _ _ => trivial), hNM.1 _ _ hW hN⟩⟩ rfl hn hsize hstack (lv_room hW) hdg hR) hS (fun q _ h => hFc q h) hFc (fun r u t H1 locs1 ht hvm hpost hB1 hz1 hk1 hS1 => ?_)
  subst hpost
  exact kk H1 locs1 ⟨by rw [← ht]; exact hB1.1, hB1.2.weaken (fun k q _ h => hFc _ h), hK, hS1, hA, hN⟩
theorem kv_vV (hNM : kv_Mv N) (S : CallFix p m c cc nL s args Ts own) (hM : kv_V N l y wds rm D tys (.ref b :: As) ws w1) (cw : CallW R s args own C index y bytes maxL ret wds rm 0 0 n) (hB : kv_B N D tys A s ws H locs) (q0 : Nat) {ci : Nat} {fs : List Value} {T : u_T} {M : Nat} (he : ws[q0]? = some (b, .inr (ci, fs))) (hc : vwCl[ci]? = some (C, T, M))
    (hn : As.length = n) (hsize : ls.size = nL) (hstack : st0 = As.reverse ++ .ref b :: rest) (hW : (rest.map fun v => v.category).sum ≤ 8) (hdg : decode cc pc = .ok (.invokevirtual index, 3)) (hR : cells ≤ R.cells ∧ slots ≤ R.slots)
    (kk : ∀ (H1 : Heap) (locs1 : List Loc), kv_B N D tys A s w1 H1 locs1 → W p l e R s m args below meth c H1 locs1 cells slots Q (F0 m (pc + 3) ls rest)) : W p l e R s m args below meth c H locs cells slots Q (F0 m pc ls st0) := by
  obtain ⟨hP, hD, hK, hS, hA, hN⟩ := hB
  have hFc : ∀ q, va_A ws H.size q → A q := by
    intro q h
    rcases h with ⟨k, e, h⟩ | h
    · exact hD.2 k _ h
    · exact hA q (Nat.le_trans hS.1 h)
  refine va_callv (va_runV S (hM H.size) cw ⟨kv_blind hNM, va_recv hK hP hc he, fun U hU hW => ⟨rfl, by rw [hU], by rw [hU]; exact hP, va_K.moved hW.alike hK, hD.weaken (fun _ _ _ _ => trivial), hNM.1 _ _ hW hN⟩⟩ rfl hn hsize hstack (lv_room hW) hdg hR) hS (fun q _ h => hFc q h) hFc (fun u t H1 locs1 ht hvm hpost hB1 hz1 hk1 hS1 => ?_)
  exact kk H1 locs1 ⟨by rw [← ht]; exact hB1.1, hB1.2.weaken (fun k q _ h => hFc _ h), hK, hS1, hA, hN⟩
/-- an array, otherwise written -/
theorem kv_arr (q0 : Nat) {cA : ClassId} {n : Nat} {f : Nat → Int32} (ha : ws[q0]? = some (a, .inl (cA, n, .inl f))) (g : Nat → Int32) (hfg : ∀ j, j < n → f j = g j) (hB : kv_B N D tys A s ws H locs) : kv_B N D tys A s (ws.set q0 (a, .inl (cA, n, .inl g))) H locs := by
  refine ⟨hB.1.set hB.2.1 ha ?_ (fun q _ => rfl), hB.2.1.set ha, hB.2.2.1, hB.2.2.2.1, hB.2.2.2.2⟩
  have h := hB.1 q0 _ ha
  show H[a]? = some (vp_cell _ _)
  have h' : H[a]? = some (vp_cell cA (n, .inl f)) := h
  rw [h', vp_cell_i, vp_cell_i]
  unfold arrV
  congr 3
  funext j
  show Value.int (f j.val) = Value.int (g j.val)
  rw [hfg j.val j.isLt]
end KVR
section KNC
variable {p : Program} {R : Room} {s : State} {m : MethodId} {args : Array Value} {c : Code} {cc bytes : ByteArray} {nL maxL n index mc ms : Nat} {own C : String} {y : MethodName} {ret : Option FieldType} {rm : Room} {c1 : Cond}
theorem kn_c {ws : List Cond} {c1 : Cond} (h : ∀ w ∈ ws, w ∈ kn_T) : ∀ w ∈ ws, w ∈ c1 :: kn_T := fun w q => List.mem_cons_of_mem _ (h w q)
theorem kn_G {c1 c2 : Cond} (hc : c2 ∈ kn_T) : GoodIn (c1 :: kn_T) (c2 :: kn_T) := fun w h =>
  (List.mem_cons.mp h).elim (fun q => by subst q; exact ⟨List.mem_cons_of_mem _ hc, good_of_word (kn_g _ hc)⟩) (fun q => ⟨List.mem_cons_of_mem _ q, good_of_word (kn_g w q)⟩)
theorem kn_cS (S : CallFix p m c cc nL s args (c1 :: kn_T) own) (hl : Cond.methodLink own index y ∈ kn_T) (hst : Cond.static y ∈ kn_T) (hini : Cond.initialized y.cls ∈ kn_T) (hcode : Cond.code y bytes maxL ret ∈ kn_T)
    (hd : y.cls ≠ "java/lang/invoke/MethodHandle" ∧ y.cls ≠ "java/lang/invoke/VarHandle" ∧ (parseMethodDescriptor y.desc).map (fun d => d.parameters.length) = some n) (hrc : rm.cells = mc) (hrs : rm.slots = ms) (hR : rm.frames + 1 ≤ R.frames ∧ 8 + (maxL + 11) + rm.locals ≤ R.locals) :
    CallB R s args own index y bytes maxL ret (Cond.code y bytes maxL ret :: kn_T) rm mc ms n ∧ (Cond.static y).before args s = true :=
  ⟨callB_of n S.2.2.2.2 (kn_G hcode) rfl hrc hrs (S.2.2.2.2 _ (List.mem_cons_of_mem _ hini)) (S.2.2.2.2 _ (List.mem_cons_of_mem _ hl)) hd hR, S.2.2.2.2 _ (List.mem_cons_of_mem _ hst)⟩
theorem kn_cV (S : CallFix p m c cc nL s args (c1 :: kn_T) own) (hl : Cond.methodLink own index y ∈ kn_T) (hin : Cond.instanceMethod y ∈ kn_T) (hse : Cond.selects C y y ∈ kn_T) (hini : Cond.initialized C ∈ kn_T) (hcode : Cond.code y bytes maxL ret ∈ kn_T) (hC : y.cls = C)
    (hd : y.cls ≠ "java/lang/invoke/MethodHandle" ∧ y.cls ≠ "java/lang/invoke/VarHandle" ∧ (parseMethodDescriptor y.desc).map (fun d => d.parameters.length) = some n) (hrc : rm.cells = mc) (hrs : rm.slots = ms) (hR : rm.frames + 1 ≤ R.frames ∧ 8 + (maxL + 11) + rm.locals ≤ R.locals) :
    CallW R s args own C index y bytes maxL ret (Cond.code y bytes maxL ret :: kn_T) rm mc ms n :=
  ⟨callB_of n S.2.2.2.2 (kn_G hcode) rfl hrc hrs (S.2.2.2.2 _ (List.mem_cons_of_mem _ (by rw [hC]; exact hini))) (S.2.2.2.2 _ (List.mem_cons_of_mem _ hl)) hd hR, S.2.2.2.2 _ (List.mem_cons_of_mem _ hin), S.2.2.2.2 _ (List.mem_cons_of_mem _ hse)⟩
theorem kn_cI (S : CallFix p m c cc nL s args (c1 :: kn_T) own) (hl : Cond.methodLink own index y ∈ kn_T) (hin : Cond.instanceMethod y ∈ kn_T) (hini : Cond.initialized y.cls ∈ kn_T) (hcode : Cond.code y bytes maxL none ∈ kn_T) (hnm : y.name = "<init>")
    (hd : y.cls ≠ "java/lang/invoke/MethodHandle" ∧ y.cls ≠ "java/lang/invoke/VarHandle" ∧ (parseMethodDescriptor y.desc).map (fun d => d.parameters.length) = some n) (hrc : rm.cells = mc) (hrs : rm.slots = ms) (hR : rm.frames + 1 ≤ R.frames ∧ 8 + (maxL + 11) + rm.locals ≤ R.locals) :
    CallB R s args own index y bytes maxL none (Cond.code y bytes maxL none :: kn_T) rm mc ms n ∧ y.name = "<init>" ∧ (Cond.instanceMethod y).before args s = true :=
  ⟨callB_of n S.2.2.2.2 (kn_G hcode) rfl hrc hrs (S.2.2.2.2 _ (List.mem_cons_of_mem _ hini)) (S.2.2.2.2 _ (List.mem_cons_of_mem _ hl)) hd hR, hnm, S.2.2.2.2 _ (List.mem_cons_of_mem _ hin)⟩
end KNC
end
section
/-! What the class and the reference compute, as functions. -/
def kp_H (a b : Int32) : Int32 :=
  let x0 := (a ^^^ 1517746329) * 916191069 + b
  let x1 := x0 ^^^ kv_us x0 15
  let x2 := x1 * 1406938949
  x2 ^^^ kv_us x2 13
def kp_R (k j r : Int32) : Int32 := kp_H (kp_H k j) r &&& 65535
def kp_es (k j : Int32) (q : Int32 × Int32) : Int32 × Int32 := (q.2, q.1 ^^^ kp_R k j q.2)
def kp_ds (k j : Int32) (q : Int32 × Int32) : Int32 × Int32 := (q.2 ^^^ kp_R k j q.1, q.1)
def kp_jn (q : Int32 × Int32) : Int32 := (q.1 <<< ((16 : Int32) &&& 31)) ||| q.2
def kp_E (k x : Int32) : Int32 := kp_jn (kp_es k 3 (kp_es k 2 (kp_es k 1 (kp_es k 0 (kv_us x 16, x &&& 65535)))))
def kp_D (k x : Int32) : Int32 := kp_jn (kp_ds k 0 (kp_ds k 1 (kp_ds k 2 (kp_ds k 3 (kv_us x 16, x &&& 65535)))))
def kp_ks (p : Int32) (q : Int32 × Int32) : Int32 × Int32 := (kp_H p q.1, q.2 ^^^ kp_H p q.1)
def kp_K (p z i : Int32) : Int32 := (kp_ks p (kp_ks p (kp_ks p (kp_ks p (kp_ks p (kp_ks p (kp_ks p (kp_H (kp_H p z) i, kp_H (kp_H p z) i)))))))).2
def kp_dg (a b z : Int32) : Int32 := kp_H (kp_H a z) b
def kp_M (x y n : Int32) : Int32 := kp_H (kp_H x (n + 1) ^^^ y) (n + 1)
def kp_t1 (t : Int32) : Int32 := (t <<< ((1 : Int32) &&& 31)) ^^^ (if t < 0 then 141 else 0)
def kp_ts : Nat → Int32 → Int32
  | 0, t => t
  | n + 1, t => kp_ts n (kp_t1 t)
def kp_T (b s : Int32) (n : Nat) : Int32 := kp_ts n (kp_E b s)
def kp_hide (a b s : Int32) (n : Nat) (w : Int32) : Int32 := kp_E a (w ^^^ kp_T b s n) ^^^ kp_T b s n
def kp_show (a b s : Int32) (n : Nat) (w : Int32) : Int32 := kp_D a (w ^^^ kp_T b s n) ^^^ kp_T b s n
/-- the eight words of a slot -/
def kp_sl (p sd a b : Int32) : Nat → Int32
  | 0 => 1
  | 1 => kp_H sd 0
  | 2 => kp_E (kp_K p (kp_H sd 0) 0) (kp_H sd 1)
  | 3 => kp_E (kp_K p (kp_H sd 0) 1) (kp_H sd 2)
  | 4 => kp_E (kp_K p (kp_H sd 0) 0) (kp_H sd 3)
  | 5 => kp_E (kp_K p (kp_H sd 0) 1) (kp_H sd 4)
  | 6 => kp_E (kp_K p (kp_H sd 0) 0) (kp_M (kp_H sd 1) (kp_H sd 3) 0 ^^^ a)
  | 7 => kp_E (kp_K p (kp_H sd 0) 1) (kp_M (kp_H sd 2) (kp_H sd 4) 1 ^^^ b)
  | _ => 0
/-- half a slot, opened; f: the words of the disk, q: the slot's first place -/
def kp_st (f : Nat → Int32) (q : Nat) (p : Int32) (n : Int32) (i : Nat) : Int32 := kp_D (kp_K p (f (q + 1)) n) (f (q + 2 + i))
def kp_oh (f : Nat → Int32) (q : Nat) (p : Int32) (h : Nat) : Int32 := kp_M (kp_st f q p (nI h) h) (kp_st f q p (nI h) (h + 2)) (nI h) ^^^ kp_st f q p (nI h) (h + 4)
/-- the whole volume as format lays it, but for the mark -/
def kp_vol (a b p sd : Int32) (j : Nat) : Int32 :=
  if j = 1 then kp_dg a b (kp_H sd 5) else if j = 2 then kp_H sd 5 else if 4 ≤ j ∧ j < 12 then kp_sl p sd a b (j - 4)
  else if 48 ≤ j ∧ j < 80 then kp_hide a b (nI ((j - 48) / 4)) ((j - 48) % 4) 0 else 0
/-- the disk: words, writes done, writes left -/
abbrev kp_S : Type := (Nat → Int32) × Int32 × Int32
def kp_put (σ : kp_S) (p : Nat) (x : Int32) : kp_S := (upd σ.1 p x, σ.2.1 + 1, if σ.2.2 ≤ 0 then σ.2.2 else σ.2.2 - 1)
def kp_cut (σ : kp_S) : kp_S := (σ.1, σ.2.1, -1)
def kp_run : List (Nat × Int32) → kp_S → Int32 × kp_S
  | [], σ => (1, σ)
  | q :: xs, σ => if σ.2.2 = 0 then (0, kp_cut σ) else kp_run xs (kp_put σ q.1 q.2)
theorem kp_run_01 : ∀ (xs : List (Nat × Int32)) (σ : kp_S), (kp_run xs σ).1 = 0 ∨ (kp_run xs σ).1 = 1
  | [], σ => Or.inr rfl
  | q :: xs, σ => by
    unfold kp_run
    by_cases h : σ.2.2 = 0
    · rw [if_pos h]; exact Or.inl rfl
    · rw [if_neg h]; exact kp_run_01 xs _
theorem kp_run_z (xs : List (Nat × Int32)) (σ : kp_S) : narrow .boolean (.int (kp_run xs σ).1) = .int (kp_run xs σ).1 := by
  rcases kp_run_01 xs σ with h | h <;> rw [h] <;> decide
theorem kp_run_s (q : Nat × Int32) (xs : List (Nat × Int32)) (σ : kp_S) (h : (kp_run [q] σ).1 = 0) : kp_run (q :: xs) σ = kp_run [q] σ := by
  by_cases hz : σ.2.2 = 0
  · simp [kp_run, hz]
  · simp [kp_run, hz] at h
theorem kp_run_g (q : Nat × Int32) (xs : List (Nat × Int32)) (σ : kp_S) (h : ¬ (kp_run [q] σ).1 = 0) : kp_run (q :: xs) σ = kp_run xs (kp_run [q] σ).2 := by
  by_cases hz : σ.2.2 = 0
  · simp [kp_run, hz] at h
  · simp [kp_run, hz]
theorem kp_run_1 (q : Nat × Int32) (σ : kp_S) (h : ¬ (kp_run [q] σ).1 = 0) : (kp_run [q] σ).2 = kp_put σ q.1 q.2 := by
  by_cases hz : σ.2.2 = 0
  · simp [kp_run, hz] at h
  · simp [kp_run, hz]
theorem kp_run_app (xs ys : List (Nat × Int32)) : ∀ σ : kp_S, kp_run (xs ++ ys) σ = if (kp_run xs σ).1 = 0 then kp_run xs σ else kp_run ys (kp_run xs σ).2 := by
  induction xs with
  | nil => intro σ; simp [kp_run]
  | cons q xs ih =>
    intro σ
    by_cases hz : σ.2.2 = 0
    · simp [kp_run, hz]
    · simp [kp_run, hz, ih]
/-- the journal's writes -/
def kp_cl : Nat → Nat → (Nat → Int32) → List (Nat × Int32)
  | 0, _, _ => []
  | n + 1, j, f => if f j = 0 then kp_cl n (j + 1) f else (j, 0) :: kp_cl n (j + 1) (upd f j 0)
def kp_fi : Nat → Nat → Nat → (Nat → Int32) → List (Nat × Int32)
  | 0, _, _, f => (36, 0) :: kp_cl 9 37 (upd f 36 0)
  | n + 1, i, q, f => (q + i, f (38 + i)) :: kp_fi n (i + 1) q (upd f (q + i) (f (38 + i)))
def kp_ch : Nat → Nat → Nat → Nat → (Nat → Int32) → (Nat → Int32) → List (Nat × Int32)
  | 0, _, N, q, _, f => (37, nI (q + 256 * N)) :: (36, 1) :: kp_fi N 0 q (upd (upd f 37 (nI (q + 256 * N))) 36 1)
  | n + 1, i, N, q, g, f => (38 + i, g i) :: kp_ch n (i + 1) N q g (upd f (38 + i) (g i))
def kp_fm : Nat → Nat → (Nat → Int32) → List (Nat × Int32)
  | 0, _, _ => [(0, 1396855379)]
  | n + 1, j, g => (j, g j) :: kp_fm n (j + 1) g
/-- a word that the journal's place 37 holds: where to, how many -/
def kp_J (f : Nat → Int32) (q n : Nat) : Prop := f 37 = nI (q + 256 * n) ∧ q + n ≤ 80 ∧ n ≤ 8
theorem kp_J_and {q n : Nat} (h : q + n ≤ 80) (h8 : n ≤ 8) : nI (q + 256 * n) &&& 255 = nI q := by
  rw [pk_andN (by omega) 8 (by decide)]
  congr 1
  omega
theorem kp_J_shr {q n : Nat} (h : q + n ≤ 80) (h8 : n ≤ 8) : kv_us (nI (q + 256 * n)) 8 = nI n := by
  unfold kv_us
  rw [pk_ushrN (by omega) 8 8 (by decide)]
  congr 1
  omega
/-- the slots: which are active -/
def kp_ac (f : Nat → Int32) (k : Nat) : Int32 := if f (4 + 8 * k) = 1 then 1 else 0
theorem kp_ac_z (f : Nat → Int32) (k : Nat) : narrow .boolean (.int (kp_ac f k)) = .int (kp_ac f k) := by
  unfold kp_ac
  by_cases h : f (4 + 8 * k) = 1
  · rw [if_pos h]; decide
  · rw [if_neg h]; decide
/-- the reference's plan: places, words, how many, the disk as it will be -/
abbrev kp_P : Type := (Nat → Int32) × (Nat → Int32) × Nat × (Nat → Int32)
def kp_p1 (μ : kp_P) (p : Nat) (x : Int32) : kp_P := (upd μ.1 μ.2.2.1 (nI p), upd μ.2.1 μ.2.2.1 x, μ.2.2.1 + 1, upd μ.2.2.2 p x)
def kp_ps : List (Nat × Int32) → kp_P → kp_P
  | [], μ => μ
  | q :: xs, μ => kp_ps xs (kp_p1 μ q.1 q.2)
def kp_at (f : Nat → Int32) (x : Int32) : Int32 := if x < 0 then 0 else if 80 ≤ x then 0 else f x.toNatClampNeg
theorem kp_ix {x : Int32} (h1 : ¬ x < 0) (h2 : ¬ (80 : Int32) ≤ x) : ∃ j : Nat, j < 80 ∧ x = nI j := by
  rcases pk_ix x (n := 80) (by decide) with h | h | h
  · exact absurd h h1
  · exact absurd h h2
  · exact h
theorem kp_at_n (f : Nat → Int32) {j : Nat} (hj : j < 80) : kp_at f (nI j) = f j := by
  rw [kp_at, if_neg (nI_pos (by omega)), if_neg (show ¬ (80 : Int32) ≤ nI j from nI_ge hj (by decide)), nI_clamp (by omega)]
theorem kp_run_nz {xs : List (Nat × Int32)} {σ : kp_S} (h : ¬ (kp_run xs σ).1 = 0) : (kp_run xs σ).1 = 1 := by
  rcases kp_run_01 xs σ with q | q
  · exact absurd q h
  · exact q
theorem kp_stepf {F : (Nat → Int32) → List (Nat × Int32)} {q : Nat × Int32} {τ : kp_S} {T : Int32 × kp_S} (h : ¬ (kp_run [q] τ).1 = 0) (hT : kp_run (q :: F (upd τ.1 q.1 q.2)) τ = T) : kp_run (F (kp_run [q] τ).2.1) (kp_run [q] τ).2 = T := by
  rw [← hT, kp_run_g q (F (upd τ.1 q.1 q.2)) τ h, kp_run_1 q τ h]
  rfl
theorem kp_stop {q : Nat × Int32} {xs : List (Nat × Int32)} {τ : kp_S} {T : Int32 × kp_S} (h : (kp_run [q] τ).1 = 0) (hT : kp_run (q :: xs) τ = T) : kp_run [q] τ = T := by
  rw [← hT, kp_run_s q xs τ h]
def kp_se (q n : Nat) (f : Nat → Int32) : List (Nat × Int32) := if f 36 = 1 then kp_fi n 0 q f else kp_cl 9 37 f
def kp_wh (g : Nat → Int32) (q hf : Nat) (x pw sd : Int32) : Nat → Int32 :=
  upd (upd (upd g (q + 2 + hf) (kp_E (kp_K pw (g (q + 1)) (nI hf)) (kp_H sd (nI (hf + 1))))) (q + 2 + hf + 2) (kp_E (kp_K pw (g (q + 1)) (nI hf)) (kp_H sd (nI (hf + 3))))) (q + 2 + hf + 4) (kp_E (kp_K pw (g (q + 1)) (nI hf)) (kp_M (kp_H sd (nI (hf + 1))) (kp_H sd (nI (hf + 3))) (nI hf) ^^^ x))
def kp_wo (g : Nat → Int32) (q : Nat) (a b pw sd : Int32) : Nat → Int32 := kp_wh (kp_wh (upd (upd g q 1) (q + 1) (kp_H sd 0)) q 0 a pw sd) q 1 b pw sd
/-- the class's world -/
abbrev vo_W (h d w r : Nat) (cA : ClassId) (σ : kp_S) (g : Nat → Int32) (dv dk pk : Int32) : va_W :=
  [(h, .inr (1, [.ref d, .ref r, .int dv, .int dk, .int pk])), (d, .inr (0, [.ref w, .int σ.2.1, .int σ.2.2])), (w, .inl (cA, 80, .inl σ.1)), (r, .inl (cA, 80, .inl g))]
end
section
abbrev kr_CI_mix : Room := { frames := 0, cells := 0, slots := 0, locals := 0 }
set_option maxRecDepth 100000 in
set_option maxHeartbeats 4000000 in
theorem kc_CI_mix (l : Launch) (D : va_G) (a : Int32) (b : Int32) : kv_I (fun _ => True) l yX0_mix wsX0_mix kr_CI_mix D [] [.int a, .int b] [] (kp_H a b) [] := by
  refine kv_openI (cc := cX0_mix) (maxL := 3) (rt := .int) (by decide) rfl (rfl) (Nat.le_of_ble_eq_true rfl) ?_
  intro p e s m args below meth c A H locs ls Q S hl hB K
  have hl : lv_has ls 3 [(0, .int a), (1, .int b)] := hl
  refine lv_iload_n S.1 S.2.1 dX0_mix_0 rfl (lv_at hl 0 rfl) ?_
  refine lv_ldc (v := 1517746329) S.1 S.2.1 S.2.2.2.1 (S.2.2.2.2 _ (List.mem_cons_of_mem _ kn_56)) dX0_mix_1 ?_
  refine lv_ixor S.1 S.2.1 dX0_mix_3 ?_
  refine lv_ldc (v := 916191069) S.1 S.2.1 S.2.2.2.1 (S.2.2.2.2 _ (List.mem_cons_of_mem _ kn_57)) dX0_mix_4 ?_
  refine lv_imul S.1 S.2.1 dX0_mix_6 ?_
  refine lv_iload_n S.1 S.2.1 dX0_mix_7 rfl (lv_at hl 1 rfl) ?_
  refine lv_iadd S.1 S.2.1 dX0_mix_8 ?_
  refine lv_topi (fun x_1 ex_1 => ?_)
  refine lv_istore_n S.1 S.2.1 dX0_mix_9 rfl hl (by decide) rfl (fun ls hl => ?_)
  have hl : lv_has ls 3 [(2, .int x_1), (0, .int a), (1, .int b)] := hl
  refine lv_iload_n S.1 S.2.1 dX0_mix_10 rfl (lv_at hl 0 rfl) ?_
  refine lv_iload_n S.1 S.2.1 dX0_mix_11 rfl (lv_at hl 0 rfl) ?_
  refine lv_bipush (v := 15) S.1 S.2.1 dX0_mix_12 (by decide) ?_
  refine lv_iushr (v := kv_us x_1 15) S.1 S.2.1 dX0_mix_14 rfl ?_
  refine lv_ixor S.1 S.2.1 dX0_mix_15 ?_
  refine lv_topi (fun x_2 ex_2 => ?_)
  refine lv_istore_n S.1 S.2.1 dX0_mix_16 rfl hl (by decide) rfl (fun ls hl => ?_)
  have hl : lv_has ls 3 [(2, .int x_2), (0, .int a), (1, .int b)] := hl
  refine lv_iload_n S.1 S.2.1 dX0_mix_17 rfl (lv_at hl 0 rfl) ?_
  refine lv_ldc (v := 1406938949) S.1 S.2.1 S.2.2.2.1 (S.2.2.2.2 _ (List.mem_cons_of_mem _ kn_58)) dX0_mix_18 ?_
  refine lv_imul S.1 S.2.1 dX0_mix_20 ?_
  refine lv_topi (fun x_3 ex_3 => ?_)
  refine lv_istore_n S.1 S.2.1 dX0_mix_21 rfl hl (by decide) rfl (fun ls hl => ?_)
  have hl : lv_has ls 3 [(2, .int x_3), (0, .int a), (1, .int b)] := hl
  refine lv_iload_n S.1 S.2.1 dX0_mix_22 rfl (lv_at hl 0 rfl) ?_
  refine lv_iload_n S.1 S.2.1 dX0_mix_23 rfl (lv_at hl 0 rfl) ?_
  refine lv_bipush (v := 13) S.1 S.2.1 dX0_mix_24 (by decide) ?_
  refine lv_iushr (v := kv_us x_3 13) S.1 S.2.1 dX0_mix_26 rfl ?_
  refine lv_ixor S.1 S.2.1 dX0_mix_27 ?_
  exact K _ _ _ _ _ _ hB (by subst_vars; rfl) (rfl) dX0_mix_28

abbrev kr_CI_roundMask : Room := { frames := 1, cells := 0, slots := 0, locals := 22 }
set_option maxRecDepth 100000 in
set_option maxHeartbeats 4000000 in
theorem kc_CI_roundMask (l : Launch) (D : va_G) (a : Int32) (j : Int32) (b : Int32) : kv_I (fun _ => True) l yX0_roundMask wsX0_roundMask kr_CI_roundMask D [] [.int a, .int j, .int b] [] (kp_R a j b) [] := by
  refine kv_openI (cc := cX0_roundMask) (maxL := 3) (rt := .int) (by decide) rfl (rfl) (Nat.le_of_ble_eq_true rfl) ?_
  intro p e s m args below meth c A H locs ls Q S hl hB K
  have hl : lv_has ls 3 [(0, .int a), (1, .int j), (2, .int b)] := hl
  refine lv_iload_n S.1 S.2.1 dX0_roundMask_0 rfl (lv_at hl 0 rfl) ?_
  refine lv_iload_n S.1 S.2.1 dX0_roundMask_1 rfl (lv_at hl 1 rfl) ?_
  refine kv_sP (As := [.int a, .int j]) (rest := []) S (kc_CI_mix l D a j  ) (kn_cS S kn_62 kn_54 kn_5 kn_55 kd_X0_mix rfl rfl ⟨Nat.le_of_ble_eq_true rfl, Nat.le_of_ble_eq_true rfl⟩) hB rfl hl.1 rfl (Nat.le_of_ble_eq_true rfl) dX0_roundMask_2 ⟨Nat.zero_le _, Nat.zero_le _⟩ (fun H locs hB => ?_)
  refine lv_iload_n S.1 S.2.1 dX0_roundMask_5 rfl (lv_at hl 2 rfl) ?_
  refine kv_sP (As := [.int (kp_H a j), .int b]) (rest := []) S (kc_CI_mix l D (kp_H a j) b  ) (kn_cS S kn_62 kn_54 kn_5 kn_55 kd_X0_mix rfl rfl ⟨Nat.le_of_ble_eq_true rfl, Nat.le_of_ble_eq_true rfl⟩) hB rfl hl.1 rfl (Nat.le_of_ble_eq_true rfl) dX0_roundMask_6 ⟨Nat.zero_le _, Nat.zero_le _⟩ (fun H locs hB => ?_)
  refine lv_ldc (v := 65535) S.1 S.2.1 S.2.2.2.1 (S.2.2.2.2 _ (List.mem_cons_of_mem _ kn_82)) dX0_roundMask_9 ?_
  refine lv_iand S.1 S.2.1 dX0_roundMask_11 ?_
  exact K _ _ _ _ _ _ hB (rfl) (rfl) dX0_roundMask_12

abbrev kr_CI_encipher : Room := { frames := 2, cells := 0, slots := 0, locals := 44 }
set_option maxRecDepth 100000 in
set_option maxHeartbeats 4000000 in
theorem kc_CI_encipher (l : Launch) (D : va_G) (a : Int32) (b : Int32) : kv_I (fun _ => True) l yX0_encipher wsX0_encipher kr_CI_encipher D [] [.int a, .int b] [] (kp_E a b) [] := by
  refine kv_openI (cc := cX0_encipher) (maxL := 6) (rt := .int) (by decide) rfl (rfl) (Nat.le_of_ble_eq_true rfl) ?_
  intro p e s m args below meth c A H locs ls Q S hl hB K
  have hl : lv_has ls 6 [(0, .int a), (1, .int b)] := hl
  refine lv_iload_n S.1 S.2.1 dX0_encipher_0 rfl (lv_at hl 1 rfl) ?_
  refine lv_bipush (v := 16) S.1 S.2.1 dX0_encipher_1 (by decide) ?_
  refine lv_iushr (v := kv_us b 16) S.1 S.2.1 dX0_encipher_3 rfl ?_
  refine lv_topi (fun x_1 ex_1 => ?_)
  refine lv_istore_n S.1 S.2.1 dX0_encipher_4 rfl hl (by decide) rfl (fun ls hl => ?_)
  have hl : lv_has ls 6 [(2, .int x_1), (0, .int a), (1, .int b)] := hl
  refine lv_iload_n S.1 S.2.1 dX0_encipher_5 rfl (lv_at hl 2 rfl) ?_
  refine lv_ldc (v := 65535) S.1 S.2.1 S.2.2.2.1 (S.2.2.2.2 _ (List.mem_cons_of_mem _ kn_82)) dX0_encipher_6 ?_
  refine lv_iand S.1 S.2.1 dX0_encipher_8 ?_
  refine lv_topi (fun x_2 ex_2 => ?_)
  refine lv_istore_n S.1 S.2.1 dX0_encipher_9 rfl hl (by decide) rfl (fun ls hl => ?_)
  have hl : lv_has ls 6 [(3, .int x_2), (2, .int x_1), (0, .int a), (1, .int b)] := hl
  refine lv_iconst (v := 0) S.1 S.2.1 dX0_encipher_10 (by decide) ?_
  refine lv_istore S.1 S.2.1 dX0_encipher_11 hl (by decide) rfl (fun ls hl => ?_)
  have hl : lv_has ls 6 [(4, .int 0), (3, .int x_2), (2, .int x_1), (0, .int a), (1, .int b)] := hl
  refine lv_iload S.1 S.2.1 dX0_encipher_13 (lv_at hl 0 rfl) ?_
  refine lv_iconst (v := 4) S.1 S.2.1 dX0_encipher_15 (by decide) ?_
  refine kv_bge (x := 0) (y := 4) (tgt := 41) S (by omega) (by omega) dX0_encipher_16 (by decide) (fun h => absurd h (by omega)) (fun h_16 => ?_)
  refine lv_iload_n S.1 S.2.1 dX0_encipher_19 rfl (lv_at hl 2 rfl) ?_
  refine lv_istore S.1 S.2.1 dX0_encipher_20 hl (by decide) rfl (fun ls hl => ?_)
  have hl : lv_has ls 6 [(5, .int x_1), (4, .int 0), (3, .int x_2), (2, .int x_1), (0, .int a), (1, .int b)] := hl
  refine lv_iload_n S.1 S.2.1 dX0_encipher_22 rfl (lv_at hl 2 rfl) ?_
  refine lv_istore_n S.1 S.2.1 dX0_encipher_23 rfl hl (by decide) rfl (fun ls hl => ?_)
  have hl : lv_has ls 6 [(2, .int x_2), (5, .int x_1), (4, .int 0), (3, .int x_2), (0, .int a), (1, .int b)] := hl
  refine lv_iload S.1 S.2.1 dX0_encipher_24 (lv_at hl 1 rfl) ?_
  refine lv_iload_n S.1 S.2.1 dX0_encipher_26 rfl (lv_at hl 4 rfl) ?_
  refine lv_iload S.1 S.2.1 dX0_encipher_27 (lv_at hl 2 rfl) ?_
  refine lv_iload_n S.1 S.2.1 dX0_encipher_29 rfl (lv_at hl 3 rfl) ?_
  refine kv_sP (As := [.int a, .int 0, .int x_2]) (rest := [.int x_1]) S (kc_CI_roundMask l D a 0 x_2  ) (kn_cS S kn_83 kn_84 kn_5 kn_85 kd_X0_roundMask rfl rfl ⟨Nat.le_of_ble_eq_true rfl, Nat.le_of_ble_eq_true rfl⟩) hB rfl hl.1 rfl (Nat.le_of_ble_eq_true rfl) dX0_encipher_30 ⟨Nat.zero_le _, Nat.zero_le _⟩ (fun H locs hB => ?_)
  refine lv_ixor S.1 S.2.1 dX0_encipher_33 ?_
  refine lv_topi (fun x_3 ex_3 => ?_)
  refine lv_istore_n S.1 S.2.1 dX0_encipher_34 rfl hl (by decide) rfl (fun ls hl => ?_)
  have hl : lv_has ls 6 [(3, .int x_3), (2, .int x_2), (5, .int x_1), (4, .int 0), (0, .int a), (1, .int b)] := hl
  refine lv_iinc (k := 3) (v := 1) S.1 S.2.1 dX0_encipher_35 hl rfl (by decide) (by decide) rfl (fun ls hl => ?_)
  have hl : lv_has ls 6 [(4, .int 1), (3, .int x_3), (2, .int x_2), (5, .int x_1), (0, .int a), (1, .int b)] := hl
  refine lv_goto (tgt := 13) S.1 S.2.1 dX0_encipher_38 (by decide) ?_
  refine lv_iload S.1 S.2.1 dX0_encipher_13 (lv_at hl 0 rfl) ?_
  refine lv_iconst (v := 4) S.1 S.2.1 dX0_encipher_15 (by decide) ?_
  refine kv_bge (x := 1) (y := 4) (tgt := 41) S (by omega) (by omega) dX0_encipher_16 (by decide) (fun h => absurd h (by omega)) (fun h_16 => ?_)
  refine lv_iload_n S.1 S.2.1 dX0_encipher_19 rfl (lv_at hl 2 rfl) ?_
  refine lv_istore S.1 S.2.1 dX0_encipher_20 hl (by decide) rfl (fun ls hl => ?_)
  have hl : lv_has ls 6 [(5, .int x_2), (4, .int 1), (3, .int x_3), (2, .int x_2), (0, .int a), (1, .int b)] := hl
  refine lv_iload_n S.1 S.2.1 dX0_encipher_22 rfl (lv_at hl 2 rfl) ?_
  refine lv_istore_n S.1 S.2.1 dX0_encipher_23 rfl hl (by decide) rfl (fun ls hl => ?_)
  have hl : lv_has ls 6 [(2, .int x_3), (5, .int x_2), (4, .int 1), (3, .int x_3), (0, .int a), (1, .int b)] := hl
  refine lv_iload S.1 S.2.1 dX0_encipher_24 (lv_at hl 1 rfl) ?_
  refine lv_iload_n S.1 S.2.1 dX0_encipher_26 rfl (lv_at hl 4 rfl) ?_
  refine lv_iload S.1 S.2.1 dX0_encipher_27 (lv_at hl 2 rfl) ?_
  refine lv_iload_n S.1 S.2.1 dX0_encipher_29 rfl (lv_at hl 3 rfl) ?_
  refine kv_sP (As := [.int a, .int 1, .int x_3]) (rest := [.int x_2]) S (kc_CI_roundMask l D a 1 x_3  ) (kn_cS S kn_83 kn_84 kn_5 kn_85 kd_X0_roundMask rfl rfl ⟨Nat.le_of_ble_eq_true rfl, Nat.le_of_ble_eq_true rfl⟩) hB rfl hl.1 rfl (Nat.le_of_ble_eq_true rfl) dX0_encipher_30 ⟨Nat.zero_le _, Nat.zero_le _⟩ (fun H locs hB => ?_)
  refine lv_ixor S.1 S.2.1 dX0_encipher_33 ?_
  refine lv_topi (fun x_4 ex_4 => ?_)
  refine lv_istore_n S.1 S.2.1 dX0_encipher_34 rfl hl (by decide) rfl (fun ls hl => ?_)
  have hl : lv_has ls 6 [(3, .int x_4), (2, .int x_3), (5, .int x_2), (4, .int 1), (0, .int a), (1, .int b)] := hl
  refine lv_iinc (k := 3) (v := 2) S.1 S.2.1 dX0_encipher_35 hl rfl (by decide) (by decide) rfl (fun ls hl => ?_)
  have hl : lv_has ls 6 [(4, .int 2), (3, .int x_4), (2, .int x_3), (5, .int x_2), (0, .int a), (1, .int b)] := hl
  refine lv_goto (tgt := 13) S.1 S.2.1 dX0_encipher_38 (by decide) ?_
  refine lv_iload S.1 S.2.1 dX0_encipher_13 (lv_at hl 0 rfl) ?_
  refine lv_iconst (v := 4) S.1 S.2.1 dX0_encipher_15 (by decide) ?_
  refine kv_bge (x := 2) (y := 4) (tgt := 41) S (by omega) (by omega) dX0_encipher_16 (by decide) (fun h => absurd h (by omega)) (fun h_16 => ?_)
  refine lv_iload_n S.1 S.2.1 dX0_encipher_19 rfl (lv_at hl 2 rfl) ?_
  refine lv_istore S.1 S.2.1 dX0_encipher_20 hl (by decide) rfl (fun ls hl => ?_)
  have hl : lv_has ls 6 [(5, .int x_3), (4, .int 2), (3, .int x_4), (2, .int x_3), (0, .int a), (1, .int b)] := hl
  refine lv_iload_n S.1 S.2.1 dX0_encipher_22 rfl (lv_at hl 2 rfl) ?_
  refine lv_istore_n S.1 S.2.1 dX0_encipher_23 rfl hl (by decide) rfl (fun ls hl => ?_)
  have hl : lv_has ls 6 [(2, .int x_4), (5, .int x_3), (4, .int 2), (3, .int x_4), (0, .int a), (1, .int b)] := hl
  refine lv_iload S.1 S.2.1 dX0_encipher_24 (lv_at hl 1 rfl) ?_
  refine lv_iload_n S.1 S.2.1 dX0_encipher_26 rfl (lv_at hl 4 rfl) ?_
  refine lv_iload S.1 S.2.1 dX0_encipher_27 (lv_at hl 2 rfl) ?_
  refine lv_iload_n S.1 S.2.1 dX0_encipher_29 rfl (lv_at hl 3 rfl) ?_
  refine kv_sP (As := [.int a, .int 2, .int x_4]) (rest := [.int x_3]) S (kc_CI_roundMask l D a 2 x_4  ) (kn_cS S kn_83 kn_84 kn_5 kn_85 kd_X0_roundMask rfl rfl ⟨Nat.le_of_ble_eq_true rfl, Nat.le_of_ble_eq_true rfl⟩) hB rfl hl.1 rfl (Nat.le_of_ble_eq_true rfl) dX0_encipher_30 ⟨Nat.zero_le _, Nat.zero_le _⟩ (fun H locs hB => ?_)
  refine lv_ixor S.1 S.2.1 dX0_encipher_33 ?_
  refine lv_topi (fun x_5 ex_5 => ?_)
  refine lv_istore_n S.1 S.2.1 dX0_encipher_34 rfl hl (by decide) rfl (fun ls hl => ?_)
  have hl : lv_has ls 6 [(3, .int x_5), (2, .int x_4), (5, .int x_3), (4, .int 2), (0, .int a), (1, .int b)] := hl
  refine lv_iinc (k := 3) (v := 3) S.1 S.2.1 dX0_encipher_35 hl rfl (by decide) (by decide) rfl (fun ls hl => ?_)
  have hl : lv_has ls 6 [(4, .int 3), (3, .int x_5), (2, .int x_4), (5, .int x_3), (0, .int a), (1, .int b)] := hl
  refine lv_goto (tgt := 13) S.1 S.2.1 dX0_encipher_38 (by decide) ?_
  refine lv_iload S.1 S.2.1 dX0_encipher_13 (lv_at hl 0 rfl) ?_
  refine lv_iconst (v := 4) S.1 S.2.1 dX0_encipher_15 (by decide) ?_
  refine kv_bge (x := 3) (y := 4) (tgt := 41) S (by omega) (by omega) dX0_encipher_16 (by decide) (fun h => absurd h (by omega)) (fun h_16 => ?_)
  refine lv_iload_n S.1 S.2.1 dX0_encipher_19 rfl (lv_at hl 2 rfl) ?_
  refine lv_istore S.1 S.2.1 dX0_encipher_20 hl (by decide) rfl (fun ls hl => ?_)
  have hl : lv_has ls 6 [(5, .int x_4), (4, .int 3), (3, .int x_5), (2, .int x_4), (0, .int a), (1, .int b)] := hl
  refine lv_iload_n S.1 S.2.1 dX0_encipher_22 rfl (lv_at hl 2 rfl) ?_
  refine lv_istore_n S.1 S.2.1 dX0_encipher_23 rfl hl (by decide) rfl (fun ls hl => ?_)
  have hl : lv_has ls 6 [(2, .int x_5), (5, .int x_4), (4, .int 3), (3, .int x_5), (0, .int a), (1, .int b)] := hl
  refine lv_iload S.1 S.2.1 dX0_encipher_24 (lv_at hl 1 rfl) ?_
  refine lv_iload_n S.1 S.2.1 dX0_encipher_26 rfl (lv_at hl 4 rfl) ?_
  refine lv_iload S.1 S.2.1 dX0_encipher_27 (lv_at hl 2 rfl) ?_
  refine lv_iload_n S.1 S.2.1 dX0_encipher_29 rfl (lv_at hl 3 rfl) ?_
  refine kv_sP (As := [.int a, .int 3, .int x_5]) (rest := [.int x_4]) S (kc_CI_roundMask l D a 3 x_5  ) (kn_cS S kn_83 kn_84 kn_5 kn_85 kd_X0_roundMask rfl rfl ⟨Nat.le_of_ble_eq_true rfl, Nat.le_of_ble_eq_true rfl⟩) hB rfl hl.1 rfl (Nat.le_of_ble_eq_true rfl) dX0_encipher_30 ⟨Nat.zero_le _, Nat.zero_le _⟩ (fun H locs hB => ?_)
  refine lv_ixor S.1 S.2.1 dX0_encipher_33 ?_
  refine lv_topi (fun x_6 ex_6 => ?_)
  refine lv_istore_n S.1 S.2.1 dX0_encipher_34 rfl hl (by decide) rfl (fun ls hl => ?_)
  have hl : lv_has ls 6 [(3, .int x_6), (2, .int x_5), (5, .int x_4), (4, .int 3), (0, .int a), (1, .int b)] := hl
  refine lv_iinc (k := 3) (v := 4) S.1 S.2.1 dX0_encipher_35 hl rfl (by decide) (by decide) rfl (fun ls hl => ?_)
  have hl : lv_has ls 6 [(4, .int 4), (3, .int x_6), (2, .int x_5), (5, .int x_4), (0, .int a), (1, .int b)] := hl
  refine lv_goto (tgt := 13) S.1 S.2.1 dX0_encipher_38 (by decide) ?_
  refine lv_iload S.1 S.2.1 dX0_encipher_13 (lv_at hl 0 rfl) ?_
  refine lv_iconst (v := 4) S.1 S.2.1 dX0_encipher_15 (by decide) ?_
  refine kv_bge (x := 4) (y := 4) (tgt := 41) S (by omega) (by omega) dX0_encipher_16 (by decide) (fun h_16 => ?_) (fun h => absurd h (by omega))
  refine lv_iload_n S.1 S.2.1 dX0_encipher_41 rfl (lv_at hl 2 rfl) ?_
  refine lv_bipush (v := 16) S.1 S.2.1 dX0_encipher_42 (by decide) ?_
  refine lv_ishl S.1 S.2.1 dX0_encipher_44 ?_
  refine lv_iload_n S.1 S.2.1 dX0_encipher_45 rfl (lv_at hl 1 rfl) ?_
  refine lv_ior S.1 S.2.1 dX0_encipher_46 ?_
  exact K _ _ _ _ _ _ hB (by subst_vars; rfl) (rfl) dX0_encipher_47

abbrev kr_CI_decipher : Room := { frames := 2, cells := 0, slots := 0, locals := 44 }
set_option maxRecDepth 100000 in
set_option maxHeartbeats 4000000 in
theorem kc_CI_decipher (l : Launch) (D : va_G) (a : Int32) (b : Int32) : kv_I (fun _ => True) l yX0_decipher wsX0_decipher kr_CI_decipher D [] [.int a, .int b] [] (kp_D a b) [] := by
  refine kv_openI (cc := cX0_decipher) (maxL := 6) (rt := .int) (by decide) rfl (rfl) (Nat.le_of_ble_eq_true rfl) ?_
  intro p e s m args below meth c A H locs ls Q S hl hB K
  have hl : lv_has ls 6 [(0, .int a), (1, .int b)] := hl
  refine lv_iload_n S.1 S.2.1 dX0_decipher_0 rfl (lv_at hl 1 rfl) ?_
  refine lv_bipush (v := 16) S.1 S.2.1 dX0_decipher_1 (by decide) ?_
  refine lv_iushr (v := kv_us b 16) S.1 S.2.1 dX0_decipher_3 rfl ?_
  refine lv_topi (fun x_1 ex_1 => ?_)
  refine lv_istore_n S.1 S.2.1 dX0_decipher_4 rfl hl (by decide) rfl (fun ls hl => ?_)
  have hl : lv_has ls 6 [(2, .int x_1), (0, .int a), (1, .int b)] := hl
  refine lv_iload_n S.1 S.2.1 dX0_decipher_5 rfl (lv_at hl 2 rfl) ?_
  refine lv_ldc (v := 65535) S.1 S.2.1 S.2.2.2.1 (S.2.2.2.2 _ (List.mem_cons_of_mem _ kn_82)) dX0_decipher_6 ?_
  refine lv_iand S.1 S.2.1 dX0_decipher_8 ?_
  refine lv_topi (fun x_2 ex_2 => ?_)
  refine lv_istore_n S.1 S.2.1 dX0_decipher_9 rfl hl (by decide) rfl (fun ls hl => ?_)
  have hl : lv_has ls 6 [(3, .int x_2), (2, .int x_1), (0, .int a), (1, .int b)] := hl
  refine lv_iconst (v := 3) S.1 S.2.1 dX0_decipher_10 (by decide) ?_
  refine lv_istore S.1 S.2.1 dX0_decipher_11 hl (by decide) rfl (fun ls hl => ?_)
  have hl : lv_has ls 6 [(4, .int 3), (3, .int x_2), (2, .int x_1), (0, .int a), (1, .int b)] := hl
  refine lv_iload S.1 S.2.1 dX0_decipher_13 (lv_at hl 0 rfl) ?_
  refine lv_if_lt (tgt := 40) S.1 S.2.1 dX0_decipher_15 (by decide) (fun h => absurd h (by decide)) (fun h_15 => ?_)
  refine lv_iload_n S.1 S.2.1 dX0_decipher_18 rfl (lv_at hl 1 rfl) ?_
  refine lv_istore S.1 S.2.1 dX0_decipher_19 hl (by decide) rfl (fun ls hl => ?_)
  have hl : lv_has ls 6 [(5, .int x_2), (4, .int 3), (3, .int x_2), (2, .int x_1), (0, .int a), (1, .int b)] := hl
  refine lv_iload_n S.1 S.2.1 dX0_decipher_21 rfl (lv_at hl 3 rfl) ?_
  refine lv_istore_n S.1 S.2.1 dX0_decipher_22 rfl hl (by decide) rfl (fun ls hl => ?_)
  have hl : lv_has ls 6 [(3, .int x_1), (5, .int x_2), (4, .int 3), (2, .int x_1), (0, .int a), (1, .int b)] := hl
  refine lv_iload S.1 S.2.1 dX0_decipher_23 (lv_at hl 1 rfl) ?_
  refine lv_iload_n S.1 S.2.1 dX0_decipher_25 rfl (lv_at hl 4 rfl) ?_
  refine lv_iload S.1 S.2.1 dX0_decipher_26 (lv_at hl 2 rfl) ?_
  refine lv_iload_n S.1 S.2.1 dX0_decipher_28 rfl (lv_at hl 3 rfl) ?_
  refine kv_sP (As := [.int a, .int 3, .int x_1]) (rest := [.int x_2]) S (kc_CI_roundMask l D a 3 x_1  ) (kn_cS S kn_83 kn_84 kn_5 kn_85 kd_X0_roundMask rfl rfl ⟨Nat.le_of_ble_eq_true rfl, Nat.le_of_ble_eq_true rfl⟩) hB rfl hl.1 rfl (Nat.le_of_ble_eq_true rfl) dX0_decipher_29 ⟨Nat.zero_le _, Nat.zero_le _⟩ (fun H locs hB => ?_)
  refine lv_ixor S.1 S.2.1 dX0_decipher_32 ?_
  refine lv_topi (fun x_3 ex_3 => ?_)
  refine lv_istore_n S.1 S.2.1 dX0_decipher_33 rfl hl (by decide) rfl (fun ls hl => ?_)
  have hl : lv_has ls 6 [(2, .int x_3), (3, .int x_1), (5, .int x_2), (4, .int 3), (0, .int a), (1, .int b)] := hl
  refine lv_iinc (k := 3) (v := 2) S.1 S.2.1 dX0_decipher_34 hl rfl (by decide) (by decide) rfl (fun ls hl => ?_)
  have hl : lv_has ls 6 [(4, .int 2), (2, .int x_3), (3, .int x_1), (5, .int x_2), (0, .int a), (1, .int b)] := hl
  refine lv_goto (tgt := 13) S.1 S.2.1 dX0_decipher_37 (by decide) ?_
  refine lv_iload S.1 S.2.1 dX0_decipher_13 (lv_at hl 0 rfl) ?_
  refine lv_if_lt (tgt := 40) S.1 S.2.1 dX0_decipher_15 (by decide) (fun h => absurd h (by decide)) (fun h_15 => ?_)
  refine lv_iload_n S.1 S.2.1 dX0_decipher_18 rfl (lv_at hl 2 rfl) ?_
  refine lv_istore S.1 S.2.1 dX0_decipher_19 hl (by decide) rfl (fun ls hl => ?_)
  have hl : lv_has ls 6 [(5, .int x_1), (4, .int 2), (2, .int x_3), (3, .int x_1), (0, .int a), (1, .int b)] := hl
  refine lv_iload_n S.1 S.2.1 dX0_decipher_21 rfl (lv_at hl 2 rfl) ?_
  refine lv_istore_n S.1 S.2.1 dX0_decipher_22 rfl hl (by decide) rfl (fun ls hl => ?_)
  have hl : lv_has ls 6 [(3, .int x_3), (5, .int x_1), (4, .int 2), (2, .int x_3), (0, .int a), (1, .int b)] := hl
  refine lv_iload S.1 S.2.1 dX0_decipher_23 (lv_at hl 1 rfl) ?_
  refine lv_iload_n S.1 S.2.1 dX0_decipher_25 rfl (lv_at hl 4 rfl) ?_
  refine lv_iload S.1 S.2.1 dX0_decipher_26 (lv_at hl 2 rfl) ?_
  refine lv_iload_n S.1 S.2.1 dX0_decipher_28 rfl (lv_at hl 3 rfl) ?_
  refine kv_sP (As := [.int a, .int 2, .int x_3]) (rest := [.int x_1]) S (kc_CI_roundMask l D a 2 x_3  ) (kn_cS S kn_83 kn_84 kn_5 kn_85 kd_X0_roundMask rfl rfl ⟨Nat.le_of_ble_eq_true rfl, Nat.le_of_ble_eq_true rfl⟩) hB rfl hl.1 rfl (Nat.le_of_ble_eq_true rfl) dX0_decipher_29 ⟨Nat.zero_le _, Nat.zero_le _⟩ (fun H locs hB => ?_)
  refine lv_ixor S.1 S.2.1 dX0_decipher_32 ?_
  refine lv_topi (fun x_4 ex_4 => ?_)
  refine lv_istore_n S.1 S.2.1 dX0_decipher_33 rfl hl (by decide) rfl (fun ls hl => ?_)
  have hl : lv_has ls 6 [(2, .int x_4), (3, .int x_3), (5, .int x_1), (4, .int 2), (0, .int a), (1, .int b)] := hl
  refine lv_iinc (k := 3) (v := 1) S.1 S.2.1 dX0_decipher_34 hl rfl (by decide) (by decide) rfl (fun ls hl => ?_)
  have hl : lv_has ls 6 [(4, .int 1), (2, .int x_4), (3, .int x_3), (5, .int x_1), (0, .int a), (1, .int b)] := hl
  refine lv_goto (tgt := 13) S.1 S.2.1 dX0_decipher_37 (by decide) ?_
  refine lv_iload S.1 S.2.1 dX0_decipher_13 (lv_at hl 0 rfl) ?_
  refine lv_if_lt (tgt := 40) S.1 S.2.1 dX0_decipher_15 (by decide) (fun h => absurd h (by decide)) (fun h_15 => ?_)
  refine lv_iload_n S.1 S.2.1 dX0_decipher_18 rfl (lv_at hl 2 rfl) ?_
  refine lv_istore S.1 S.2.1 dX0_decipher_19 hl (by decide) rfl (fun ls hl => ?_)
  have hl : lv_has ls 6 [(5, .int x_3), (4, .int 1), (2, .int x_4), (3, .int x_3), (0, .int a), (1, .int b)] := hl
  refine lv_iload_n S.1 S.2.1 dX0_decipher_21 rfl (lv_at hl 2 rfl) ?_
  refine lv_istore_n S.1 S.2.1 dX0_decipher_22 rfl hl (by decide) rfl (fun ls hl => ?_)
  have hl : lv_has ls 6 [(3, .int x_4), (5, .int x_3), (4, .int 1), (2, .int x_4), (0, .int a), (1, .int b)] := hl
  refine lv_iload S.1 S.2.1 dX0_decipher_23 (lv_at hl 1 rfl) ?_
  refine lv_iload_n S.1 S.2.1 dX0_decipher_25 rfl (lv_at hl 4 rfl) ?_
  refine lv_iload S.1 S.2.1 dX0_decipher_26 (lv_at hl 2 rfl) ?_
  refine lv_iload_n S.1 S.2.1 dX0_decipher_28 rfl (lv_at hl 3 rfl) ?_
  refine kv_sP (As := [.int a, .int 1, .int x_4]) (rest := [.int x_3]) S (kc_CI_roundMask l D a 1 x_4  ) (kn_cS S kn_83 kn_84 kn_5 kn_85 kd_X0_roundMask rfl rfl ⟨Nat.le_of_ble_eq_true rfl, Nat.le_of_ble_eq_true rfl⟩) hB rfl hl.1 rfl (Nat.le_of_ble_eq_true rfl) dX0_decipher_29 ⟨Nat.zero_le _, Nat.zero_le _⟩ (fun H locs hB => ?_)
  refine lv_ixor S.1 S.2.1 dX0_decipher_32 ?_
  refine lv_topi (fun x_5 ex_5 => ?_)
  refine lv_istore_n S.1 S.2.1 dX0_decipher_33 rfl hl (by decide) rfl (fun ls hl => ?_)
  have hl : lv_has ls 6 [(2, .int x_5), (3, .int x_4), (5, .int x_3), (4, .int 1), (0, .int a), (1, .int b)] := hl
  refine lv_iinc (k := 3) (v := 0) S.1 S.2.1 dX0_decipher_34 hl rfl (by decide) (by decide) rfl (fun ls hl => ?_)
  have hl : lv_has ls 6 [(4, .int 0), (2, .int x_5), (3, .int x_4), (5, .int x_3), (0, .int a), (1, .int b)] := hl
  refine lv_goto (tgt := 13) S.1 S.2.1 dX0_decipher_37 (by decide) ?_
  refine lv_iload S.1 S.2.1 dX0_decipher_13 (lv_at hl 0 rfl) ?_
  refine lv_if_lt (tgt := 40) S.1 S.2.1 dX0_decipher_15 (by decide) (fun h => absurd h (by decide)) (fun h_15 => ?_)
  refine lv_iload_n S.1 S.2.1 dX0_decipher_18 rfl (lv_at hl 2 rfl) ?_
  refine lv_istore S.1 S.2.1 dX0_decipher_19 hl (by decide) rfl (fun ls hl => ?_)
  have hl : lv_has ls 6 [(5, .int x_4), (4, .int 0), (2, .int x_5), (3, .int x_4), (0, .int a), (1, .int b)] := hl
  refine lv_iload_n S.1 S.2.1 dX0_decipher_21 rfl (lv_at hl 2 rfl) ?_
  refine lv_istore_n S.1 S.2.1 dX0_decipher_22 rfl hl (by decide) rfl (fun ls hl => ?_)
  have hl : lv_has ls 6 [(3, .int x_5), (5, .int x_4), (4, .int 0), (2, .int x_5), (0, .int a), (1, .int b)] := hl
  refine lv_iload S.1 S.2.1 dX0_decipher_23 (lv_at hl 1 rfl) ?_
  refine lv_iload_n S.1 S.2.1 dX0_decipher_25 rfl (lv_at hl 4 rfl) ?_
  refine lv_iload S.1 S.2.1 dX0_decipher_26 (lv_at hl 2 rfl) ?_
  refine lv_iload_n S.1 S.2.1 dX0_decipher_28 rfl (lv_at hl 3 rfl) ?_
  refine kv_sP (As := [.int a, .int 0, .int x_5]) (rest := [.int x_4]) S (kc_CI_roundMask l D a 0 x_5  ) (kn_cS S kn_83 kn_84 kn_5 kn_85 kd_X0_roundMask rfl rfl ⟨Nat.le_of_ble_eq_true rfl, Nat.le_of_ble_eq_true rfl⟩) hB rfl hl.1 rfl (Nat.le_of_ble_eq_true rfl) dX0_decipher_29 ⟨Nat.zero_le _, Nat.zero_le _⟩ (fun H locs hB => ?_)
  refine lv_ixor S.1 S.2.1 dX0_decipher_32 ?_
  refine lv_topi (fun x_6 ex_6 => ?_)
  refine lv_istore_n S.1 S.2.1 dX0_decipher_33 rfl hl (by decide) rfl (fun ls hl => ?_)
  have hl : lv_has ls 6 [(2, .int x_6), (3, .int x_5), (5, .int x_4), (4, .int 0), (0, .int a), (1, .int b)] := hl
  refine lv_iinc (k := 3) (v := (-1)) S.1 S.2.1 dX0_decipher_34 hl rfl (by decide) (by decide) rfl (fun ls hl => ?_)
  have hl : lv_has ls 6 [(4, .int (-1)), (2, .int x_6), (3, .int x_5), (5, .int x_4), (0, .int a), (1, .int b)] := hl
  refine lv_goto (tgt := 13) S.1 S.2.1 dX0_decipher_37 (by decide) ?_
  refine lv_iload S.1 S.2.1 dX0_decipher_13 (lv_at hl 0 rfl) ?_
  refine lv_if_lt (tgt := 40) S.1 S.2.1 dX0_decipher_15 (by decide) (fun h_15 => ?_) (fun h => absurd h (by decide))
  refine lv_iload_n S.1 S.2.1 dX0_decipher_40 rfl (lv_at hl 1 rfl) ?_
  refine lv_bipush (v := 16) S.1 S.2.1 dX0_decipher_41 (by decide) ?_
  refine lv_ishl S.1 S.2.1 dX0_decipher_43 ?_
  refine lv_iload_n S.1 S.2.1 dX0_decipher_44 rfl (lv_at hl 2 rfl) ?_
  refine lv_ior S.1 S.2.1 dX0_decipher_45 ?_
  exact K _ _ _ _ _ _ hB (by subst_vars; rfl) (rfl) dX0_decipher_46

abbrev kr_CI_slotKey : Room := { frames := 1, cells := 0, slots := 0, locals := 22 }
set_option maxRecDepth 100000 in
set_option maxHeartbeats 4000000 in
theorem kc_CI_slotKey (l : Launch) (D : va_G) (a : Int32) (b : Int32) (j : Int32) : kv_I (fun _ => True) l yX0_slotKey wsX0_slotKey kr_CI_slotKey D [] [.int a, .int b, .int j] [] (kp_K a b j) [] := by
  refine kv_openI (cc := cX0_slotKey) (maxL := 6) (rt := .int) (by decide) rfl (rfl) (Nat.le_of_ble_eq_true rfl) ?_
  intro p e s m args below meth c A H locs ls Q S hl hB K
  have hl : lv_has ls 6 [(0, .int a), (1, .int b), (2, .int j)] := hl
  refine lv_iload_n S.1 S.2.1 dX0_slotKey_0 rfl (lv_at hl 0 rfl) ?_
  refine lv_iload_n S.1 S.2.1 dX0_slotKey_1 rfl (lv_at hl 1 rfl) ?_
  refine kv_sP (As := [.int a, .int b]) (rest := []) S (kc_CI_mix l D a b  ) (kn_cS S kn_62 kn_54 kn_5 kn_55 kd_X0_mix rfl rfl ⟨Nat.le_of_ble_eq_true rfl, Nat.le_of_ble_eq_true rfl⟩) hB rfl hl.1 rfl (Nat.le_of_ble_eq_true rfl) dX0_slotKey_2 ⟨Nat.zero_le _, Nat.zero_le _⟩ (fun H locs hB => ?_)
  refine lv_iload_n S.1 S.2.1 dX0_slotKey_5 rfl (lv_at hl 2 rfl) ?_
  refine kv_sP (As := [.int (kp_H a b), .int j]) (rest := []) S (kc_CI_mix l D (kp_H a b) j  ) (kn_cS S kn_62 kn_54 kn_5 kn_55 kd_X0_mix rfl rfl ⟨Nat.le_of_ble_eq_true rfl, Nat.le_of_ble_eq_true rfl⟩) hB rfl hl.1 rfl (Nat.le_of_ble_eq_true rfl) dX0_slotKey_6 ⟨Nat.zero_le _, Nat.zero_le _⟩ (fun H locs hB => ?_)
  refine lv_topi (fun x_1 ex_1 => ?_)
  refine lv_istore_n S.1 S.2.1 dX0_slotKey_9 rfl hl (by decide) rfl (fun ls hl => ?_)
  have hl : lv_has ls 6 [(3, .int x_1), (0, .int a), (1, .int b), (2, .int j)] := hl
  refine lv_iload_n S.1 S.2.1 dX0_slotKey_10 rfl (lv_at hl 0 rfl) ?_
  refine lv_istore S.1 S.2.1 dX0_slotKey_11 hl (by decide) rfl (fun ls hl => ?_)
  have hl : lv_has ls 6 [(4, .int x_1), (3, .int x_1), (0, .int a), (1, .int b), (2, .int j)] := hl
  refine lv_iconst (v := 0) S.1 S.2.1 dX0_slotKey_13 (by decide) ?_
  refine lv_istore S.1 S.2.1 dX0_slotKey_14 hl (by decide) rfl (fun ls hl => ?_)
  have hl : lv_has ls 6 [(5, .int 0), (4, .int x_1), (3, .int x_1), (0, .int a), (1, .int b), (2, .int j)] := hl
  refine lv_iload S.1 S.2.1 dX0_slotKey_16 (lv_at hl 0 rfl) ?_
  refine lv_bipush (v := 7) S.1 S.2.1 dX0_slotKey_18 (by decide) ?_
  refine kv_bge (x := 0) (y := 7) (tgt := 41) S (by omega) (by omega) dX0_slotKey_20 (by decide) (fun h => absurd h (by omega)) (fun h_20 => ?_)
  refine lv_iload_n S.1 S.2.1 dX0_slotKey_23 rfl (lv_at hl 3 rfl) ?_
  refine lv_iload_n S.1 S.2.1 dX0_slotKey_24 rfl (lv_at hl 2 rfl) ?_
  refine kv_sP (As := [.int a, .int x_1]) (rest := []) S (kc_CI_mix l D a x_1  ) (kn_cS S kn_62 kn_54 kn_5 kn_55 kd_X0_mix rfl rfl ⟨Nat.le_of_ble_eq_true rfl, Nat.le_of_ble_eq_true rfl⟩) hB rfl hl.1 rfl (Nat.le_of_ble_eq_true rfl) dX0_slotKey_25 ⟨Nat.zero_le _, Nat.zero_le _⟩ (fun H locs hB => ?_)
  refine lv_topi (fun x_2 ex_2 => ?_)
  refine lv_istore_n S.1 S.2.1 dX0_slotKey_28 rfl hl (by decide) rfl (fun ls hl => ?_)
  have hl : lv_has ls 6 [(3, .int x_2), (5, .int 0), (4, .int x_1), (0, .int a), (1, .int b), (2, .int j)] := hl
  refine lv_iload S.1 S.2.1 dX0_slotKey_29 (lv_at hl 2 rfl) ?_
  refine lv_iload_n S.1 S.2.1 dX0_slotKey_31 rfl (lv_at hl 0 rfl) ?_
  refine lv_ixor S.1 S.2.1 dX0_slotKey_32 ?_
  refine lv_topi (fun x_3 ex_3 => ?_)
  refine lv_istore S.1 S.2.1 dX0_slotKey_33 hl (by decide) rfl (fun ls hl => ?_)
  have hl : lv_has ls 6 [(4, .int x_3), (3, .int x_2), (5, .int 0), (0, .int a), (1, .int b), (2, .int j)] := hl
  refine lv_iinc (k := 2) (v := 1) S.1 S.2.1 dX0_slotKey_35 hl rfl (by decide) (by decide) rfl (fun ls hl => ?_)
  have hl : lv_has ls 6 [(5, .int 1), (4, .int x_3), (3, .int x_2), (0, .int a), (1, .int b), (2, .int j)] := hl
  refine lv_goto (tgt := 16) S.1 S.2.1 dX0_slotKey_38 (by decide) ?_
  refine lv_iload S.1 S.2.1 dX0_slotKey_16 (lv_at hl 0 rfl) ?_
  refine lv_bipush (v := 7) S.1 S.2.1 dX0_slotKey_18 (by decide) ?_
  refine kv_bge (x := 1) (y := 7) (tgt := 41) S (by omega) (by omega) dX0_slotKey_20 (by decide) (fun h => absurd h (by omega)) (fun h_20 => ?_)
  refine lv_iload_n S.1 S.2.1 dX0_slotKey_23 rfl (lv_at hl 3 rfl) ?_
  refine lv_iload_n S.1 S.2.1 dX0_slotKey_24 rfl (lv_at hl 2 rfl) ?_
  refine kv_sP (As := [.int a, .int x_2]) (rest := []) S (kc_CI_mix l D a x_2  ) (kn_cS S kn_62 kn_54 kn_5 kn_55 kd_X0_mix rfl rfl ⟨Nat.le_of_ble_eq_true rfl, Nat.le_of_ble_eq_true rfl⟩) hB rfl hl.1 rfl (Nat.le_of_ble_eq_true rfl) dX0_slotKey_25 ⟨Nat.zero_le _, Nat.zero_le _⟩ (fun H locs hB => ?_)
  refine lv_topi (fun x_4 ex_4 => ?_)
  refine lv_istore_n S.1 S.2.1 dX0_slotKey_28 rfl hl (by decide) rfl (fun ls hl => ?_)
  have hl : lv_has ls 6 [(3, .int x_4), (5, .int 1), (4, .int x_3), (0, .int a), (1, .int b), (2, .int j)] := hl
  refine lv_iload S.1 S.2.1 dX0_slotKey_29 (lv_at hl 2 rfl) ?_
  refine lv_iload_n S.1 S.2.1 dX0_slotKey_31 rfl (lv_at hl 0 rfl) ?_
  refine lv_ixor S.1 S.2.1 dX0_slotKey_32 ?_
  refine lv_topi (fun x_5 ex_5 => ?_)
  refine lv_istore S.1 S.2.1 dX0_slotKey_33 hl (by decide) rfl (fun ls hl => ?_)
  have hl : lv_has ls 6 [(4, .int x_5), (3, .int x_4), (5, .int 1), (0, .int a), (1, .int b), (2, .int j)] := hl
  refine lv_iinc (k := 2) (v := 2) S.1 S.2.1 dX0_slotKey_35 hl rfl (by decide) (by decide) rfl (fun ls hl => ?_)
  have hl : lv_has ls 6 [(5, .int 2), (4, .int x_5), (3, .int x_4), (0, .int a), (1, .int b), (2, .int j)] := hl
  refine lv_goto (tgt := 16) S.1 S.2.1 dX0_slotKey_38 (by decide) ?_
  refine lv_iload S.1 S.2.1 dX0_slotKey_16 (lv_at hl 0 rfl) ?_
  refine lv_bipush (v := 7) S.1 S.2.1 dX0_slotKey_18 (by decide) ?_
  refine kv_bge (x := 2) (y := 7) (tgt := 41) S (by omega) (by omega) dX0_slotKey_20 (by decide) (fun h => absurd h (by omega)) (fun h_20 => ?_)
  refine lv_iload_n S.1 S.2.1 dX0_slotKey_23 rfl (lv_at hl 3 rfl) ?_
  refine lv_iload_n S.1 S.2.1 dX0_slotKey_24 rfl (lv_at hl 2 rfl) ?_
  refine kv_sP (As := [.int a, .int x_4]) (rest := []) S (kc_CI_mix l D a x_4  ) (kn_cS S kn_62 kn_54 kn_5 kn_55 kd_X0_mix rfl rfl ⟨Nat.le_of_ble_eq_true rfl, Nat.le_of_ble_eq_true rfl⟩) hB rfl hl.1 rfl (Nat.le_of_ble_eq_true rfl) dX0_slotKey_25 ⟨Nat.zero_le _, Nat.zero_le _⟩ (fun H locs hB => ?_)
  refine lv_topi (fun x_6 ex_6 => ?_)
  refine lv_istore_n S.1 S.2.1 dX0_slotKey_28 rfl hl (by decide) rfl (fun ls hl => ?_)
  have hl : lv_has ls 6 [(3, .int x_6), (5, .int 2), (4, .int x_5), (0, .int a), (1, .int b), (2, .int j)] := hl
  refine lv_iload S.1 S.2.1 dX0_slotKey_29 (lv_at hl 2 rfl) ?_
  refine lv_iload_n S.1 S.2.1 dX0_slotKey_31 rfl (lv_at hl 0 rfl) ?_
  refine lv_ixor S.1 S.2.1 dX0_slotKey_32 ?_
  refine lv_topi (fun x_7 ex_7 => ?_)
  refine lv_istore S.1 S.2.1 dX0_slotKey_33 hl (by decide) rfl (fun ls hl => ?_)
  have hl : lv_has ls 6 [(4, .int x_7), (3, .int x_6), (5, .int 2), (0, .int a), (1, .int b), (2, .int j)] := hl
  refine lv_iinc (k := 2) (v := 3) S.1 S.2.1 dX0_slotKey_35 hl rfl (by decide) (by decide) rfl (fun ls hl => ?_)
  have hl : lv_has ls 6 [(5, .int 3), (4, .int x_7), (3, .int x_6), (0, .int a), (1, .int b), (2, .int j)] := hl
  refine lv_goto (tgt := 16) S.1 S.2.1 dX0_slotKey_38 (by decide) ?_
  refine lv_iload S.1 S.2.1 dX0_slotKey_16 (lv_at hl 0 rfl) ?_
  refine lv_bipush (v := 7) S.1 S.2.1 dX0_slotKey_18 (by decide) ?_
  refine kv_bge (x := 3) (y := 7) (tgt := 41) S (by omega) (by omega) dX0_slotKey_20 (by decide) (fun h => absurd h (by omega)) (fun h_20 => ?_)
  refine lv_iload_n S.1 S.2.1 dX0_slotKey_23 rfl (lv_at hl 3 rfl) ?_
  refine lv_iload_n S.1 S.2.1 dX0_slotKey_24 rfl (lv_at hl 2 rfl) ?_
  refine kv_sP (As := [.int a, .int x_6]) (rest := []) S (kc_CI_mix l D a x_6  ) (kn_cS S kn_62 kn_54 kn_5 kn_55 kd_X0_mix rfl rfl ⟨Nat.le_of_ble_eq_true rfl, Nat.le_of_ble_eq_true rfl⟩) hB rfl hl.1 rfl (Nat.le_of_ble_eq_true rfl) dX0_slotKey_25 ⟨Nat.zero_le _, Nat.zero_le _⟩ (fun H locs hB => ?_)
  refine lv_topi (fun x_8 ex_8 => ?_)
  refine lv_istore_n S.1 S.2.1 dX0_slotKey_28 rfl hl (by decide) rfl (fun ls hl => ?_)
  have hl : lv_has ls 6 [(3, .int x_8), (5, .int 3), (4, .int x_7), (0, .int a), (1, .int b), (2, .int j)] := hl
  refine lv_iload S.1 S.2.1 dX0_slotKey_29 (lv_at hl 2 rfl) ?_
  refine lv_iload_n S.1 S.2.1 dX0_slotKey_31 rfl (lv_at hl 0 rfl) ?_
  refine lv_ixor S.1 S.2.1 dX0_slotKey_32 ?_
  refine lv_topi (fun x_9 ex_9 => ?_)
  refine lv_istore S.1 S.2.1 dX0_slotKey_33 hl (by decide) rfl (fun ls hl => ?_)
  have hl : lv_has ls 6 [(4, .int x_9), (3, .int x_8), (5, .int 3), (0, .int a), (1, .int b), (2, .int j)] := hl
  refine lv_iinc (k := 2) (v := 4) S.1 S.2.1 dX0_slotKey_35 hl rfl (by decide) (by decide) rfl (fun ls hl => ?_)
  have hl : lv_has ls 6 [(5, .int 4), (4, .int x_9), (3, .int x_8), (0, .int a), (1, .int b), (2, .int j)] := hl
  refine lv_goto (tgt := 16) S.1 S.2.1 dX0_slotKey_38 (by decide) ?_
  refine lv_iload S.1 S.2.1 dX0_slotKey_16 (lv_at hl 0 rfl) ?_
  refine lv_bipush (v := 7) S.1 S.2.1 dX0_slotKey_18 (by decide) ?_
  refine kv_bge (x := 4) (y := 7) (tgt := 41) S (by omega) (by omega) dX0_slotKey_20 (by decide) (fun h => absurd h (by omega)) (fun h_20 => ?_)
  refine lv_iload_n S.1 S.2.1 dX0_slotKey_23 rfl (lv_at hl 3 rfl) ?_
  refine lv_iload_n S.1 S.2.1 dX0_slotKey_24 rfl (lv_at hl 2 rfl) ?_
  refine kv_sP (As := [.int a, .int x_8]) (rest := []) S (kc_CI_mix l D a x_8  ) (kn_cS S kn_62 kn_54 kn_5 kn_55 kd_X0_mix rfl rfl ⟨Nat.le_of_ble_eq_true rfl, Nat.le_of_ble_eq_true rfl⟩) hB rfl hl.1 rfl (Nat.le_of_ble_eq_true rfl) dX0_slotKey_25 ⟨Nat.zero_le _, Nat.zero_le _⟩ (fun H locs hB => ?_)
  refine lv_topi (fun x_10 ex_10 => ?_)
  refine lv_istore_n S.1 S.2.1 dX0_slotKey_28 rfl hl (by decide) rfl (fun ls hl => ?_)
  have hl : lv_has ls 6 [(3, .int x_10), (5, .int 4), (4, .int x_9), (0, .int a), (1, .int b), (2, .int j)] := hl
  refine lv_iload S.1 S.2.1 dX0_slotKey_29 (lv_at hl 2 rfl) ?_
  refine lv_iload_n S.1 S.2.1 dX0_slotKey_31 rfl (lv_at hl 0 rfl) ?_
  refine lv_ixor S.1 S.2.1 dX0_slotKey_32 ?_
  refine lv_topi (fun x_11 ex_11 => ?_)
  refine lv_istore S.1 S.2.1 dX0_slotKey_33 hl (by decide) rfl (fun ls hl => ?_)
  have hl : lv_has ls 6 [(4, .int x_11), (3, .int x_10), (5, .int 4), (0, .int a), (1, .int b), (2, .int j)] := hl
  refine lv_iinc (k := 2) (v := 5) S.1 S.2.1 dX0_slotKey_35 hl rfl (by decide) (by decide) rfl (fun ls hl => ?_)
  have hl : lv_has ls 6 [(5, .int 5), (4, .int x_11), (3, .int x_10), (0, .int a), (1, .int b), (2, .int j)] := hl
  refine lv_goto (tgt := 16) S.1 S.2.1 dX0_slotKey_38 (by decide) ?_
  refine lv_iload S.1 S.2.1 dX0_slotKey_16 (lv_at hl 0 rfl) ?_
  refine lv_bipush (v := 7) S.1 S.2.1 dX0_slotKey_18 (by decide) ?_
  refine kv_bge (x := 5) (y := 7) (tgt := 41) S (by omega) (by omega) dX0_slotKey_20 (by decide) (fun h => absurd h (by omega)) (fun h_20 => ?_)
  refine lv_iload_n S.1 S.2.1 dX0_slotKey_23 rfl (lv_at hl 3 rfl) ?_
  refine lv_iload_n S.1 S.2.1 dX0_slotKey_24 rfl (lv_at hl 2 rfl) ?_
  refine kv_sP (As := [.int a, .int x_10]) (rest := []) S (kc_CI_mix l D a x_10  ) (kn_cS S kn_62 kn_54 kn_5 kn_55 kd_X0_mix rfl rfl ⟨Nat.le_of_ble_eq_true rfl, Nat.le_of_ble_eq_true rfl⟩) hB rfl hl.1 rfl (Nat.le_of_ble_eq_true rfl) dX0_slotKey_25 ⟨Nat.zero_le _, Nat.zero_le _⟩ (fun H locs hB => ?_)
  refine lv_topi (fun x_12 ex_12 => ?_)
  refine lv_istore_n S.1 S.2.1 dX0_slotKey_28 rfl hl (by decide) rfl (fun ls hl => ?_)
  have hl : lv_has ls 6 [(3, .int x_12), (5, .int 5), (4, .int x_11), (0, .int a), (1, .int b), (2, .int j)] := hl
  refine lv_iload S.1 S.2.1 dX0_slotKey_29 (lv_at hl 2 rfl) ?_
  refine lv_iload_n S.1 S.2.1 dX0_slotKey_31 rfl (lv_at hl 0 rfl) ?_
  refine lv_ixor S.1 S.2.1 dX0_slotKey_32 ?_
  refine lv_topi (fun x_13 ex_13 => ?_)
  refine lv_istore S.1 S.2.1 dX0_slotKey_33 hl (by decide) rfl (fun ls hl => ?_)
  have hl : lv_has ls 6 [(4, .int x_13), (3, .int x_12), (5, .int 5), (0, .int a), (1, .int b), (2, .int j)] := hl
  refine lv_iinc (k := 2) (v := 6) S.1 S.2.1 dX0_slotKey_35 hl rfl (by decide) (by decide) rfl (fun ls hl => ?_)
  have hl : lv_has ls 6 [(5, .int 6), (4, .int x_13), (3, .int x_12), (0, .int a), (1, .int b), (2, .int j)] := hl
  refine lv_goto (tgt := 16) S.1 S.2.1 dX0_slotKey_38 (by decide) ?_
  refine lv_iload S.1 S.2.1 dX0_slotKey_16 (lv_at hl 0 rfl) ?_
  refine lv_bipush (v := 7) S.1 S.2.1 dX0_slotKey_18 (by decide) ?_
  refine kv_bge (x := 6) (y := 7) (tgt := 41) S (by omega) (by omega) dX0_slotKey_20 (by decide) (fun h => absurd h (by omega)) (fun h_20 => ?_)
  refine lv_iload_n S.1 S.2.1 dX0_slotKey_23 rfl (lv_at hl 3 rfl) ?_
  refine lv_iload_n S.1 S.2.1 dX0_slotKey_24 rfl (lv_at hl 2 rfl) ?_
  refine kv_sP (As := [.int a, .int x_12]) (rest := []) S (kc_CI_mix l D a x_12  ) (kn_cS S kn_62 kn_54 kn_5 kn_55 kd_X0_mix rfl rfl ⟨Nat.le_of_ble_eq_true rfl, Nat.le_of_ble_eq_true rfl⟩) hB rfl hl.1 rfl (Nat.le_of_ble_eq_true rfl) dX0_slotKey_25 ⟨Nat.zero_le _, Nat.zero_le _⟩ (fun H locs hB => ?_)
  refine lv_topi (fun x_14 ex_14 => ?_)
  refine lv_istore_n S.1 S.2.1 dX0_slotKey_28 rfl hl (by decide) rfl (fun ls hl => ?_)
  have hl : lv_has ls 6 [(3, .int x_14), (5, .int 6), (4, .int x_13), (0, .int a), (1, .int b), (2, .int j)] := hl
  refine lv_iload S.1 S.2.1 dX0_slotKey_29 (lv_at hl 2 rfl) ?_
  refine lv_iload_n S.1 S.2.1 dX0_slotKey_31 rfl (lv_at hl 0 rfl) ?_
  refine lv_ixor S.1 S.2.1 dX0_slotKey_32 ?_
  refine lv_topi (fun x_15 ex_15 => ?_)
  refine lv_istore S.1 S.2.1 dX0_slotKey_33 hl (by decide) rfl (fun ls hl => ?_)
  have hl : lv_has ls 6 [(4, .int x_15), (3, .int x_14), (5, .int 6), (0, .int a), (1, .int b), (2, .int j)] := hl
  refine lv_iinc (k := 2) (v := 7) S.1 S.2.1 dX0_slotKey_35 hl rfl (by decide) (by decide) rfl (fun ls hl => ?_)
  have hl : lv_has ls 6 [(5, .int 7), (4, .int x_15), (3, .int x_14), (0, .int a), (1, .int b), (2, .int j)] := hl
  refine lv_goto (tgt := 16) S.1 S.2.1 dX0_slotKey_38 (by decide) ?_
  refine lv_iload S.1 S.2.1 dX0_slotKey_16 (lv_at hl 0 rfl) ?_
  refine lv_bipush (v := 7) S.1 S.2.1 dX0_slotKey_18 (by decide) ?_
  refine kv_bge (x := 7) (y := 7) (tgt := 41) S (by omega) (by omega) dX0_slotKey_20 (by decide) (fun h_20 => ?_) (fun h => absurd h (by omega))
  refine lv_iload S.1 S.2.1 dX0_slotKey_41 (lv_at hl 1 rfl) ?_
  exact K _ _ _ _ _ _ hB (by subst_vars; rfl) (rfl) dX0_slotKey_43

abbrev kr_CI_digest : Room := { frames := 1, cells := 0, slots := 0, locals := 22 }
set_option maxRecDepth 100000 in
set_option maxHeartbeats 4000000 in
theorem kc_CI_digest (l : Launch) (D : va_G) (a : Int32) (b : Int32) (z : Int32) : kv_I (fun _ => True) l yX0_digest wsX0_digest kr_CI_digest D [] [.int a, .int b, .int z] [] (kp_dg a b z) [] := by
  refine kv_openI (cc := cX0_digest) (maxL := 3) (rt := .int) (by decide) rfl (rfl) (Nat.le_of_ble_eq_true rfl) ?_
  intro p e s m args below meth c A H locs ls Q S hl hB K
  have hl : lv_has ls 3 [(0, .int a), (1, .int b), (2, .int z)] := hl
  refine lv_iload_n S.1 S.2.1 dX0_digest_0 rfl (lv_at hl 0 rfl) ?_
  refine lv_iload_n S.1 S.2.1 dX0_digest_1 rfl (lv_at hl 2 rfl) ?_
  refine kv_sP (As := [.int a, .int z]) (rest := []) S (kc_CI_mix l D a z  ) (kn_cS S kn_62 kn_54 kn_5 kn_55 kd_X0_mix rfl rfl ⟨Nat.le_of_ble_eq_true rfl, Nat.le_of_ble_eq_true rfl⟩) hB rfl hl.1 rfl (Nat.le_of_ble_eq_true rfl) dX0_digest_2 ⟨Nat.zero_le _, Nat.zero_le _⟩ (fun H locs hB => ?_)
  refine lv_iload_n S.1 S.2.1 dX0_digest_5 rfl (lv_at hl 1 rfl) ?_
  refine kv_sP (As := [.int (kp_H a z), .int b]) (rest := []) S (kc_CI_mix l D (kp_H a z) b  ) (kn_cS S kn_62 kn_54 kn_5 kn_55 kd_X0_mix rfl rfl ⟨Nat.le_of_ble_eq_true rfl, Nat.le_of_ble_eq_true rfl⟩) hB rfl hl.1 rfl (Nat.le_of_ble_eq_true rfl) dX0_digest_6 ⟨Nat.zero_le _, Nat.zero_le _⟩ (fun H locs hB => ?_)
  exact K _ _ _ _ _ _ hB (rfl) (rfl) dX0_digest_9

abbrev kr_CI_tweak : Room := { frames := 3, cells := 0, slots := 0, locals := 69 }
set_option maxRecDepth 100000 in
set_option maxHeartbeats 4000000 in
theorem kc_CI_tweak (l : Launch) (D : va_G) (b : Int32) (z : Int32) (n0 : Nat) (hn : n0 < 1000) : kv_I (fun _ => True) l yX0_tweak wsX0_tweak kr_CI_tweak D [] [.int b, .int z, .int (nI n0)] [] (kp_T b z n0) [] := by
  refine kv_openI (cc := cX0_tweak) (maxL := 5) (rt := .int) (by decide) rfl (rfl) (Nat.le_of_ble_eq_true rfl) ?_
  intro p e s m args below meth c A H locs ls Q S hl hB K
  have hl : lv_has ls 5 [(0, .int b), (1, .int z), (2, .int (nI n0))] := hl
  refine lv_iload_n S.1 S.2.1 dX0_tweak_0 rfl (lv_at hl 0 rfl) ?_
  refine lv_iload_n S.1 S.2.1 dX0_tweak_1 rfl (lv_at hl 1 rfl) ?_
  refine kv_sP (As := [.int b, .int z]) (rest := []) S (kc_CI_encipher l D b z  ) (kn_cS S kn_95 kn_80 kn_5 kn_81 kd_X0_encipher rfl rfl ⟨Nat.le_of_ble_eq_true rfl, Nat.le_of_ble_eq_true rfl⟩) hB rfl hl.1 rfl (Nat.le_of_ble_eq_true rfl) dX0_tweak_2 ⟨Nat.zero_le _, Nat.zero_le _⟩ (fun H locs hB => ?_)
  refine lv_topi (fun x_1 ex_1 => ?_)
  refine lv_istore_n S.1 S.2.1 dX0_tweak_5 rfl hl (by decide) rfl (fun ls hl => ?_)
  have hl : lv_has ls 5 [(3, .int x_1), (0, .int b), (1, .int z), (2, .int (nI n0))] := hl
  refine lv_iconst (v := 0) S.1 S.2.1 dX0_tweak_6 (by decide) ?_
  refine lv_istore S.1 S.2.1 dX0_tweak_7 hl (by decide) rfl (fun ls hl => ?_)
  have hl : lv_has ls 5 [(4, .int 0), (3, .int x_1), (0, .int b), (1, .int z), (2, .int (nI n0))] := hl
  have loop9 : ∀ (n : Nat) (j : Nat) (t : Int32) (H : Heap) (locs : List Loc) (ls : Array Slot), (j + n = n0) → (kp_ts n t = kp_T b z n0) → lv_has ls 5 [(4, .int (nI j)), (3, .int t), (2, .int (nI n0)), (0, .int b), (1, .int z)] → kv_B (fun _ => True) D [] A s [] H locs → W p l e kr_CI_tweak s m args below meth c H locs 0 0 Q (F0 m 9 ls []) := by
    intro n
    induction n with
    | zero =>
      intro j t H locs ls hj hT hl hB
      refine lv_iload S.1 S.2.1 dX0_tweak_9 (lv_at hl 0 rfl) ?_
      refine lv_iload_n S.1 S.2.1 dX0_tweak_11 rfl (lv_at hl 2 rfl) ?_
      refine kv_bge (x := j) (y := n0) (tgt := 37) S (by omega) (by omega) dX0_tweak_12 (by decide) (fun h_12 => ?_) (fun h => absurd h (by omega))
      refine lv_iload_n S.1 S.2.1 dX0_tweak_37 rfl (lv_at hl 1 rfl) ?_
      exact K _ _ _ _ _ _ hB (hT) (rfl) dX0_tweak_38
    | succ n ih9 =>
      intro j t H locs ls hj hT hl hB
      refine lv_iload S.1 S.2.1 dX0_tweak_9 (lv_at hl 0 rfl) ?_
      refine lv_iload_n S.1 S.2.1 dX0_tweak_11 rfl (lv_at hl 2 rfl) ?_
      refine kv_bge (x := j) (y := n0) (tgt := 37) S (by omega) (by omega) dX0_tweak_12 (by decide) (fun h => absurd h (by omega)) (fun h_12 => ?_)
      refine lv_iload_n S.1 S.2.1 dX0_tweak_15 rfl (lv_at hl 1 rfl) ?_
      refine lv_iconst (v := 1) S.1 S.2.1 dX0_tweak_16 (by decide) ?_
      refine lv_ishl S.1 S.2.1 dX0_tweak_17 ?_
      refine lv_iload_n S.1 S.2.1 dX0_tweak_18 rfl (lv_at hl 1 rfl) ?_
      refine lv_if_ge (tgt := 28) S.1 S.2.1 dX0_tweak_19 (by decide) (fun h_19 => ?_) (fun h_19 => ?_)
      · skip
        refine lv_iconst (v := 0) S.1 S.2.1 dX0_tweak_28 (by decide) ?_
        refine lv_ixor S.1 S.2.1 dX0_tweak_29 ?_
        refine lv_topi (fun x_2 ex_2 => ?_)
        refine lv_istore_n S.1 S.2.1 dX0_tweak_30 rfl hl (by decide) rfl (fun ls hl => ?_)
        have hl : lv_has ls 5 [(3, .int x_2), (4, .int (nI j)), (2, .int (nI n0)), (0, .int b), (1, .int z)] := hl
        refine lv_iinc (k := 1) (v := nI (j + 1)) S.1 S.2.1 dX0_tweak_31 hl rfl (nI_1 j) (by decide) rfl (fun ls hl => ?_)
        have hl : lv_has ls 5 [(4, .int (nI (j + 1))), (3, .int x_2), (2, .int (nI n0)), (0, .int b), (1, .int z)] := hl
        refine lv_goto (tgt := 9) S.1 S.2.1 dX0_tweak_34 (by decide) ?_
        exact ih9 (j + 1) x_2 _ _ _ (by omega) (by rw [← hT, ex_2]; show _ = kp_ts n (kp_t1 t); first | rw [kp_t1, if_neg (Int32.not_lt.mpr h_19)] | rw [kp_t1, if_pos (Int32.not_le.mp h_19)]) (lv_sub hl [0, 1, 2, 3, 4] rfl) hB
      · skip
        refine lv_sipush (v := 141) S.1 S.2.1 dX0_tweak_22 (by decide) ?_
        refine lv_goto (tgt := 29) S.1 S.2.1 dX0_tweak_25 (by decide) ?_
        refine lv_ixor S.1 S.2.1 dX0_tweak_29 ?_
        refine lv_topi (fun x_3 ex_3 => ?_)
        refine lv_istore_n S.1 S.2.1 dX0_tweak_30 rfl hl (by decide) rfl (fun ls hl => ?_)
        have hl : lv_has ls 5 [(3, .int x_3), (4, .int (nI j)), (2, .int (nI n0)), (0, .int b), (1, .int z)] := hl
        refine lv_iinc (k := 1) (v := nI (j + 1)) S.1 S.2.1 dX0_tweak_31 hl rfl (nI_1 j) (by decide) rfl (fun ls hl => ?_)
        have hl : lv_has ls 5 [(4, .int (nI (j + 1))), (3, .int x_3), (2, .int (nI n0)), (0, .int b), (1, .int z)] := hl
        refine lv_goto (tgt := 9) S.1 S.2.1 dX0_tweak_34 (by decide) ?_
        exact ih9 (j + 1) x_3 _ _ _ (by omega) (by rw [← hT, ex_3]; show _ = kp_ts n (kp_t1 t); first | rw [kp_t1, if_neg (Int32.not_lt.mpr h_19)] | rw [kp_t1, if_pos (Int32.not_le.mp h_19)]) (lv_sub hl [0, 1, 2, 3, 4] rfl) hB
  exact loop9 n0 0 x_1 _ _ _ (by omega) (by rw [ex_1]; rfl) (lv_sub hl [0, 1, 4, 2, 3] rfl) hB

abbrev kr_CI_encipherSectorWord : Room := { frames := 4, cells := 0, slots := 0, locals := 93 }
set_option maxRecDepth 100000 in
set_option maxHeartbeats 4000000 in
theorem kc_CI_encipherSectorWord (l : Launch) (D : va_G) (a : Int32) (b : Int32) (z : Int32) (n0 : Nat) (x : Int32) (hn : n0 < 1000) : kv_I (fun _ => True) l yX0_encipherSectorWord wsX0_encipherSectorWord kr_CI_encipherSectorWord D [] [.int a, .int b, .int z, .int (nI n0), .int x] [] (kp_hide a b z n0 x) [] := by
  refine kv_openI (cc := cX0_encipherSectorWord) (maxL := 6) (rt := .int) (by decide) rfl (rfl) (Nat.le_of_ble_eq_true rfl) ?_
  intro p e s m args below meth c A H locs ls Q S hl hB K
  have hl : lv_has ls 6 [(0, .int a), (1, .int b), (2, .int z), (3, .int (nI n0)), (4, .int x)] := hl
  refine lv_iload_n S.1 S.2.1 dX0_encipherSectorWord_0 rfl (lv_at hl 1 rfl) ?_
  refine lv_iload_n S.1 S.2.1 dX0_encipherSectorWord_1 rfl (lv_at hl 2 rfl) ?_
  refine lv_iload_n S.1 S.2.1 dX0_encipherSectorWord_2 rfl (lv_at hl 3 rfl) ?_
  refine kv_sP (As := [.int b, .int z, .int (nI n0)]) (rest := []) S (kc_CI_tweak l D b z n0  (by omega)) (kn_cS S kn_92 kn_93 kn_5 kn_94 kd_X0_tweak rfl rfl ⟨Nat.le_of_ble_eq_true rfl, Nat.le_of_ble_eq_true rfl⟩) hB rfl hl.1 rfl (Nat.le_of_ble_eq_true rfl) dX0_encipherSectorWord_3 ⟨Nat.zero_le _, Nat.zero_le _⟩ (fun H locs hB => ?_)
  refine lv_topi (fun x_1 ex_1 => ?_)
  refine lv_istore S.1 S.2.1 dX0_encipherSectorWord_6 hl (by decide) rfl (fun ls hl => ?_)
  have hl : lv_has ls 6 [(5, .int x_1), (0, .int a), (1, .int b), (2, .int z), (3, .int (nI n0)), (4, .int x)] := hl
  refine lv_iload_n S.1 S.2.1 dX0_encipherSectorWord_8 rfl (lv_at hl 1 rfl) ?_
  refine lv_iload S.1 S.2.1 dX0_encipherSectorWord_9 (lv_at hl 5 rfl) ?_
  refine lv_iload S.1 S.2.1 dX0_encipherSectorWord_11 (lv_at hl 0 rfl) ?_
  refine lv_ixor S.1 S.2.1 dX0_encipherSectorWord_13 ?_
  refine kv_sP (As := [.int a, .int (x ^^^ x_1)]) (rest := []) S (kc_CI_encipher l D a (x ^^^ x_1)  ) (kn_cS S kn_95 kn_80 kn_5 kn_81 kd_X0_encipher rfl rfl ⟨Nat.le_of_ble_eq_true rfl, Nat.le_of_ble_eq_true rfl⟩) hB rfl hl.1 rfl (Nat.le_of_ble_eq_true rfl) dX0_encipherSectorWord_14 ⟨Nat.zero_le _, Nat.zero_le _⟩ (fun H locs hB => ?_)
  refine lv_iload S.1 S.2.1 dX0_encipherSectorWord_17 (lv_at hl 0 rfl) ?_
  refine lv_ixor S.1 S.2.1 dX0_encipherSectorWord_19 ?_
  exact K _ _ _ _ _ _ hB (by subst_vars; rfl) (rfl) dX0_encipherSectorWord_20

abbrev kr_CI_decipherSectorWord : Room := { frames := 4, cells := 0, slots := 0, locals := 93 }
set_option maxRecDepth 100000 in
set_option maxHeartbeats 4000000 in
theorem kc_CI_decipherSectorWord (l : Launch) (D : va_G) (a : Int32) (b : Int32) (z : Int32) (n0 : Nat) (x : Int32) (hn : n0 < 1000) : kv_I (fun _ => True) l yX0_decipherSectorWord wsX0_decipherSectorWord kr_CI_decipherSectorWord D [] [.int a, .int b, .int z, .int (nI n0), .int x] [] (kp_show a b z n0 x) [] := by
  refine kv_openI (cc := cX0_decipherSectorWord) (maxL := 6) (rt := .int) (by decide) rfl (rfl) (Nat.le_of_ble_eq_true rfl) ?_
  intro p e s m args below meth c A H locs ls Q S hl hB K
  have hl : lv_has ls 6 [(0, .int a), (1, .int b), (2, .int z), (3, .int (nI n0)), (4, .int x)] := hl
  refine lv_iload_n S.1 S.2.1 dX0_decipherSectorWord_0 rfl (lv_at hl 1 rfl) ?_
  refine lv_iload_n S.1 S.2.1 dX0_decipherSectorWord_1 rfl (lv_at hl 2 rfl) ?_
  refine lv_iload_n S.1 S.2.1 dX0_decipherSectorWord_2 rfl (lv_at hl 3 rfl) ?_
  refine kv_sP (As := [.int b, .int z, .int (nI n0)]) (rest := []) S (kc_CI_tweak l D b z n0  (by omega)) (kn_cS S kn_92 kn_93 kn_5 kn_94 kd_X0_tweak rfl rfl ⟨Nat.le_of_ble_eq_true rfl, Nat.le_of_ble_eq_true rfl⟩) hB rfl hl.1 rfl (Nat.le_of_ble_eq_true rfl) dX0_decipherSectorWord_3 ⟨Nat.zero_le _, Nat.zero_le _⟩ (fun H locs hB => ?_)
  refine lv_topi (fun x_1 ex_1 => ?_)
  refine lv_istore S.1 S.2.1 dX0_decipherSectorWord_6 hl (by decide) rfl (fun ls hl => ?_)
  have hl : lv_has ls 6 [(5, .int x_1), (0, .int a), (1, .int b), (2, .int z), (3, .int (nI n0)), (4, .int x)] := hl
  refine lv_iload_n S.1 S.2.1 dX0_decipherSectorWord_8 rfl (lv_at hl 1 rfl) ?_
  refine lv_iload S.1 S.2.1 dX0_decipherSectorWord_9 (lv_at hl 5 rfl) ?_
  refine lv_iload S.1 S.2.1 dX0_decipherSectorWord_11 (lv_at hl 0 rfl) ?_
  refine lv_ixor S.1 S.2.1 dX0_decipherSectorWord_13 ?_
  refine kv_sP (As := [.int a, .int (x ^^^ x_1)]) (rest := []) S (kc_CI_decipher l D a (x ^^^ x_1)  ) (kn_cS S kn_208 kn_158 kn_5 kn_159 kd_X0_decipher rfl rfl ⟨Nat.le_of_ble_eq_true rfl, Nat.le_of_ble_eq_true rfl⟩) hB rfl hl.1 rfl (Nat.le_of_ble_eq_true rfl) dX0_decipherSectorWord_14 ⟨Nat.zero_le _, Nat.zero_le _⟩ (fun H locs hB => ?_)
  refine lv_iload S.1 S.2.1 dX0_decipherSectorWord_17 (lv_at hl 0 rfl) ?_
  refine lv_ixor S.1 S.2.1 dX0_decipherSectorWord_19 ?_
  exact K _ _ _ _ _ _ hB (by subst_vars; rfl) (rfl) dX0_decipherSectorWord_20
end
