section
-- ===== PART A: goes FIRST, ahead of the names: the tables' words, and 'selects' of the private methods out of them =====
/-- a private method of a class that the tables say can be made, by its rows of tables_1 -/
def lw_okq (q : MethodName × Nat) : Prop := (q.1.cls ≠ "java/lang/invoke/MethodHandle" ∧ q.1.cls ≠ "java/lang/invoke/VarHandle") ∧ Cond.instantiable q.1.cls q.2 ∈ tables_1 ∧ Cond.privateMethod q.1 ∈ tables_1 ∧ Cond.instanceMethod q.1 ∈ tables_1
theorem lw_p0 : lw_okq (⟨"StripedKeyVolume", "workOutVolume", "(IIII)V"⟩, 5) := ⟨⟨by decide +kernel, by decide +kernel⟩, List.mem_of_getElem? (i := 9) (by decide +kernel), List.mem_of_getElem? (i := 60) (by decide +kernel), List.mem_of_getElem? (i := 61) (by decide +kernel)⟩
theorem lw_p1 : lw_okq (⟨"StripedKeyVolume", "putVolume", "()Z"⟩, 5) := ⟨⟨by decide +kernel, by decide +kernel⟩, List.mem_of_getElem? (i := 9) (by decide +kernel), List.mem_of_getElem? (i := 110) (by decide +kernel), List.mem_of_getElem? (i := 111) (by decide +kernel)⟩
theorem lw_p2 : lw_okq (⟨"StripedKeyVolume", "powerLost", "()I"⟩, 5) := ⟨⟨by decide +kernel, by decide +kernel⟩, List.mem_of_getElem? (i := 9) (by decide +kernel), List.mem_of_getElem? (i := 119) (by decide +kernel), List.mem_of_getElem? (i := 120) (by decide +kernel)⟩
theorem lw_p3 : lw_okq (⟨"StripedKeyVolume", "holdNoKeys", "(I)V"⟩, 5) := ⟨⟨by decide +kernel, by decide +kernel⟩, List.mem_of_getElem? (i := 9) (by decide +kernel), List.mem_of_getElem? (i := 123) (by decide +kernel), List.mem_of_getElem? (i := 124) (by decide +kernel)⟩
theorem lw_p4 : lw_okq (⟨"StripedKeyVolume$Disk", "finishJournal", "()Z"⟩, 3) := ⟨⟨by decide +kernel, by decide +kernel⟩, List.mem_of_getElem? (i := 17) (by decide +kernel), List.mem_of_getElem? (i := 140) (by decide +kernel), List.mem_of_getElem? (i := 141) (by decide +kernel)⟩
theorem lw_p5 : lw_okq (⟨"StripedKeyVolume$Disk", "clearJournal", "()Z"⟩, 3) := ⟨⟨by decide +kernel, by decide +kernel⟩, List.mem_of_getElem? (i := 17) (by decide +kernel), List.mem_of_getElem? (i := 145) (by decide +kernel), List.mem_of_getElem? (i := 146) (by decide +kernel)⟩
theorem lw_p6 : lw_okq (⟨"StripedKeyVolume", "activeSlots", "()I"⟩, 5) := ⟨⟨by decide +kernel, by decide +kernel⟩, List.mem_of_getElem? (i := 9) (by decide +kernel), List.mem_of_getElem? (i := 149) (by decide +kernel), List.mem_of_getElem? (i := 150) (by decide +kernel)⟩
theorem lw_p7 : lw_okq (⟨"StripedKeyVolume", "isActive", "(I)Z"⟩, 5) := ⟨⟨by decide +kernel, by decide +kernel⟩, List.mem_of_getElem? (i := 9) (by decide +kernel), List.mem_of_getElem? (i := 157) (by decide +kernel), List.mem_of_getElem? (i := 158) (by decide +kernel)⟩
theorem lw_p8 : lw_okq (⟨"StripedKeyVolume", "opensWith", "(II)Z"⟩, 5) := ⟨⟨by decide +kernel, by decide +kernel⟩, List.mem_of_getElem? (i := 9) (by decide +kernel), List.mem_of_getElem? (i := 171) (by decide +kernel), List.mem_of_getElem? (i := 172) (by decide +kernel)⟩
theorem lw_p9 : lw_okq (⟨"StripedKeyVolume", "refusalUnlessOpen", "()I"⟩, 5) := ⟨⟨by decide +kernel, by decide +kernel⟩, List.mem_of_getElem? (i := 9) (by decide +kernel), List.mem_of_getElem? (i := 190) (by decide +kernel), List.mem_of_getElem? (i := 191) (by decide +kernel)⟩
theorem lw_p10 : lw_okq (⟨"StripedKeyVolume", "leastFreeSlot", "()I"⟩, 5) := ⟨⟨by decide +kernel, by decide +kernel⟩, List.mem_of_getElem? (i := 9) (by decide +kernel), List.mem_of_getElem? (i := 194) (by decide +kernel), List.mem_of_getElem? (i := 195) (by decide +kernel)⟩
theorem lw_p11 : lw_okq (⟨"StripedKeyVolume", "fillSlot", "(III)Z"⟩, 5) := ⟨⟨by decide +kernel, by decide +kernel⟩, List.mem_of_getElem? (i := 9) (by decide +kernel), List.mem_of_getElem? (i := 198) (by decide +kernel), List.mem_of_getElem? (i := 199) (by decide +kernel)⟩
theorem lw_p12 : lw_okq (⟨"StripedKeyVolume", "refusalOfSlot", "(I)I"⟩, 5) := ⟨⟨by decide +kernel, by decide +kernel⟩, List.mem_of_getElem? (i := 9) (by decide +kernel), List.mem_of_getElem? (i := 210) (by decide +kernel), List.mem_of_getElem? (i := 211) (by decide +kernel)⟩
theorem lw_p13 : lw_okq (⟨"StripedKeyVolume", "clearSlot", "(I)Z"⟩, 5) := ⟨⟨by decide +kernel, by decide +kernel⟩, List.mem_of_getElem? (i := 9) (by decide +kernel), List.mem_of_getElem? (i := 218) (by decide +kernel), List.mem_of_getElem? (i := 219) (by decide +kernel)⟩
theorem lw_p14 : lw_okq (⟨"StripedKeyVolume", "refusalOfWord", "(II)I"⟩, 5) := ⟨⟨by decide +kernel, by decide +kernel⟩, List.mem_of_getElem? (i := 9) (by decide +kernel), List.mem_of_getElem? (i := 226) (by decide +kernel), List.mem_of_getElem? (i := 227) (by decide +kernel)⟩
theorem lw_p15 : lw_okq (⟨"StripedKeyVolume", "plainWord", "(II)I"⟩, 5) := ⟨⟨by decide +kernel, by decide +kernel⟩, List.mem_of_getElem? (i := 9) (by decide +kernel), List.mem_of_getElem? (i := 230) (by decide +kernel), List.mem_of_getElem? (i := 231) (by decide +kernel)⟩
def lw_privs_1 : List (MethodName × Nat) := [(⟨"StripedKeyVolume", "workOutVolume", "(IIII)V"⟩, 5), (⟨"StripedKeyVolume", "putVolume", "()Z"⟩, 5), (⟨"StripedKeyVolume", "powerLost", "()I"⟩, 5), (⟨"StripedKeyVolume", "holdNoKeys", "(I)V"⟩, 5), (⟨"StripedKeyVolume$Disk", "finishJournal", "()Z"⟩, 3), (⟨"StripedKeyVolume$Disk", "clearJournal", "()Z"⟩, 3), (⟨"StripedKeyVolume", "activeSlots", "()I"⟩, 5), (⟨"StripedKeyVolume", "isActive", "(I)Z"⟩, 5), (⟨"StripedKeyVolume", "opensWith", "(II)Z"⟩, 5), (⟨"StripedKeyVolume", "refusalUnlessOpen", "()I"⟩, 5), (⟨"StripedKeyVolume", "leastFreeSlot", "()I"⟩, 5), (⟨"StripedKeyVolume", "fillSlot", "(III)Z"⟩, 5), (⟨"StripedKeyVolume", "refusalOfSlot", "(I)I"⟩, 5), (⟨"StripedKeyVolume", "clearSlot", "(I)Z"⟩, 5), (⟨"StripedKeyVolume", "refusalOfWord", "(II)I"⟩, 5), (⟨"StripedKeyVolume", "plainWord", "(II)I"⟩, 5)]
theorem lw_r1 : ∀ q ∈ lw_privs_1, lw_okq q := List.forall_mem_cons.mpr ⟨lw_p0, List.forall_mem_cons.mpr ⟨lw_p1, List.forall_mem_cons.mpr ⟨lw_p2, List.forall_mem_cons.mpr ⟨lw_p3, List.forall_mem_cons.mpr ⟨lw_p4, List.forall_mem_cons.mpr ⟨lw_p5, List.forall_mem_cons.mpr ⟨lw_p6, List.forall_mem_cons.mpr ⟨lw_p7, List.forall_mem_cons.mpr ⟨lw_p8, List.forall_mem_cons.mpr ⟨lw_p9, List.forall_mem_cons.mpr ⟨lw_p10, List.forall_mem_cons.mpr ⟨lw_p11, List.forall_mem_cons.mpr ⟨lw_p12, List.forall_mem_cons.mpr ⟨lw_p13, List.forall_mem_cons.mpr ⟨lw_p14, List.forall_mem_cons.mpr ⟨lw_p15, fun _ h => absurd h List.not_mem_nil⟩⟩⟩⟩⟩⟩⟩⟩⟩⟩⟩⟩⟩⟩⟩⟩
theorem lw_p16 : lw_okq (⟨"StripedKeyVolumeModel", "begin", "()V"⟩, 14) := ⟨⟨by decide +kernel, by decide +kernel⟩, List.mem_of_getElem? (i := 256) (by decide +kernel), List.mem_of_getElem? (i := 313) (by decide +kernel), List.mem_of_getElem? (i := 314) (by decide +kernel)⟩
theorem lw_p17 : lw_okq (⟨"StripedKeyVolumeModel", "makeSlot", "(IIII)V"⟩, 14) := ⟨⟨by decide +kernel, by decide +kernel⟩, List.mem_of_getElem? (i := 256) (by decide +kernel), List.mem_of_getElem? (i := 326) (by decide +kernel), List.mem_of_getElem? (i := 327) (by decide +kernel)⟩
theorem lw_p18 : lw_okq (⟨"StripedKeyVolumeModel", "cover", "(I)I"⟩, 14) := ⟨⟨by decide +kernel, by decide +kernel⟩, List.mem_of_getElem? (i := 256) (by decide +kernel), List.mem_of_getElem? (i := 330) (by decide +kernel), List.mem_of_getElem? (i := 331) (by decide +kernel)⟩
theorem lw_p19 : lw_okq (⟨"StripedKeyVolumeModel", "plan", "(II)V"⟩, 14) := ⟨⟨by decide +kernel, by decide +kernel⟩, List.mem_of_getElem? (i := 256) (by decide +kernel), List.mem_of_getElem? (i := 350) (by decide +kernel), List.mem_of_getElem? (i := 351) (by decide +kernel)⟩
theorem lw_p20 : lw_okq (⟨"StripedKeyVolumeModel", "perform", "()Z"⟩, 14) := ⟨⟨by decide +kernel, by decide +kernel⟩, List.mem_of_getElem? (i := 256) (by decide +kernel), List.mem_of_getElem? (i := 355) (by decide +kernel), List.mem_of_getElem? (i := 356) (by decide +kernel)⟩
theorem lw_p21 : lw_okq (⟨"StripedKeyVolumeModel", "planFinish", "()V"⟩, 14) := ⟨⟨by decide +kernel, by decide +kernel⟩, List.mem_of_getElem? (i := 256) (by decide +kernel), List.mem_of_getElem? (i := 363) (by decide +kernel), List.mem_of_getElem? (i := 364) (by decide +kernel)⟩
theorem lw_p22 : lw_okq (⟨"StripedKeyVolumeModel", "planClean", "()V"⟩, 14) := ⟨⟨by decide +kernel, by decide +kernel⟩, List.mem_of_getElem? (i := 256) (by decide +kernel), List.mem_of_getElem? (i := 367) (by decide +kernel), List.mem_of_getElem? (i := 368) (by decide +kernel)⟩
theorem lw_p23 : lw_okq (⟨"StripedKeyVolumeModel", "count", "()I"⟩, 14) := ⟨⟨by decide +kernel, by decide +kernel⟩, List.mem_of_getElem? (i := 256) (by decide +kernel), List.mem_of_getElem? (i := 371) (by decide +kernel), List.mem_of_getElem? (i := 372) (by decide +kernel)⟩
theorem lw_p24 : lw_okq (⟨"StripedKeyVolumeModel", "active", "(I)Z"⟩, 14) := ⟨⟨by decide +kernel, by decide +kernel⟩, List.mem_of_getElem? (i := 256) (by decide +kernel), List.mem_of_getElem? (i := 375) (by decide +kernel), List.mem_of_getElem? (i := 376) (by decide +kernel)⟩
theorem lw_p25 : lw_okq (⟨"StripedKeyVolumeModel", "opens", "(II)Z"⟩, 14) := ⟨⟨by decide +kernel, by decide +kernel⟩, List.mem_of_getElem? (i := 256) (by decide +kernel), List.mem_of_getElem? (i := 383) (by decide +kernel), List.mem_of_getElem? (i := 384) (by decide +kernel)⟩
theorem lw_p26 : lw_okq (⟨"StripedKeyVolumeModel", "closed", "()I"⟩, 14) := ⟨⟨by decide +kernel, by decide +kernel⟩, List.mem_of_getElem? (i := 256) (by decide +kernel), List.mem_of_getElem? (i := 398) (by decide +kernel), List.mem_of_getElem? (i := 399) (by decide +kernel)⟩
theorem lw_p27 : lw_okq (⟨"StripedKeyVolumeModel", "planChange", "(II)V"⟩, 14) := ⟨⟨by decide +kernel, by decide +kernel⟩, List.mem_of_getElem? (i := 256) (by decide +kernel), List.mem_of_getElem? (i := 402) (by decide +kernel), List.mem_of_getElem? (i := 403) (by decide +kernel)⟩
theorem lw_p28 : lw_okq (⟨"StripedKeyVolumeModel", "badSlot", "(I)I"⟩, 14) := ⟨⟨by decide +kernel, by decide +kernel⟩, List.mem_of_getElem? (i := 256) (by decide +kernel), List.mem_of_getElem? (i := 410) (by decide +kernel), List.mem_of_getElem? (i := 411) (by decide +kernel)⟩
theorem lw_p29 : lw_okq (⟨"StripedKeyVolumeModel", "badWord", "(II)I"⟩, 14) := ⟨⟨by decide +kernel, by decide +kernel⟩, List.mem_of_getElem? (i := 256) (by decide +kernel), List.mem_of_getElem? (i := 422) (by decide +kernel), List.mem_of_getElem? (i := 423) (by decide +kernel)⟩
def lw_privs_2 : List (MethodName × Nat) := [(⟨"StripedKeyVolumeModel", "begin", "()V"⟩, 14), (⟨"StripedKeyVolumeModel", "makeSlot", "(IIII)V"⟩, 14), (⟨"StripedKeyVolumeModel", "cover", "(I)I"⟩, 14), (⟨"StripedKeyVolumeModel", "plan", "(II)V"⟩, 14), (⟨"StripedKeyVolumeModel", "perform", "()Z"⟩, 14), (⟨"StripedKeyVolumeModel", "planFinish", "()V"⟩, 14), (⟨"StripedKeyVolumeModel", "planClean", "()V"⟩, 14), (⟨"StripedKeyVolumeModel", "count", "()I"⟩, 14), (⟨"StripedKeyVolumeModel", "active", "(I)Z"⟩, 14), (⟨"StripedKeyVolumeModel", "opens", "(II)Z"⟩, 14), (⟨"StripedKeyVolumeModel", "closed", "()I"⟩, 14), (⟨"StripedKeyVolumeModel", "planChange", "(II)V"⟩, 14), (⟨"StripedKeyVolumeModel", "badSlot", "(I)I"⟩, 14), (⟨"StripedKeyVolumeModel", "badWord", "(II)I"⟩, 14)]
theorem lw_r2 : ∀ q ∈ lw_privs_2, lw_okq q := List.forall_mem_cons.mpr ⟨lw_p16, List.forall_mem_cons.mpr ⟨lw_p17, List.forall_mem_cons.mpr ⟨lw_p18, List.forall_mem_cons.mpr ⟨lw_p19, List.forall_mem_cons.mpr ⟨lw_p20, List.forall_mem_cons.mpr ⟨lw_p21, List.forall_mem_cons.mpr ⟨lw_p22, List.forall_mem_cons.mpr ⟨lw_p23, List.forall_mem_cons.mpr ⟨lw_p24, List.forall_mem_cons.mpr ⟨lw_p25, List.forall_mem_cons.mpr ⟨lw_p26, List.forall_mem_cons.mpr ⟨lw_p27, List.forall_mem_cons.mpr ⟨lw_p28, List.forall_mem_cons.mpr ⟨lw_p29, fun _ h => absurd h List.not_mem_nil⟩⟩⟩⟩⟩⟩⟩⟩⟩⟩⟩⟩⟩⟩
def lw_privs : List (MethodName × Nat) := lw_privs_1 ++ (lw_privs_2)
def lw_tbl : List Cond := k2_sels lw_privs ++ tables_1
theorem lw_privs_ok : ∀ q ∈ lw_privs, lw_okq q := by
  show ∀ q ∈ lw_privs_1 ++ (lw_privs_2), lw_okq q
  exact List.forall_mem_append.mpr ⟨lw_r1, lw_r2⟩
end
section
/-! names: classes, fields, methods, the words of the tables, decode rows: written by program (tools/names.py) out of the Statement and javap -/
def RX0 : String := "StripedKeyVolume$Cipher"
def RX1 : String := "StripedKeyVolume$Disk"
def RX2 : String := "StripedKeyVolume$Slot"
def RX3 : String := "StripedKeyVolume"
def RX4 : String := "StripedKeyVolumeModel"
def RJ6 : String := "java/lang/Integer"
def RJ7 : String := "java/util/Arrays"
def RL : String := "StripedKeyVolumeLaw"
def TX1 : u_T := fun k => match k with
  | 0 => ("StripedKeyVolume$Disk", "words", "[I", true)
  | 1 => ("StripedKeyVolume$Disk", "writesDone", "I", false)
  | _ => ("StripedKeyVolume$Disk", "writesLeft", "I", false)
def tyX1 : Nat → FieldType := fun k => match k with
  | 0 => .array .int
  | 1 => .int
  | _ => .int
theorem nmX1 : ∀ a, a < 3 → ∀ b, b < 3 → a ≠ b → (TX1 a).2.1 ≠ (TX1 b).2.1 := by decide +kernel
theorem tyX1_ok : ∀ k, k < 3 → parseFieldDescriptor (TX1 k).2.2.1 = some (tyX1 k) := by decide +kernel
def TX3 : u_T := fun k => match k with
  | 0 => ("StripedKeyVolume", "disk", "LStripedKeyVolume$Disk;", true)
  | 1 => ("StripedKeyVolume", "fresh", "[I", true)
  | 2 => ("StripedKeyVolume", "device", "I", false)
  | 3 => ("StripedKeyVolume", "dataKey", "I", false)
  | _ => ("StripedKeyVolume", "placeKey", "I", false)
def tyX3 : Nat → FieldType := fun k => match k with
  | 0 => .object "StripedKeyVolume$Disk"
  | 1 => .array .int
  | 2 => .int
  | 3 => .int
  | _ => .int
theorem nmX3 : ∀ a, a < 5 → ∀ b, b < 5 → a ≠ b → (TX3 a).2.1 ≠ (TX3 b).2.1 := by decide +kernel
theorem tyX3_ok : ∀ k, k < 5 → parseFieldDescriptor (TX3 k).2.2.1 = some (tyX3 k) := by decide +kernel
def TX4 : u_T := fun k => match k with
  | 0 => ("StripedKeyVolumeModel", "disk", "[I", false)
  | 1 => ("StripedKeyVolumeModel", "left", "I", false)
  | 2 => ("StripedKeyVolumeModel", "done", "I", false)
  | 3 => ("StripedKeyVolumeModel", "device", "I", false)
  | 4 => ("StripedKeyVolumeModel", "keyA", "I", false)
  | 5 => ("StripedKeyVolumeModel", "keyB", "I", false)
  | 6 => ("StripedKeyVolumeModel", "planned", "I", false)
  | 7 => ("StripedKeyVolumeModel", "places", "[I", false)
  | 8 => ("StripedKeyVolumeModel", "words", "[I", false)
  | 9 => ("StripedKeyVolumeModel", "shadow", "[I", false)
  | 10 => ("StripedKeyVolumeModel", "fresh", "[I", false)
  | 11 => ("StripedKeyVolumeModel", "stripe", "[I", false)
  | 12 => ("StripedKeyVolumeModel", "openA", "I", false)
  | _ => ("StripedKeyVolumeModel", "openB", "I", false)
def tyX4 : Nat → FieldType := fun k => match k with
  | 0 => .array .int
  | 1 => .int
  | 2 => .int
  | 3 => .int
  | 4 => .int
  | 5 => .int
  | 6 => .int
  | 7 => .array .int
  | 8 => .array .int
  | 9 => .array .int
  | 10 => .array .int
  | 11 => .array .int
  | 12 => .int
  | _ => .int
theorem nmX4 : ∀ a, a < 14 → ∀ b, b < 14 → a ≠ b → (TX4 a).2.1 ≠ (TX4 b).2.1 := by decide +kernel
theorem tyX4_ok : ∀ k, k < 14 → parseFieldDescriptor (TX4 k).2.2.1 = some (tyX4 k) := by decide +kernel
abbrev vwCl : List vw_C := [(RX1, TX1, 3), (RX3, TX3, 5), (RX4, TX4, 14)]
def yX3_init : MethodName := ⟨RX3, "<init>", "()V"⟩
def yX1_init : MethodName := ⟨RX1, "<init>", "()V"⟩
def yX3_cut : MethodName := ⟨RX3, "cut", "(I)Z"⟩
def yX3_format : MethodName := ⟨RX3, "format", "(IIII)I"⟩
def yX3_workOutVolume : MethodName := ⟨RX3, "workOutVolume", "(IIII)V"⟩
def yJ7_fill : MethodName := ⟨RJ7, "fill", "([II)V"⟩
def yX0_mix : MethodName := ⟨RX0, "mix", "(II)I"⟩
def yX0_digest : MethodName := ⟨RX0, "digest", "(III)I"⟩
def yX3_slotPlace : MethodName := ⟨RX3, "slotPlace", "(I)I"⟩
def yX2_workOut : MethodName := ⟨RX2, "workOut", "([IIIIII)V"⟩
def yX2_workOutHalf : MethodName := ⟨RX2, "workOutHalf", "([IIIIII)V"⟩
def yX0_slotKey : MethodName := ⟨RX0, "slotKey", "(III)I"⟩
def yX2_mask : MethodName := ⟨RX2, "mask", "(III)I"⟩
def yX0_encipher : MethodName := ⟨RX0, "encipher", "(II)I"⟩
def yX0_roundMask : MethodName := ⟨RX0, "roundMask", "(III)I"⟩
def yX3_sectorPlace : MethodName := ⟨RX3, "sectorPlace", "(I)I"⟩
def yX0_encipherSectorWord : MethodName := ⟨RX0, "encipherSectorWord", "(IIIII)I"⟩
def yX0_tweak : MethodName := ⟨RX0, "tweak", "(III)I"⟩
def yX3_putVolume : MethodName := ⟨RX3, "putVolume", "()Z"⟩
def yX1_put : MethodName := ⟨RX1, "put", "(II)Z"⟩
def yX3_powerLost : MethodName := ⟨RX3, "powerLost", "()I"⟩
def yX3_holdNoKeys : MethodName := ⟨RX3, "holdNoKeys", "(I)V"⟩
def yX3_mount : MethodName := ⟨RX3, "mount", "()I"⟩
def yX1_wordAt : MethodName := ⟨RX1, "wordAt", "(I)I"⟩
def yX1_settleJournal : MethodName := ⟨RX1, "settleJournal", "()Z"⟩
def yX1_finishJournal : MethodName := ⟨RX1, "finishJournal", "()Z"⟩
def yX1_clearJournal : MethodName := ⟨RX1, "clearJournal", "()Z"⟩
def yX3_activeSlots : MethodName := ⟨RX3, "activeSlots", "()I"⟩
def yX3_slots : MethodName := ⟨RX3, "slots", "()I"⟩
def yX3_isActive : MethodName := ⟨RX3, "isActive", "(I)Z"⟩
def yJ6_bitCount : MethodName := ⟨RJ6, "bitCount", "(I)I"⟩
def yX3_unlock : MethodName := ⟨RX3, "unlock", "(I)I"⟩
def yX3_opensWith : MethodName := ⟨RX3, "opensWith", "(II)Z"⟩
def yX2_openHalf : MethodName := ⟨RX2, "openHalf", "(LStripedKeyVolume$Disk;III)I"⟩
def yX0_decipher : MethodName := ⟨RX0, "decipher", "(II)I"⟩
def yX3_lock : MethodName := ⟨RX3, "lock", "()I"⟩
def yX3_add : MethodName := ⟨RX3, "add", "(II)I"⟩
def yX3_refusalUnlessOpen : MethodName := ⟨RX3, "refusalUnlessOpen", "()I"⟩
def yX3_leastFreeSlot : MethodName := ⟨RX3, "leastFreeSlot", "()I"⟩
def yX3_fillSlot : MethodName := ⟨RX3, "fillSlot", "(III)Z"⟩
def yX1_replaceByJournal : MethodName := ⟨RX1, "replaceByJournal", "(II[I)Z"⟩
def yX3_change : MethodName := ⟨RX3, "change", "(III)I"⟩
def yX3_refusalOfSlot : MethodName := ⟨RX3, "refusalOfSlot", "(I)I"⟩
def yX3_revoke : MethodName := ⟨RX3, "revoke", "(I)I"⟩
def yX3_clearSlot : MethodName := ⟨RX3, "clearSlot", "(I)Z"⟩
def yX3_write : MethodName := ⟨RX3, "write", "(III)I"⟩
def yX3_refusalOfWord : MethodName := ⟨RX3, "refusalOfWord", "(II)I"⟩
def yX3_plainWord : MethodName := ⟨RX3, "plainWord", "(II)I"⟩
def yX0_decipherSectorWord : MethodName := ⟨RX0, "decipherSectorWord", "(IIIII)I"⟩
def yX3_read : MethodName := ⟨RX3, "read", "(II)J"⟩
def yX3_state : MethodName := ⟨RX3, "state", "()I"⟩
def yX3_peek : MethodName := ⟨RX3, "peek", "(I)I"⟩
def yX3_writes : MethodName := ⟨RX3, "writes", "()I"⟩
def yX4_init : MethodName := ⟨RX4, "<init>", "()V"⟩
def yX4_cut : MethodName := ⟨RX4, "cut", "(I)Z"⟩
def yX4_format : MethodName := ⟨RX4, "format", "(IIII)I"⟩
def yX4_begin : MethodName := ⟨RX4, "begin", "()V"⟩
def yX4_h : MethodName := ⟨RX4, "h", "(II)I"⟩
def yX4_digest : MethodName := ⟨RX4, "digest", "(III)I"⟩
def yX4_makeSlot : MethodName := ⟨RX4, "makeSlot", "(IIII)V"⟩
def yX4_cover : MethodName := ⟨RX4, "cover", "(I)I"⟩
def yX4_slotKey : MethodName := ⟨RX4, "slotKey", "(III)I"⟩
def yX4_enc : MethodName := ⟨RX4, "enc", "(II)I"⟩
def yX4_round : MethodName := ⟨RX4, "round", "(III)I"⟩
def yX4_hide : MethodName := ⟨RX4, "hide", "(IIIII)I"⟩
def yX4_mask : MethodName := ⟨RX4, "mask", "(III)I"⟩
def yX4_plan : MethodName := ⟨RX4, "plan", "(II)V"⟩
def yX4_perform : MethodName := ⟨RX4, "perform", "()Z"⟩
def yX4_mount : MethodName := ⟨RX4, "mount", "()I"⟩
def yX4_planFinish : MethodName := ⟨RX4, "planFinish", "()V"⟩
def yX4_planClean : MethodName := ⟨RX4, "planClean", "()V"⟩
def yX4_count : MethodName := ⟨RX4, "count", "()I"⟩
def yX4_active : MethodName := ⟨RX4, "active", "(I)Z"⟩
def yX4_unlock : MethodName := ⟨RX4, "unlock", "(I)I"⟩
def yX4_opens : MethodName := ⟨RX4, "opens", "(II)Z"⟩
def yX4_dec : MethodName := ⟨RX4, "dec", "(II)I"⟩
def yX4_lock : MethodName := ⟨RX4, "lock", "()I"⟩
def yX4_add : MethodName := ⟨RX4, "add", "(II)I"⟩
def yX4_closed : MethodName := ⟨RX4, "closed", "()I"⟩
def yX4_planChange : MethodName := ⟨RX4, "planChange", "(II)V"⟩
def yX4_change : MethodName := ⟨RX4, "change", "(III)I"⟩
def yX4_badSlot : MethodName := ⟨RX4, "badSlot", "(I)I"⟩
def yX4_revoke : MethodName := ⟨RX4, "revoke", "(I)I"⟩
def yX4_write : MethodName := ⟨RX4, "write", "(III)I"⟩
def yX4_badWord : MethodName := ⟨RX4, "badWord", "(II)I"⟩
def yX4_show : MethodName := ⟨RX4, "show", "(IIIII)I"⟩
def yX4_read : MethodName := ⟨RX4, "read", "(II)J"⟩
def yX4_state : MethodName := ⟨RX4, "state", "()I"⟩
def yX4_slots : MethodName := ⟨RX4, "slots", "()I"⟩
def yX4_peek : MethodName := ⟨RX4, "peek", "(I)I"⟩
def yX4_writes : MethodName := ⟨RX4, "writes", "()I"⟩
abbrev cX3_init : ByteArray := prog_1_method_1_code
abbrev cX1_init : ByteArray := prog_3_method_1_code
abbrev cX3_cut : ByteArray := prog_1_method_2_code
abbrev cX3_format : ByteArray := prog_1_method_3_code
abbrev cX3_workOutVolume : ByteArray := prog_1_method_21_code
abbrev cJ7_fill : ByteArray := prog_8_method_103_code
abbrev cX0_mix : ByteArray := prog_2_method_2_code
abbrev cX0_digest : ByteArray := prog_2_method_7_code
abbrev cX3_slotPlace : ByteArray := prog_1_method_30_code
abbrev cX2_workOut : ByteArray := prog_4_method_2_code
abbrev cX2_workOutHalf : ByteArray := prog_4_method_3_code
abbrev cX0_slotKey : ByteArray := prog_2_method_6_code
abbrev cX2_mask : ByteArray := prog_4_method_5_code
abbrev cX0_encipher : ByteArray := prog_2_method_3_code
abbrev cX0_roundMask : ByteArray := prog_2_method_5_code
abbrev cX3_sectorPlace : ByteArray := prog_1_method_31_code
abbrev cX0_encipherSectorWord : ByteArray := prog_2_method_8_code
abbrev cX0_tweak : ByteArray := prog_2_method_10_code
abbrev cX3_putVolume : ByteArray := prog_1_method_22_code
abbrev cX1_put : ByteArray := prog_3_method_3_code
abbrev cX3_powerLost : ByteArray := prog_1_method_16_code
abbrev cX3_holdNoKeys : ByteArray := prog_1_method_17_code
abbrev cX3_mount : ByteArray := prog_1_method_4_code
abbrev cX1_wordAt : ByteArray := prog_3_method_2_code
abbrev cX1_settleJournal : ByteArray := prog_3_method_5_code
abbrev cX1_finishJournal : ByteArray := prog_3_method_6_code
abbrev cX1_clearJournal : ByteArray := prog_3_method_7_code
abbrev cX3_activeSlots : ByteArray := prog_1_method_27_code
abbrev cX3_slots : ByteArray := prog_1_method_13_code
abbrev cX3_isActive : ByteArray := prog_1_method_26_code
abbrev cJ6_bitCount : ByteArray := prog_7_method_49_code
abbrev cX3_unlock : ByteArray := prog_1_method_5_code
abbrev cX3_opensWith : ByteArray := prog_1_method_23_code
abbrev cX2_openHalf : ByteArray := prog_4_method_4_code
abbrev cX0_decipher : ByteArray := prog_2_method_4_code
abbrev cX3_lock : ByteArray := prog_1_method_6_code
abbrev cX3_add : ByteArray := prog_1_method_7_code
abbrev cX3_refusalUnlessOpen : ByteArray := prog_1_method_18_code
abbrev cX3_leastFreeSlot : ByteArray := prog_1_method_28_code
abbrev cX3_fillSlot : ByteArray := prog_1_method_24_code
abbrev cX1_replaceByJournal : ByteArray := prog_3_method_4_code
abbrev cX3_change : ByteArray := prog_1_method_8_code
abbrev cX3_refusalOfSlot : ByteArray := prog_1_method_19_code
abbrev cX3_revoke : ByteArray := prog_1_method_9_code
abbrev cX3_clearSlot : ByteArray := prog_1_method_25_code
abbrev cX3_write : ByteArray := prog_1_method_10_code
abbrev cX3_refusalOfWord : ByteArray := prog_1_method_20_code
abbrev cX3_plainWord : ByteArray := prog_1_method_29_code
abbrev cX0_decipherSectorWord : ByteArray := prog_2_method_9_code
abbrev cX3_read : ByteArray := prog_1_method_11_code
abbrev cX3_state : ByteArray := prog_1_method_12_code
abbrev cX3_peek : ByteArray := prog_1_method_14_code
abbrev cX3_writes : ByteArray := prog_1_method_15_code
abbrev cX4_init : ByteArray := prog_6_method_1_code
abbrev cX4_cut : ByteArray := prog_6_method_22_code
abbrev cX4_format : ByteArray := prog_6_method_23_code
abbrev cX4_begin : ByteArray := prog_6_method_16_code
abbrev cX4_h : ByteArray := prog_6_method_2_code
abbrev cX4_digest : ByteArray := prog_6_method_10_code
abbrev cX4_makeSlot : ByteArray := prog_6_method_12_code
abbrev cX4_cover : ByteArray := prog_6_method_11_code
abbrev cX4_slotKey : ByteArray := prog_6_method_6_code
abbrev cX4_enc : ByteArray := prog_6_method_4_code
abbrev cX4_round : ByteArray := prog_6_method_3_code
abbrev cX4_hide : ByteArray := prog_6_method_8_code
abbrev cX4_mask : ByteArray := prog_6_method_7_code
abbrev cX4_plan : ByteArray := prog_6_method_17_code
abbrev cX4_perform : ByteArray := prog_6_method_21_code
abbrev cX4_mount : ByteArray := prog_6_method_24_code
abbrev cX4_planFinish : ByteArray := prog_6_method_19_code
abbrev cX4_planClean : ByteArray := prog_6_method_18_code
abbrev cX4_count : ByteArray := prog_6_method_15_code
abbrev cX4_active : ByteArray := prog_6_method_13_code
abbrev cX4_unlock : ByteArray := prog_6_method_25_code
abbrev cX4_opens : ByteArray := prog_6_method_14_code
abbrev cX4_dec : ByteArray := prog_6_method_5_code
abbrev cX4_lock : ByteArray := prog_6_method_26_code
abbrev cX4_add : ByteArray := prog_6_method_28_code
abbrev cX4_closed : ByteArray := prog_6_method_27_code
abbrev cX4_planChange : ByteArray := prog_6_method_20_code
abbrev cX4_change : ByteArray := prog_6_method_30_code
abbrev cX4_badSlot : ByteArray := prog_6_method_29_code
abbrev cX4_revoke : ByteArray := prog_6_method_31_code
abbrev cX4_write : ByteArray := prog_6_method_33_code
abbrev cX4_badWord : ByteArray := prog_6_method_32_code
abbrev cX4_show : ByteArray := prog_6_method_9_code
abbrev cX4_read : ByteArray := prog_6_method_34_code
abbrev cX4_state : ByteArray := prog_6_method_35_code
abbrev cX4_slots : ByteArray := prog_6_method_36_code
abbrev cX4_peek : ByteArray := prog_6_method_37_code
abbrev cX4_writes : ByteArray := prog_6_method_38_code
def kn_t0 : List Cond := [Cond.initialized RL, Cond.initialized RX3, Cond.initialized RX1, Cond.initialized RX4, Cond.initialized RJ7, Cond.initialized RX0, Cond.initialized RX2, Cond.initialized RJ6, Cond.classLink RL 7 RX3, Cond.instantiable RX3 5, Cond.methodLink RL 9 yX3_init, Cond.instanceMethod yX3_init, Cond.code yX3_init cX3_init 1 none, Cond.methodLink RX3 1 objectInit, Cond.instanceMethod objectInit, Cond.code objectInit ⟨#[0xb1]⟩ 1 none, Cond.classLink RX3 7 RX1, Cond.instantiable RX1 3, Cond.methodLink RX3 9 yX1_init, Cond.instanceMethod yX1_init, Cond.code yX1_init cX1_init 1 none, Cond.methodLink RX1 1 objectInit, Cond.fieldLink RX1 9 "StripedKeyVolume$Disk" "words" "[I", Cond.fieldLink RX1 17 "StripedKeyVolume$Disk" "writesDone" "I", Cond.fieldLink RX1 13 "StripedKeyVolume$Disk" "writesLeft" "I", Cond.laysFinal RX1 "StripedKeyVolume$Disk" "words" "[I", Cond.lays RX1 "StripedKeyVolume$Disk" "writesDone" "I", Cond.lays RX1 "StripedKeyVolume$Disk" "writesLeft" "I", Cond.arrayClass .int, Cond.fieldLink RX3 10 "StripedKeyVolume" "disk" "LStripedKeyVolume$Disk;", Cond.fieldLink RX3 16 "StripedKeyVolume" "fresh" "[I", Cond.fieldLink RX3 20 "StripedKeyVolume" "device" "I"]
def kn_t1 : List Cond := [Cond.fieldLink RX3 85 "StripedKeyVolume" "dataKey" "I", Cond.fieldLink RX3 88 "StripedKeyVolume" "placeKey" "I", Cond.laysFinal RX3 "StripedKeyVolume" "disk" "LStripedKeyVolume$Disk;", Cond.laysFinal RX3 "StripedKeyVolume" "fresh" "[I", Cond.lays RX3 "StripedKeyVolume" "device" "I", Cond.lays RX3 "StripedKeyVolume" "dataKey" "I", Cond.lays RX3 "StripedKeyVolume" "placeKey" "I", Cond.methodLink RL 13 yX3_cut, Cond.instanceMethod yX3_cut, Cond.selects RX3 yX3_cut yX3_cut, Cond.code yX3_cut cX3_cut 2 (some .boolean), Cond.methodLink RL 18 yX3_format, Cond.instanceMethod yX3_format, Cond.selects RX3 yX3_format yX3_format, Cond.code yX3_format cX3_format 5 (some .int), Cond.methodLink RX3 27 yX3_workOutVolume, Cond.instanceMethod yX3_workOutVolume, Cond.code yX3_workOutVolume cX3_workOutVolume 8 none, Cond.methodLink RX3 109 yJ7_fill, Cond.static yJ7_fill, Cond.code yJ7_fill cJ7_fill 4 none, Cond.methodLink RX3 115 yX0_mix, Cond.static yX0_mix, Cond.code yX0_mix cX0_mix 3 (some .int), Cond.constant RX0 7 1517746329, Cond.constant RX0 8 916191069, Cond.constant RX0 9 1406938949, Cond.methodLink RX3 118 yX0_digest, Cond.static yX0_digest, Cond.code yX0_digest cX0_digest 3 (some .int), Cond.methodLink RX0 17 yX0_mix, Cond.methodLink RX3 122 yX3_slotPlace]
def kn_t2 : List Cond := [Cond.static yX3_slotPlace, Cond.code yX3_slotPlace cX3_slotPlace 1 (some .int), Cond.methodLink RX3 125 yX2_workOut, Cond.static yX2_workOut, Cond.code yX2_workOut cX2_workOut 6 none, Cond.methodLink RX2 11 yX0_mix, Cond.methodLink RX2 17 yX2_workOutHalf, Cond.static yX2_workOutHalf, Cond.code yX2_workOutHalf cX2_workOutHalf 11 none, Cond.methodLink RX2 21 yX0_slotKey, Cond.static yX0_slotKey, Cond.code yX0_slotKey cX0_slotKey 6 (some .int), Cond.methodLink RX2 25 yX2_mask, Cond.static yX2_mask, Cond.code yX2_mask cX2_mask 3 (some .int), Cond.methodLink RX2 28 yX0_encipher, Cond.static yX0_encipher, Cond.code yX0_encipher cX0_encipher 6 (some .int), Cond.constant RX0 12 65535, Cond.methodLink RX0 13 yX0_roundMask, Cond.static yX0_roundMask, Cond.code yX0_roundMask cX0_roundMask 3 (some .int), Cond.methodLink RX3 97 yX3_sectorPlace, Cond.static yX3_sectorPlace, Cond.code yX3_sectorPlace cX3_sectorPlace 1 (some .int), Cond.methodLink RX3 91 yX0_encipherSectorWord, Cond.static yX0_encipherSectorWord, Cond.code yX0_encipherSectorWord cX0_encipherSectorWord 6 (some .int), Cond.methodLink RX0 21 yX0_tweak, Cond.static yX0_tweak, Cond.code yX0_tweak cX0_tweak 5 (some .int), Cond.methodLink RX0 24 yX0_encipher]
def kn_t3 : List Cond := [Cond.methodLink RX3 31 yX3_putVolume, Cond.instanceMethod yX3_putVolume, Cond.code yX3_putVolume cX3_putVolume 2 (some .boolean), Cond.methodLink RX3 131 yX1_put, Cond.instanceMethod yX1_put, Cond.selects RX1 yX1_put yX1_put, Cond.code yX1_put cX1_put 3 (some .boolean), Cond.constant RX3 47 1396855379, Cond.methodLink RX3 35 yX3_powerLost, Cond.instanceMethod yX3_powerLost, Cond.code yX3_powerLost cX3_powerLost 1 (some .int), Cond.methodLink RX3 39 yX3_holdNoKeys, Cond.instanceMethod yX3_holdNoKeys, Cond.code yX3_holdNoKeys cX3_holdNoKeys 2 none, Cond.methodLink RL 23 yX3_mount, Cond.instanceMethod yX3_mount, Cond.selects RX3 yX3_mount yX3_mount, Cond.code yX3_mount cX3_mount 1 (some .int), Cond.methodLink RX3 43 yX1_wordAt, Cond.instanceMethod yX1_wordAt, Cond.selects RX1 yX1_wordAt yX1_wordAt, Cond.code yX1_wordAt cX1_wordAt 2 (some .int), Cond.methodLink RX3 48 yX1_settleJournal, Cond.instanceMethod yX1_settleJournal, Cond.selects RX1 yX1_settleJournal yX1_settleJournal, Cond.code yX1_settleJournal cX1_settleJournal 1 (some .boolean), Cond.methodLink RX1 28 yX1_wordAt, Cond.methodLink RX1 24 yX1_finishJournal, Cond.instanceMethod yX1_finishJournal, Cond.code yX1_finishJournal cX1_finishJournal 4 (some .boolean), Cond.methodLink RX1 20 yX1_put, Cond.methodLink RX1 32 yX1_clearJournal]
def kn_t4 : List Cond := [Cond.instanceMethod yX1_clearJournal, Cond.code yX1_clearJournal cX1_clearJournal 2 (some .boolean), Cond.methodLink RX3 51 yX3_activeSlots, Cond.instanceMethod yX3_activeSlots, Cond.code yX3_activeSlots cX3_activeSlots 1 (some .int), Cond.methodLink RX3 138 yX3_slots, Cond.instanceMethod yX3_slots, Cond.selects RX3 yX3_slots yX3_slots, Cond.code yX3_slots cX3_slots 3 (some .int), Cond.methodLink RX3 54 yX3_isActive, Cond.instanceMethod yX3_isActive, Cond.code yX3_isActive cX3_isActive 2 (some .boolean), Cond.methodLink RX3 141 yJ6_bitCount, Cond.static yJ6_bitCount, Cond.code yJ6_bitCount cJ6_bitCount 1 (some .int), Cond.constant RJ6 265 1431655765, Cond.constant RJ6 266 858993459, Cond.constant RJ6 267 252645135, Cond.methodLink RL 28 yX3_unlock, Cond.instanceMethod yX3_unlock, Cond.selects RX3 yX3_unlock yX3_unlock, Cond.code yX3_unlock cX3_unlock 3 (some .int), Cond.methodLink RX3 58 yX3_opensWith, Cond.instanceMethod yX3_opensWith, Cond.code yX3_opensWith cX3_opensWith 6 (some .boolean), Cond.methodLink RX3 134 yX2_openHalf, Cond.static yX2_openHalf, Cond.code yX2_openHalf cX2_openHalf 9 (some .int), Cond.methodLink RX2 31 yX1_wordAt, Cond.methodLink RX2 37 yX0_decipher, Cond.static yX0_decipher, Cond.code yX0_decipher cX0_decipher 6 (some .int)]
def kn_t5 : List Cond := [Cond.methodLink RL 33 yX3_lock, Cond.instanceMethod yX3_lock, Cond.selects RX3 yX3_lock yX3_lock, Cond.code yX3_lock cX3_lock 2 (some .int), Cond.methodLink RL 37 yX3_add, Cond.instanceMethod yX3_add, Cond.selects RX3 yX3_add yX3_add, Cond.code yX3_add cX3_add 5 (some .int), Cond.methodLink RX3 62 yX3_refusalUnlessOpen, Cond.instanceMethod yX3_refusalUnlessOpen, Cond.code yX3_refusalUnlessOpen cX3_refusalUnlessOpen 1 (some .int), Cond.methodLink RX3 65 yX3_leastFreeSlot, Cond.instanceMethod yX3_leastFreeSlot, Cond.code yX3_leastFreeSlot cX3_leastFreeSlot 2 (some .int), Cond.methodLink RX3 68 yX3_fillSlot, Cond.instanceMethod yX3_fillSlot, Cond.code yX3_fillSlot cX3_fillSlot 4 (some .boolean), Cond.methodLink RX3 100 yX1_replaceByJournal, Cond.instanceMethod yX1_replaceByJournal, Cond.selects RX1 yX1_replaceByJournal yX1_replaceByJournal, Cond.code yX1_replaceByJournal cX1_replaceByJournal 5 (some .boolean), Cond.methodLink RL 42 yX3_change, Cond.instanceMethod yX3_change, Cond.selects RX3 yX3_change yX3_change, Cond.code yX3_change cX3_change 5 (some .int), Cond.methodLink RX3 72 yX3_refusalOfSlot, Cond.instanceMethod yX3_refusalOfSlot, Cond.code yX3_refusalOfSlot cX3_refusalOfSlot 3 (some .int), Cond.methodLink RL 47 yX3_revoke, Cond.instanceMethod yX3_revoke, Cond.selects RX3 yX3_revoke yX3_revoke, Cond.code yX3_revoke cX3_revoke 3 (some .int)]
def kn_t6 : List Cond := [Cond.methodLink RX3 75 yX3_clearSlot, Cond.instanceMethod yX3_clearSlot, Cond.code yX3_clearSlot cX3_clearSlot 2 (some .boolean), Cond.methodLink RL 51 yX3_write, Cond.instanceMethod yX3_write, Cond.selects RX3 yX3_write yX3_write, Cond.code yX3_write cX3_write 7 (some .int), Cond.methodLink RX3 78 yX3_refusalOfWord, Cond.instanceMethod yX3_refusalOfWord, Cond.code yX3_refusalOfWord cX3_refusalOfWord 5 (some .int), Cond.methodLink RX3 82 yX3_plainWord, Cond.instanceMethod yX3_plainWord, Cond.code yX3_plainWord cX3_plainWord 4 (some .int), Cond.methodLink RX3 146 yX0_decipherSectorWord, Cond.static yX0_decipherSectorWord, Cond.code yX0_decipherSectorWord cX0_decipherSectorWord 6 (some .int), Cond.methodLink RX0 27 yX0_decipher, Cond.methodLink RL 55 yX3_read, Cond.instanceMethod yX3_read, Cond.selects RX3 yX3_read yX3_read, Cond.code yX3_read cX3_read 4 (some .long), Cond.constantLong RX3 104 4294967295, Cond.methodLink RL 60 yX3_state, Cond.instanceMethod yX3_state, Cond.selects RX3 yX3_state yX3_state, Cond.code yX3_state cX3_state 1 (some .int), Cond.methodLink RL 64 yX3_slots, Cond.methodLink RL 68 yX3_peek, Cond.instanceMethod yX3_peek, Cond.selects RX3 yX3_peek yX3_peek, Cond.code yX3_peek cX3_peek 2 (some .int), Cond.methodLink RL 72 yX3_writes]
def kn_t7 : List Cond := [Cond.instanceMethod yX3_writes, Cond.selects RX3 yX3_writes yX3_writes, Cond.code yX3_writes cX3_writes 1 (some .int), Cond.classLink RL 10 RX4, Cond.instantiable RX4 14, Cond.methodLink RL 12 yX4_init, Cond.instanceMethod yX4_init, Cond.code yX4_init cX4_init 1 none, Cond.methodLink RX4 1 objectInit, Cond.fieldLink RX4 7 "StripedKeyVolumeModel" "disk" "[I", Cond.fieldLink RX4 13 "StripedKeyVolumeModel" "left" "I", Cond.fieldLink RX4 92 "StripedKeyVolumeModel" "done" "I", Cond.fieldLink RX4 89 "StripedKeyVolumeModel" "device" "I", Cond.fieldLink RX4 116 "StripedKeyVolumeModel" "keyA" "I", Cond.fieldLink RX4 119 "StripedKeyVolumeModel" "keyB" "I", Cond.fieldLink RX4 73 "StripedKeyVolumeModel" "planned" "I", Cond.fieldLink RX4 17 "StripedKeyVolumeModel" "places" "[I", Cond.fieldLink RX4 20 "StripedKeyVolumeModel" "words" "[I", Cond.fieldLink RX4 23 "StripedKeyVolumeModel" "shadow" "[I", Cond.fieldLink RX4 26 "StripedKeyVolumeModel" "fresh" "[I", Cond.fieldLink RX4 29 "StripedKeyVolumeModel" "stripe" "[I", Cond.fieldLink RX4 60 "StripedKeyVolumeModel" "openA" "I", Cond.fieldLink RX4 63 "StripedKeyVolumeModel" "openB" "I", Cond.lays RX4 "StripedKeyVolumeModel" "disk" "[I", Cond.lays RX4 "StripedKeyVolumeModel" "left" "I", Cond.lays RX4 "StripedKeyVolumeModel" "done" "I", Cond.lays RX4 "StripedKeyVolumeModel" "device" "I", Cond.lays RX4 "StripedKeyVolumeModel" "keyA" "I", Cond.lays RX4 "StripedKeyVolumeModel" "keyB" "I", Cond.lays RX4 "StripedKeyVolumeModel" "planned" "I", Cond.lays RX4 "StripedKeyVolumeModel" "places" "[I", Cond.lays RX4 "StripedKeyVolumeModel" "words" "[I"]
def kn_t8 : List Cond := [Cond.lays RX4 "StripedKeyVolumeModel" "shadow" "[I", Cond.lays RX4 "StripedKeyVolumeModel" "fresh" "[I", Cond.lays RX4 "StripedKeyVolumeModel" "stripe" "[I", Cond.lays RX4 "StripedKeyVolumeModel" "openA" "I", Cond.lays RX4 "StripedKeyVolumeModel" "openB" "I", Cond.methodLink RL 17 yX4_cut, Cond.instanceMethod yX4_cut, Cond.selects RX4 yX4_cut yX4_cut, Cond.code yX4_cut cX4_cut 2 (some .boolean), Cond.methodLink RL 22 yX4_format, Cond.instanceMethod yX4_format, Cond.selects RX4 yX4_format yX4_format, Cond.code yX4_format cX4_format 7 (some .int), Cond.methodLink RX4 83 yX4_begin, Cond.instanceMethod yX4_begin, Cond.code yX4_begin cX4_begin 2 none, Cond.methodLink RX4 35 yX4_h, Cond.static yX4_h, Cond.code yX4_h cX4_h 3 (some .int), Cond.constant RX4 32 1517746329, Cond.constant RX4 33 916191069, Cond.constant RX4 34 1406938949, Cond.methodLink RX4 70 yX4_digest, Cond.static yX4_digest, Cond.code yX4_digest cX4_digest 4 (some .int), Cond.methodLink RX4 95 yX4_makeSlot, Cond.instanceMethod yX4_makeSlot, Cond.code yX4_makeSlot cX4_makeSlot 8 none, Cond.methodLink RX4 53 yX4_cover, Cond.instanceMethod yX4_cover, Cond.code yX4_cover cX4_cover 3 (some .int), Cond.methodLink RX4 57 yX4_slotKey]
def kn_t9 : List Cond := [Cond.static yX4_slotKey, Cond.code yX4_slotKey cX4_slotKey 6 (some .int), Cond.methodLink RX4 44 yX4_enc, Cond.static yX4_enc, Cond.code yX4_enc cX4_enc 6 (some .int), Cond.constant RX4 39 65535, Cond.methodLink RX4 40 yX4_round, Cond.static yX4_round, Cond.code yX4_round cX4_round 4 (some .int), Cond.methodLink RX4 99 yX4_hide, Cond.static yX4_hide, Cond.code yX4_hide cX4_hide 6 (some .int), Cond.methodLink RX4 47 yX4_mask, Cond.static yX4_mask, Cond.code yX4_mask cX4_mask 5 (some .int), Cond.methodLink RX4 76 yX4_plan, Cond.instanceMethod yX4_plan, Cond.code yX4_plan cX4_plan 3 none, Cond.constant RX4 103 1396855379, Cond.methodLink RX4 104 yX4_perform, Cond.instanceMethod yX4_perform, Cond.code yX4_perform cX4_perform 2 (some .boolean), Cond.methodLink RL 27 yX4_mount, Cond.instanceMethod yX4_mount, Cond.selects RX4 yX4_mount yX4_mount, Cond.code yX4_mount cX4_mount 1 (some .int), Cond.methodLink RX4 86 yX4_planFinish, Cond.instanceMethod yX4_planFinish, Cond.code yX4_planFinish cX4_planFinish 4 none, Cond.methodLink RX4 80 yX4_planClean, Cond.instanceMethod yX4_planClean, Cond.code yX4_planClean cX4_planClean 2 none]
def kn_t10 : List Cond := [Cond.methodLink RX4 108 yX4_count, Cond.instanceMethod yX4_count, Cond.code yX4_count cX4_count 3 (some .int), Cond.methodLink RX4 66 yX4_active, Cond.instanceMethod yX4_active, Cond.code yX4_active cX4_active 2 (some .boolean), Cond.methodLink RL 32 yX4_unlock, Cond.instanceMethod yX4_unlock, Cond.selects RX4 yX4_unlock yX4_unlock, Cond.code yX4_unlock cX4_unlock 3 (some .int), Cond.methodLink RX4 112 yX4_opens, Cond.instanceMethod yX4_opens, Cond.code yX4_opens cX4_opens 6 (some .boolean), Cond.methodLink RX4 50 yX4_dec, Cond.static yX4_dec, Cond.code yX4_dec cX4_dec 6 (some .int), Cond.methodLink RL 36 yX4_lock, Cond.instanceMethod yX4_lock, Cond.selects RX4 yX4_lock yX4_lock, Cond.code yX4_lock cX4_lock 2 (some .int), Cond.methodLink RL 41 yX4_add, Cond.instanceMethod yX4_add, Cond.selects RX4 yX4_add yX4_add, Cond.code yX4_add cX4_add 4 (some .int), Cond.methodLink RX4 122 yX4_closed, Cond.instanceMethod yX4_closed, Cond.code yX4_closed cX4_closed 1 (some .int), Cond.methodLink RX4 125 yX4_planChange, Cond.instanceMethod yX4_planChange, Cond.code yX4_planChange cX4_planChange 4 none, Cond.methodLink RL 46 yX4_change, Cond.instanceMethod yX4_change]
def kn_t11 : List Cond := [Cond.selects RX4 yX4_change yX4_change, Cond.code yX4_change cX4_change 4 (some .int), Cond.methodLink RX4 128 yX4_badSlot, Cond.instanceMethod yX4_badSlot, Cond.code yX4_badSlot cX4_badSlot 2 (some .int), Cond.methodLink RL 50 yX4_revoke, Cond.instanceMethod yX4_revoke, Cond.selects RX4 yX4_revoke yX4_revoke, Cond.code yX4_revoke cX4_revoke 3 (some .int), Cond.methodLink RL 54 yX4_write, Cond.instanceMethod yX4_write, Cond.selects RX4 yX4_write yX4_write, Cond.code yX4_write cX4_write 6 (some .int), Cond.methodLink RX4 131 yX4_badWord, Cond.instanceMethod yX4_badWord, Cond.code yX4_badWord cX4_badWord 3 (some .int), Cond.methodLink RX4 134 yX4_show, Cond.static yX4_show, Cond.code yX4_show cX4_show 6 (some .int), Cond.methodLink RL 59 yX4_read, Cond.instanceMethod yX4_read, Cond.selects RX4 yX4_read yX4_read, Cond.code yX4_read cX4_read 4 (some .long), Cond.constantLong RX4 137 4294967296, Cond.methodLink RL 63 yX4_state, Cond.instanceMethod yX4_state, Cond.selects RX4 yX4_state yX4_state, Cond.code yX4_state cX4_state 1 (some .int), Cond.methodLink RL 67 yX4_slots, Cond.instanceMethod yX4_slots, Cond.selects RX4 yX4_slots yX4_slots, Cond.code yX4_slots cX4_slots 3 (some .int)]
def kn_t12 : List Cond := [Cond.methodLink RL 71 yX4_peek, Cond.instanceMethod yX4_peek, Cond.selects RX4 yX4_peek yX4_peek, Cond.code yX4_peek cX4_peek 2 (some .int), Cond.methodLink RL 75 yX4_writes, Cond.instanceMethod yX4_writes, Cond.selects RX4 yX4_writes yX4_writes, Cond.code yX4_writes cX4_writes 1 (some .int), Cond.selects RX3 yX3_workOutVolume yX3_workOutVolume, Cond.selects RX3 yX3_putVolume yX3_putVolume, Cond.selects RX3 yX3_powerLost yX3_powerLost, Cond.selects RX3 yX3_holdNoKeys yX3_holdNoKeys, Cond.selects RX1 yX1_finishJournal yX1_finishJournal, Cond.selects RX1 yX1_clearJournal yX1_clearJournal, Cond.selects RX3 yX3_activeSlots yX3_activeSlots, Cond.selects RX3 yX3_isActive yX3_isActive, Cond.selects RX3 yX3_opensWith yX3_opensWith, Cond.selects RX3 yX3_refusalUnlessOpen yX3_refusalUnlessOpen, Cond.selects RX3 yX3_leastFreeSlot yX3_leastFreeSlot, Cond.selects RX3 yX3_fillSlot yX3_fillSlot, Cond.selects RX3 yX3_refusalOfSlot yX3_refusalOfSlot, Cond.selects RX3 yX3_clearSlot yX3_clearSlot, Cond.selects RX3 yX3_refusalOfWord yX3_refusalOfWord, Cond.selects RX3 yX3_plainWord yX3_plainWord, Cond.selects RX4 yX4_begin yX4_begin, Cond.selects RX4 yX4_makeSlot yX4_makeSlot, Cond.selects RX4 yX4_cover yX4_cover, Cond.selects RX4 yX4_plan yX4_plan, Cond.selects RX4 yX4_perform yX4_perform, Cond.selects RX4 yX4_planFinish yX4_planFinish, Cond.selects RX4 yX4_planClean yX4_planClean, Cond.selects RX4 yX4_count yX4_count]
def kn_t13 : List Cond := [Cond.selects RX4 yX4_active yX4_active, Cond.selects RX4 yX4_opens yX4_opens, Cond.selects RX4 yX4_closed yX4_closed, Cond.selects RX4 yX4_planChange yX4_planChange, Cond.selects RX4 yX4_badSlot yX4_badSlot, Cond.selects RX4 yX4_badWord yX4_badWord]
def kn_T : List Cond := kn_t0 ++ (kn_t1 ++ (kn_t2 ++ (kn_t3 ++ (kn_t4 ++ (kn_t5 ++ (kn_t6 ++ (kn_t7 ++ (kn_t8 ++ (kn_t9 ++ (kn_t10 ++ (kn_t11 ++ (kn_t12 ++ (kn_t13)))))))))))))
theorem kn_pl {big : List Cond} (ws : List Cond) (ps : List Nat) (hp : ws = ps.filterMap (fun i => big[i]?)) : ∀ w ∈ ws, w ∈ big := by
  intro w hw
  rw [hp] at hw
  obtain ⟨i, -, hi⟩ := List.mem_filterMap.mp hw
  exact List.mem_of_getElem? hi
theorem kn_b0 : ∀ w ∈ kn_t0, w ∈ lw_tbl := kn_pl kn_t0 [30, 31, 32, 33, 34, 35, 36, 37, 38, 39, 40, 41, 42, 43, 44, 45, 46, 47, 48, 49, 50, 51, 52, 53, 55, 57, 59, 61, 64, 65, 66, 67] (by decide +kernel)
theorem kn_g0 : kn_t0.all goodWord = true := by decide +kernel
theorem kn_b1 : ∀ w ∈ kn_t1, w ∈ lw_tbl := kn_pl kn_t1 [68, 69, 70, 72, 74, 76, 78, 81, 82, 83, 84, 85, 86, 87, 88, 89, 91, 92, 93, 94, 95, 96, 97, 98, 99, 100, 101, 102, 103, 104, 105, 106] (by decide +kernel)
theorem kn_g1 : kn_t1.all goodWord = true := by decide +kernel
theorem kn_b2 : ∀ w ∈ kn_t2, w ∈ lw_tbl := kn_pl kn_t2 [107, 108, 109, 110, 111, 112, 113, 114, 115, 116, 117, 118, 119, 120, 121, 122, 123, 124, 125, 126, 127, 128, 129, 130, 131, 132, 133, 134, 135, 136, 137, 138] (by decide +kernel)
theorem kn_g2 : kn_t2.all goodWord = true := by decide +kernel
theorem kn_b3 : ∀ w ∈ kn_t3, w ∈ lw_tbl := kn_pl kn_t3 [139, 141, 142, 143, 144, 145, 146, 147, 148, 150, 151, 152, 154, 155, 156, 157, 158, 159, 160, 161, 162, 163, 164, 165, 166, 167, 168, 169, 171, 172, 173, 174] (by decide +kernel)
theorem kn_g3 : kn_t3.all goodWord = true := by decide +kernel
theorem kn_b4 : ∀ w ∈ kn_t4, w ∈ lw_tbl := kn_pl kn_t4 [176, 177, 178, 180, 181, 182, 183, 184, 185, 186, 188, 189, 190, 191, 192, 193, 194, 195, 196, 197, 198, 199, 200, 202, 203, 204, 205, 206, 207, 208, 209, 210] (by decide +kernel)
theorem kn_g4 : kn_t4.all goodWord = true := by decide +kernel
theorem kn_b5 : ∀ w ∈ kn_t5, w ∈ lw_tbl := kn_pl kn_t5 [211, 212, 213, 214, 215, 216, 217, 218, 219, 221, 222, 223, 225, 226, 227, 229, 230, 231, 232, 233, 234, 235, 236, 237, 238, 239, 241, 242, 243, 244, 245, 246] (by decide +kernel)
theorem kn_g5 : kn_t5.all goodWord = true := by decide +kernel
theorem kn_b6 : ∀ w ∈ kn_t6, w ∈ lw_tbl := kn_pl kn_t6 [247, 249, 250, 251, 252, 253, 254, 255, 257, 258, 259, 261, 262, 263, 264, 265, 266, 267, 268, 269, 270, 271, 272, 273, 274, 275, 276, 277, 278, 279, 280, 281] (by decide +kernel)
theorem kn_g6 : kn_t6.all goodWord = true := by decide +kernel
theorem kn_b7 : ∀ w ∈ kn_t7, w ∈ lw_tbl := kn_pl kn_t7 [282, 283, 284, 285, 286, 287, 288, 289, 290, 291, 292, 293, 294, 295, 296, 297, 298, 299, 300, 301, 302, 303, 304, 305, 307, 309, 311, 313, 315, 317, 319, 321] (by decide +kernel)
theorem kn_g7 : kn_t7.all goodWord = true := by decide +kernel
theorem kn_b8 : ∀ w ∈ kn_t8, w ∈ lw_tbl := kn_pl kn_t8 [323, 325, 327, 329, 331, 334, 335, 336, 337, 338, 339, 340, 341, 342, 344, 345, 346, 347, 348, 349, 350, 351, 352, 353, 354, 355, 357, 358, 359, 361, 362, 363] (by decide +kernel)
theorem kn_g8 : kn_t8.all goodWord = true := by decide +kernel
theorem kn_b9 : ∀ w ∈ kn_t9, w ∈ lw_tbl := kn_pl kn_t9 [364, 365, 366, 367, 368, 369, 370, 371, 372, 373, 374, 375, 376, 377, 378, 379, 381, 382, 383, 384, 386, 387, 388, 389, 390, 391, 392, 394, 395, 396, 398, 399] (by decide +kernel)
theorem kn_g9 : kn_t9.all goodWord = true := by decide +kernel
theorem kn_b10 : ∀ w ∈ kn_t10, w ∈ lw_tbl := kn_pl kn_t10 [400, 402, 403, 404, 406, 407, 408, 409, 410, 411, 412, 414, 415, 416, 417, 418, 419, 420, 421, 422, 423, 424, 425, 426, 427, 429, 430, 431, 433, 434, 435, 436] (by decide +kernel)
theorem kn_g10 : kn_t10.all goodWord = true := by decide +kernel
theorem kn_b11 : ∀ w ∈ kn_t11, w ∈ lw_tbl := kn_pl kn_t11 [437, 438, 439, 441, 442, 443, 444, 445, 446, 447, 448, 449, 450, 451, 453, 454, 455, 456, 457, 458, 459, 460, 461, 462, 463, 464, 465, 466, 467, 468, 469, 470] (by decide +kernel)
theorem kn_g11 : kn_t11.all goodWord = true := by decide +kernel
theorem kn_b12 : ∀ w ∈ kn_t12, w ∈ lw_tbl := kn_pl kn_t12 [471, 472, 473, 474, 475, 476, 477, 478, 0, 1, 2, 3, 4, 5, 6, 7, 8, 9, 10, 11, 12, 13, 14, 15, 16, 17, 18, 19, 20, 21, 22, 23] (by decide +kernel)
theorem kn_g12 : kn_t12.all goodWord = true := by decide +kernel
theorem kn_b13 : ∀ w ∈ kn_t13, w ∈ lw_tbl := kn_pl kn_t13 [24, 25, 26, 27, 28, 29] (by decide +kernel)
theorem kn_g13 : kn_t13.all goodWord = true := by decide +kernel
theorem kn_b : ∀ w ∈ kn_T, w ∈ lw_tbl := fun w h => (List.mem_append.mp h).elim (fun h => kn_b0 w h) (fun h => (List.mem_append.mp h).elim (fun h => kn_b1 w h) (fun h => (List.mem_append.mp h).elim (fun h => kn_b2 w h) (fun h => (List.mem_append.mp h).elim (fun h => kn_b3 w h) (fun h => (List.mem_append.mp h).elim (fun h => kn_b4 w h) (fun h => (List.mem_append.mp h).elim (fun h => kn_b5 w h) (fun h => (List.mem_append.mp h).elim (fun h => kn_b6 w h) (fun h => (List.mem_append.mp h).elim (fun h => kn_b7 w h) (fun h => (List.mem_append.mp h).elim (fun h => kn_b8 w h) (fun h => (List.mem_append.mp h).elim (fun h => kn_b9 w h) (fun h => (List.mem_append.mp h).elim (fun h => kn_b10 w h) (fun h => (List.mem_append.mp h).elim (fun h => kn_b11 w h) (fun h => (List.mem_append.mp h).elim (fun h => kn_b12 w h) (fun h => kn_b13 w h)))))))))))))
theorem kn_g : ∀ w ∈ kn_T, goodWord w = true := fun w h => (List.mem_append.mp h).elim (fun h => List.all_eq_true.mp kn_g0 w h) (fun h => (List.mem_append.mp h).elim (fun h => List.all_eq_true.mp kn_g1 w h) (fun h => (List.mem_append.mp h).elim (fun h => List.all_eq_true.mp kn_g2 w h) (fun h => (List.mem_append.mp h).elim (fun h => List.all_eq_true.mp kn_g3 w h) (fun h => (List.mem_append.mp h).elim (fun h => List.all_eq_true.mp kn_g4 w h) (fun h => (List.mem_append.mp h).elim (fun h => List.all_eq_true.mp kn_g5 w h) (fun h => (List.mem_append.mp h).elim (fun h => List.all_eq_true.mp kn_g6 w h) (fun h => (List.mem_append.mp h).elim (fun h => List.all_eq_true.mp kn_g7 w h) (fun h => (List.mem_append.mp h).elim (fun h => List.all_eq_true.mp kn_g8 w h) (fun h => (List.mem_append.mp h).elim (fun h => List.all_eq_true.mp kn_g9 w h) (fun h => (List.mem_append.mp h).elim (fun h => List.all_eq_true.mp kn_g10 w h) (fun h => (List.mem_append.mp h).elim (fun h => List.all_eq_true.mp kn_g11 w h) (fun h => (List.mem_append.mp h).elim (fun h => List.all_eq_true.mp kn_g12 w h) (fun h => (List.all_eq_true.mp kn_g13 w h))))))))))))))
theorem kn_0 : Cond.initialized RL ∈ kn_T := (List.mem_append_left _ (List.mem_of_getElem? (i := 0) rfl))
theorem kn_1 : Cond.initialized RX3 ∈ kn_T := (List.mem_append_left _ (List.mem_of_getElem? (i := 1) rfl))
theorem kn_2 : Cond.initialized RX1 ∈ kn_T := (List.mem_append_left _ (List.mem_of_getElem? (i := 2) rfl))
theorem kn_3 : Cond.initialized RX4 ∈ kn_T := (List.mem_append_left _ (List.mem_of_getElem? (i := 3) rfl))
theorem kn_4 : Cond.initialized RJ7 ∈ kn_T := (List.mem_append_left _ (List.mem_of_getElem? (i := 4) rfl))
theorem kn_5 : Cond.initialized RX0 ∈ kn_T := (List.mem_append_left _ (List.mem_of_getElem? (i := 5) rfl))
theorem kn_6 : Cond.initialized RX2 ∈ kn_T := (List.mem_append_left _ (List.mem_of_getElem? (i := 6) rfl))
theorem kn_7 : Cond.initialized RJ6 ∈ kn_T := (List.mem_append_left _ (List.mem_of_getElem? (i := 7) rfl))
theorem kn_8 : Cond.classLink RL 7 RX3 ∈ kn_T := (List.mem_append_left _ (List.mem_of_getElem? (i := 8) rfl))
theorem kn_9 : Cond.instantiable RX3 5 ∈ kn_T := (List.mem_append_left _ (List.mem_of_getElem? (i := 9) rfl))
theorem kn_10 : Cond.methodLink RL 9 yX3_init ∈ kn_T := (List.mem_append_left _ (List.mem_of_getElem? (i := 10) rfl))
theorem kn_11 : Cond.instanceMethod yX3_init ∈ kn_T := (List.mem_append_left _ (List.mem_of_getElem? (i := 11) rfl))
theorem kn_12 : Cond.code yX3_init cX3_init 1 none ∈ kn_T := (List.mem_append_left _ (List.mem_of_getElem? (i := 12) rfl))
theorem kn_13 : Cond.methodLink RX3 1 objectInit ∈ kn_T := (List.mem_append_left _ (List.mem_of_getElem? (i := 13) rfl))
theorem kn_14 : Cond.instanceMethod objectInit ∈ kn_T := (List.mem_append_left _ (List.mem_of_getElem? (i := 14) rfl))
theorem kn_15 : Cond.code objectInit ⟨#[0xb1]⟩ 1 none ∈ kn_T := (List.mem_append_left _ (List.mem_of_getElem? (i := 15) rfl))
theorem kn_16 : Cond.classLink RX3 7 RX1 ∈ kn_T := (List.mem_append_left _ (List.mem_of_getElem? (i := 16) rfl))
theorem kn_17 : Cond.instantiable RX1 3 ∈ kn_T := (List.mem_append_left _ (List.mem_of_getElem? (i := 17) rfl))
theorem kn_18 : Cond.methodLink RX3 9 yX1_init ∈ kn_T := (List.mem_append_left _ (List.mem_of_getElem? (i := 18) rfl))
theorem kn_19 : Cond.instanceMethod yX1_init ∈ kn_T := (List.mem_append_left _ (List.mem_of_getElem? (i := 19) rfl))
theorem kn_20 : Cond.code yX1_init cX1_init 1 none ∈ kn_T := (List.mem_append_left _ (List.mem_of_getElem? (i := 20) rfl))
theorem kn_21 : Cond.methodLink RX1 1 objectInit ∈ kn_T := (List.mem_append_left _ (List.mem_of_getElem? (i := 21) rfl))
theorem kn_22 : Cond.fieldLink RX1 9 "StripedKeyVolume$Disk" "words" "[I" ∈ kn_T := (List.mem_append_left _ (List.mem_of_getElem? (i := 22) rfl))
theorem kn_23 : Cond.fieldLink RX1 17 "StripedKeyVolume$Disk" "writesDone" "I" ∈ kn_T := (List.mem_append_left _ (List.mem_of_getElem? (i := 23) rfl))
theorem kn_24 : Cond.fieldLink RX1 13 "StripedKeyVolume$Disk" "writesLeft" "I" ∈ kn_T := (List.mem_append_left _ (List.mem_of_getElem? (i := 24) rfl))
theorem kn_25 : Cond.laysFinal RX1 "StripedKeyVolume$Disk" "words" "[I" ∈ kn_T := (List.mem_append_left _ (List.mem_of_getElem? (i := 25) rfl))
theorem kn_26 : Cond.lays RX1 "StripedKeyVolume$Disk" "writesDone" "I" ∈ kn_T := (List.mem_append_left _ (List.mem_of_getElem? (i := 26) rfl))
theorem kn_27 : Cond.lays RX1 "StripedKeyVolume$Disk" "writesLeft" "I" ∈ kn_T := (List.mem_append_left _ (List.mem_of_getElem? (i := 27) rfl))
theorem kn_28 : Cond.arrayClass .int ∈ kn_T := (List.mem_append_left _ (List.mem_of_getElem? (i := 28) rfl))
theorem kn_29 : Cond.fieldLink RX3 10 "StripedKeyVolume" "disk" "LStripedKeyVolume$Disk;" ∈ kn_T := (List.mem_append_left _ (List.mem_of_getElem? (i := 29) rfl))
theorem kn_30 : Cond.fieldLink RX3 16 "StripedKeyVolume" "fresh" "[I" ∈ kn_T := (List.mem_append_left _ (List.mem_of_getElem? (i := 30) rfl))
theorem kn_31 : Cond.fieldLink RX3 20 "StripedKeyVolume" "device" "I" ∈ kn_T := (List.mem_append_left _ (List.mem_of_getElem? (i := 31) rfl))
theorem kn_32 : Cond.fieldLink RX3 85 "StripedKeyVolume" "dataKey" "I" ∈ kn_T := (List.mem_append_right _ (List.mem_append_left _ (List.mem_of_getElem? (i := 0) rfl)))
theorem kn_33 : Cond.fieldLink RX3 88 "StripedKeyVolume" "placeKey" "I" ∈ kn_T := (List.mem_append_right _ (List.mem_append_left _ (List.mem_of_getElem? (i := 1) rfl)))
theorem kn_34 : Cond.laysFinal RX3 "StripedKeyVolume" "disk" "LStripedKeyVolume$Disk;" ∈ kn_T := (List.mem_append_right _ (List.mem_append_left _ (List.mem_of_getElem? (i := 2) rfl)))
theorem kn_35 : Cond.laysFinal RX3 "StripedKeyVolume" "fresh" "[I" ∈ kn_T := (List.mem_append_right _ (List.mem_append_left _ (List.mem_of_getElem? (i := 3) rfl)))
theorem kn_36 : Cond.lays RX3 "StripedKeyVolume" "device" "I" ∈ kn_T := (List.mem_append_right _ (List.mem_append_left _ (List.mem_of_getElem? (i := 4) rfl)))
theorem kn_37 : Cond.lays RX3 "StripedKeyVolume" "dataKey" "I" ∈ kn_T := (List.mem_append_right _ (List.mem_append_left _ (List.mem_of_getElem? (i := 5) rfl)))
theorem kn_38 : Cond.lays RX3 "StripedKeyVolume" "placeKey" "I" ∈ kn_T := (List.mem_append_right _ (List.mem_append_left _ (List.mem_of_getElem? (i := 6) rfl)))
theorem kn_39 : Cond.methodLink RL 13 yX3_cut ∈ kn_T := (List.mem_append_right _ (List.mem_append_left _ (List.mem_of_getElem? (i := 7) rfl)))
theorem kn_40 : Cond.instanceMethod yX3_cut ∈ kn_T := (List.mem_append_right _ (List.mem_append_left _ (List.mem_of_getElem? (i := 8) rfl)))
theorem kn_41 : Cond.selects RX3 yX3_cut yX3_cut ∈ kn_T := (List.mem_append_right _ (List.mem_append_left _ (List.mem_of_getElem? (i := 9) rfl)))
theorem kn_42 : Cond.code yX3_cut cX3_cut 2 (some .boolean) ∈ kn_T := (List.mem_append_right _ (List.mem_append_left _ (List.mem_of_getElem? (i := 10) rfl)))
theorem kn_43 : Cond.methodLink RL 18 yX3_format ∈ kn_T := (List.mem_append_right _ (List.mem_append_left _ (List.mem_of_getElem? (i := 11) rfl)))
theorem kn_44 : Cond.instanceMethod yX3_format ∈ kn_T := (List.mem_append_right _ (List.mem_append_left _ (List.mem_of_getElem? (i := 12) rfl)))
theorem kn_45 : Cond.selects RX3 yX3_format yX3_format ∈ kn_T := (List.mem_append_right _ (List.mem_append_left _ (List.mem_of_getElem? (i := 13) rfl)))
theorem kn_46 : Cond.code yX3_format cX3_format 5 (some .int) ∈ kn_T := (List.mem_append_right _ (List.mem_append_left _ (List.mem_of_getElem? (i := 14) rfl)))
theorem kn_47 : Cond.methodLink RX3 27 yX3_workOutVolume ∈ kn_T := (List.mem_append_right _ (List.mem_append_left _ (List.mem_of_getElem? (i := 15) rfl)))
theorem kn_48 : Cond.instanceMethod yX3_workOutVolume ∈ kn_T := (List.mem_append_right _ (List.mem_append_left _ (List.mem_of_getElem? (i := 16) rfl)))
theorem kn_49 : Cond.code yX3_workOutVolume cX3_workOutVolume 8 none ∈ kn_T := (List.mem_append_right _ (List.mem_append_left _ (List.mem_of_getElem? (i := 17) rfl)))
theorem kn_50 : Cond.methodLink RX3 109 yJ7_fill ∈ kn_T := (List.mem_append_right _ (List.mem_append_left _ (List.mem_of_getElem? (i := 18) rfl)))
theorem kn_51 : Cond.static yJ7_fill ∈ kn_T := (List.mem_append_right _ (List.mem_append_left _ (List.mem_of_getElem? (i := 19) rfl)))
theorem kn_52 : Cond.code yJ7_fill cJ7_fill 4 none ∈ kn_T := (List.mem_append_right _ (List.mem_append_left _ (List.mem_of_getElem? (i := 20) rfl)))
theorem kn_53 : Cond.methodLink RX3 115 yX0_mix ∈ kn_T := (List.mem_append_right _ (List.mem_append_left _ (List.mem_of_getElem? (i := 21) rfl)))
theorem kn_54 : Cond.static yX0_mix ∈ kn_T := (List.mem_append_right _ (List.mem_append_left _ (List.mem_of_getElem? (i := 22) rfl)))
theorem kn_55 : Cond.code yX0_mix cX0_mix 3 (some .int) ∈ kn_T := (List.mem_append_right _ (List.mem_append_left _ (List.mem_of_getElem? (i := 23) rfl)))
theorem kn_56 : Cond.constant RX0 7 1517746329 ∈ kn_T := (List.mem_append_right _ (List.mem_append_left _ (List.mem_of_getElem? (i := 24) rfl)))
theorem kn_57 : Cond.constant RX0 8 916191069 ∈ kn_T := (List.mem_append_right _ (List.mem_append_left _ (List.mem_of_getElem? (i := 25) rfl)))
theorem kn_58 : Cond.constant RX0 9 1406938949 ∈ kn_T := (List.mem_append_right _ (List.mem_append_left _ (List.mem_of_getElem? (i := 26) rfl)))
theorem kn_59 : Cond.methodLink RX3 118 yX0_digest ∈ kn_T := (List.mem_append_right _ (List.mem_append_left _ (List.mem_of_getElem? (i := 27) rfl)))
theorem kn_60 : Cond.static yX0_digest ∈ kn_T := (List.mem_append_right _ (List.mem_append_left _ (List.mem_of_getElem? (i := 28) rfl)))
theorem kn_61 : Cond.code yX0_digest cX0_digest 3 (some .int) ∈ kn_T := (List.mem_append_right _ (List.mem_append_left _ (List.mem_of_getElem? (i := 29) rfl)))
theorem kn_62 : Cond.methodLink RX0 17 yX0_mix ∈ kn_T := (List.mem_append_right _ (List.mem_append_left _ (List.mem_of_getElem? (i := 30) rfl)))
theorem kn_63 : Cond.methodLink RX3 122 yX3_slotPlace ∈ kn_T := (List.mem_append_right _ (List.mem_append_left _ (List.mem_of_getElem? (i := 31) rfl)))
theorem kn_64 : Cond.static yX3_slotPlace ∈ kn_T := (List.mem_append_right _ (List.mem_append_right _ (List.mem_append_left _ (List.mem_of_getElem? (i := 0) rfl))))
theorem kn_65 : Cond.code yX3_slotPlace cX3_slotPlace 1 (some .int) ∈ kn_T := (List.mem_append_right _ (List.mem_append_right _ (List.mem_append_left _ (List.mem_of_getElem? (i := 1) rfl))))
theorem kn_66 : Cond.methodLink RX3 125 yX2_workOut ∈ kn_T := (List.mem_append_right _ (List.mem_append_right _ (List.mem_append_left _ (List.mem_of_getElem? (i := 2) rfl))))
theorem kn_67 : Cond.static yX2_workOut ∈ kn_T := (List.mem_append_right _ (List.mem_append_right _ (List.mem_append_left _ (List.mem_of_getElem? (i := 3) rfl))))
theorem kn_68 : Cond.code yX2_workOut cX2_workOut 6 none ∈ kn_T := (List.mem_append_right _ (List.mem_append_right _ (List.mem_append_left _ (List.mem_of_getElem? (i := 4) rfl))))
theorem kn_69 : Cond.methodLink RX2 11 yX0_mix ∈ kn_T := (List.mem_append_right _ (List.mem_append_right _ (List.mem_append_left _ (List.mem_of_getElem? (i := 5) rfl))))
theorem kn_70 : Cond.methodLink RX2 17 yX2_workOutHalf ∈ kn_T := (List.mem_append_right _ (List.mem_append_right _ (List.mem_append_left _ (List.mem_of_getElem? (i := 6) rfl))))
theorem kn_71 : Cond.static yX2_workOutHalf ∈ kn_T := (List.mem_append_right _ (List.mem_append_right _ (List.mem_append_left _ (List.mem_of_getElem? (i := 7) rfl))))
theorem kn_72 : Cond.code yX2_workOutHalf cX2_workOutHalf 11 none ∈ kn_T := (List.mem_append_right _ (List.mem_append_right _ (List.mem_append_left _ (List.mem_of_getElem? (i := 8) rfl))))
theorem kn_73 : Cond.methodLink RX2 21 yX0_slotKey ∈ kn_T := (List.mem_append_right _ (List.mem_append_right _ (List.mem_append_left _ (List.mem_of_getElem? (i := 9) rfl))))
theorem kn_74 : Cond.static yX0_slotKey ∈ kn_T := (List.mem_append_right _ (List.mem_append_right _ (List.mem_append_left _ (List.mem_of_getElem? (i := 10) rfl))))
theorem kn_75 : Cond.code yX0_slotKey cX0_slotKey 6 (some .int) ∈ kn_T := (List.mem_append_right _ (List.mem_append_right _ (List.mem_append_left _ (List.mem_of_getElem? (i := 11) rfl))))
theorem kn_76 : Cond.methodLink RX2 25 yX2_mask ∈ kn_T := (List.mem_append_right _ (List.mem_append_right _ (List.mem_append_left _ (List.mem_of_getElem? (i := 12) rfl))))
theorem kn_77 : Cond.static yX2_mask ∈ kn_T := (List.mem_append_right _ (List.mem_append_right _ (List.mem_append_left _ (List.mem_of_getElem? (i := 13) rfl))))
theorem kn_78 : Cond.code yX2_mask cX2_mask 3 (some .int) ∈ kn_T := (List.mem_append_right _ (List.mem_append_right _ (List.mem_append_left _ (List.mem_of_getElem? (i := 14) rfl))))
theorem kn_79 : Cond.methodLink RX2 28 yX0_encipher ∈ kn_T := (List.mem_append_right _ (List.mem_append_right _ (List.mem_append_left _ (List.mem_of_getElem? (i := 15) rfl))))
theorem kn_80 : Cond.static yX0_encipher ∈ kn_T := (List.mem_append_right _ (List.mem_append_right _ (List.mem_append_left _ (List.mem_of_getElem? (i := 16) rfl))))
theorem kn_81 : Cond.code yX0_encipher cX0_encipher 6 (some .int) ∈ kn_T := (List.mem_append_right _ (List.mem_append_right _ (List.mem_append_left _ (List.mem_of_getElem? (i := 17) rfl))))
theorem kn_82 : Cond.constant RX0 12 65535 ∈ kn_T := (List.mem_append_right _ (List.mem_append_right _ (List.mem_append_left _ (List.mem_of_getElem? (i := 18) rfl))))
theorem kn_83 : Cond.methodLink RX0 13 yX0_roundMask ∈ kn_T := (List.mem_append_right _ (List.mem_append_right _ (List.mem_append_left _ (List.mem_of_getElem? (i := 19) rfl))))
theorem kn_84 : Cond.static yX0_roundMask ∈ kn_T := (List.mem_append_right _ (List.mem_append_right _ (List.mem_append_left _ (List.mem_of_getElem? (i := 20) rfl))))
theorem kn_85 : Cond.code yX0_roundMask cX0_roundMask 3 (some .int) ∈ kn_T := (List.mem_append_right _ (List.mem_append_right _ (List.mem_append_left _ (List.mem_of_getElem? (i := 21) rfl))))
theorem kn_86 : Cond.methodLink RX3 97 yX3_sectorPlace ∈ kn_T := (List.mem_append_right _ (List.mem_append_right _ (List.mem_append_left _ (List.mem_of_getElem? (i := 22) rfl))))
theorem kn_87 : Cond.static yX3_sectorPlace ∈ kn_T := (List.mem_append_right _ (List.mem_append_right _ (List.mem_append_left _ (List.mem_of_getElem? (i := 23) rfl))))
theorem kn_88 : Cond.code yX3_sectorPlace cX3_sectorPlace 1 (some .int) ∈ kn_T := (List.mem_append_right _ (List.mem_append_right _ (List.mem_append_left _ (List.mem_of_getElem? (i := 24) rfl))))
theorem kn_89 : Cond.methodLink RX3 91 yX0_encipherSectorWord ∈ kn_T := (List.mem_append_right _ (List.mem_append_right _ (List.mem_append_left _ (List.mem_of_getElem? (i := 25) rfl))))
theorem kn_90 : Cond.static yX0_encipherSectorWord ∈ kn_T := (List.mem_append_right _ (List.mem_append_right _ (List.mem_append_left _ (List.mem_of_getElem? (i := 26) rfl))))
theorem kn_91 : Cond.code yX0_encipherSectorWord cX0_encipherSectorWord 6 (some .int) ∈ kn_T := (List.mem_append_right _ (List.mem_append_right _ (List.mem_append_left _ (List.mem_of_getElem? (i := 27) rfl))))
theorem kn_92 : Cond.methodLink RX0 21 yX0_tweak ∈ kn_T := (List.mem_append_right _ (List.mem_append_right _ (List.mem_append_left _ (List.mem_of_getElem? (i := 28) rfl))))
theorem kn_93 : Cond.static yX0_tweak ∈ kn_T := (List.mem_append_right _ (List.mem_append_right _ (List.mem_append_left _ (List.mem_of_getElem? (i := 29) rfl))))
theorem kn_94 : Cond.code yX0_tweak cX0_tweak 5 (some .int) ∈ kn_T := (List.mem_append_right _ (List.mem_append_right _ (List.mem_append_left _ (List.mem_of_getElem? (i := 30) rfl))))
theorem kn_95 : Cond.methodLink RX0 24 yX0_encipher ∈ kn_T := (List.mem_append_right _ (List.mem_append_right _ (List.mem_append_left _ (List.mem_of_getElem? (i := 31) rfl))))
theorem kn_96 : Cond.methodLink RX3 31 yX3_putVolume ∈ kn_T := (List.mem_append_right _ (List.mem_append_right _ (List.mem_append_right _ (List.mem_append_left _ (List.mem_of_getElem? (i := 0) rfl)))))
theorem kn_97 : Cond.instanceMethod yX3_putVolume ∈ kn_T := (List.mem_append_right _ (List.mem_append_right _ (List.mem_append_right _ (List.mem_append_left _ (List.mem_of_getElem? (i := 1) rfl)))))
theorem kn_98 : Cond.code yX3_putVolume cX3_putVolume 2 (some .boolean) ∈ kn_T := (List.mem_append_right _ (List.mem_append_right _ (List.mem_append_right _ (List.mem_append_left _ (List.mem_of_getElem? (i := 2) rfl)))))
theorem kn_99 : Cond.methodLink RX3 131 yX1_put ∈ kn_T := (List.mem_append_right _ (List.mem_append_right _ (List.mem_append_right _ (List.mem_append_left _ (List.mem_of_getElem? (i := 3) rfl)))))
theorem kn_100 : Cond.instanceMethod yX1_put ∈ kn_T := (List.mem_append_right _ (List.mem_append_right _ (List.mem_append_right _ (List.mem_append_left _ (List.mem_of_getElem? (i := 4) rfl)))))
theorem kn_101 : Cond.selects RX1 yX1_put yX1_put ∈ kn_T := (List.mem_append_right _ (List.mem_append_right _ (List.mem_append_right _ (List.mem_append_left _ (List.mem_of_getElem? (i := 5) rfl)))))
theorem kn_102 : Cond.code yX1_put cX1_put 3 (some .boolean) ∈ kn_T := (List.mem_append_right _ (List.mem_append_right _ (List.mem_append_right _ (List.mem_append_left _ (List.mem_of_getElem? (i := 6) rfl)))))
theorem kn_103 : Cond.constant RX3 47 1396855379 ∈ kn_T := (List.mem_append_right _ (List.mem_append_right _ (List.mem_append_right _ (List.mem_append_left _ (List.mem_of_getElem? (i := 7) rfl)))))
theorem kn_104 : Cond.methodLink RX3 35 yX3_powerLost ∈ kn_T := (List.mem_append_right _ (List.mem_append_right _ (List.mem_append_right _ (List.mem_append_left _ (List.mem_of_getElem? (i := 8) rfl)))))
theorem kn_105 : Cond.instanceMethod yX3_powerLost ∈ kn_T := (List.mem_append_right _ (List.mem_append_right _ (List.mem_append_right _ (List.mem_append_left _ (List.mem_of_getElem? (i := 9) rfl)))))
theorem kn_106 : Cond.code yX3_powerLost cX3_powerLost 1 (some .int) ∈ kn_T := (List.mem_append_right _ (List.mem_append_right _ (List.mem_append_right _ (List.mem_append_left _ (List.mem_of_getElem? (i := 10) rfl)))))
theorem kn_107 : Cond.methodLink RX3 39 yX3_holdNoKeys ∈ kn_T := (List.mem_append_right _ (List.mem_append_right _ (List.mem_append_right _ (List.mem_append_left _ (List.mem_of_getElem? (i := 11) rfl)))))
theorem kn_108 : Cond.instanceMethod yX3_holdNoKeys ∈ kn_T := (List.mem_append_right _ (List.mem_append_right _ (List.mem_append_right _ (List.mem_append_left _ (List.mem_of_getElem? (i := 12) rfl)))))
theorem kn_109 : Cond.code yX3_holdNoKeys cX3_holdNoKeys 2 none ∈ kn_T := (List.mem_append_right _ (List.mem_append_right _ (List.mem_append_right _ (List.mem_append_left _ (List.mem_of_getElem? (i := 13) rfl)))))
theorem kn_110 : Cond.methodLink RL 23 yX3_mount ∈ kn_T := (List.mem_append_right _ (List.mem_append_right _ (List.mem_append_right _ (List.mem_append_left _ (List.mem_of_getElem? (i := 14) rfl)))))
theorem kn_111 : Cond.instanceMethod yX3_mount ∈ kn_T := (List.mem_append_right _ (List.mem_append_right _ (List.mem_append_right _ (List.mem_append_left _ (List.mem_of_getElem? (i := 15) rfl)))))
theorem kn_112 : Cond.selects RX3 yX3_mount yX3_mount ∈ kn_T := (List.mem_append_right _ (List.mem_append_right _ (List.mem_append_right _ (List.mem_append_left _ (List.mem_of_getElem? (i := 16) rfl)))))
theorem kn_113 : Cond.code yX3_mount cX3_mount 1 (some .int) ∈ kn_T := (List.mem_append_right _ (List.mem_append_right _ (List.mem_append_right _ (List.mem_append_left _ (List.mem_of_getElem? (i := 17) rfl)))))
theorem kn_114 : Cond.methodLink RX3 43 yX1_wordAt ∈ kn_T := (List.mem_append_right _ (List.mem_append_right _ (List.mem_append_right _ (List.mem_append_left _ (List.mem_of_getElem? (i := 18) rfl)))))
theorem kn_115 : Cond.instanceMethod yX1_wordAt ∈ kn_T := (List.mem_append_right _ (List.mem_append_right _ (List.mem_append_right _ (List.mem_append_left _ (List.mem_of_getElem? (i := 19) rfl)))))
theorem kn_116 : Cond.selects RX1 yX1_wordAt yX1_wordAt ∈ kn_T := (List.mem_append_right _ (List.mem_append_right _ (List.mem_append_right _ (List.mem_append_left _ (List.mem_of_getElem? (i := 20) rfl)))))
theorem kn_117 : Cond.code yX1_wordAt cX1_wordAt 2 (some .int) ∈ kn_T := (List.mem_append_right _ (List.mem_append_right _ (List.mem_append_right _ (List.mem_append_left _ (List.mem_of_getElem? (i := 21) rfl)))))
theorem kn_118 : Cond.methodLink RX3 48 yX1_settleJournal ∈ kn_T := (List.mem_append_right _ (List.mem_append_right _ (List.mem_append_right _ (List.mem_append_left _ (List.mem_of_getElem? (i := 22) rfl)))))
theorem kn_119 : Cond.instanceMethod yX1_settleJournal ∈ kn_T := (List.mem_append_right _ (List.mem_append_right _ (List.mem_append_right _ (List.mem_append_left _ (List.mem_of_getElem? (i := 23) rfl)))))
theorem kn_120 : Cond.selects RX1 yX1_settleJournal yX1_settleJournal ∈ kn_T := (List.mem_append_right _ (List.mem_append_right _ (List.mem_append_right _ (List.mem_append_left _ (List.mem_of_getElem? (i := 24) rfl)))))
theorem kn_121 : Cond.code yX1_settleJournal cX1_settleJournal 1 (some .boolean) ∈ kn_T := (List.mem_append_right _ (List.mem_append_right _ (List.mem_append_right _ (List.mem_append_left _ (List.mem_of_getElem? (i := 25) rfl)))))
theorem kn_122 : Cond.methodLink RX1 28 yX1_wordAt ∈ kn_T := (List.mem_append_right _ (List.mem_append_right _ (List.mem_append_right _ (List.mem_append_left _ (List.mem_of_getElem? (i := 26) rfl)))))
theorem kn_123 : Cond.methodLink RX1 24 yX1_finishJournal ∈ kn_T := (List.mem_append_right _ (List.mem_append_right _ (List.mem_append_right _ (List.mem_append_left _ (List.mem_of_getElem? (i := 27) rfl)))))
theorem kn_124 : Cond.instanceMethod yX1_finishJournal ∈ kn_T := (List.mem_append_right _ (List.mem_append_right _ (List.mem_append_right _ (List.mem_append_left _ (List.mem_of_getElem? (i := 28) rfl)))))
theorem kn_125 : Cond.code yX1_finishJournal cX1_finishJournal 4 (some .boolean) ∈ kn_T := (List.mem_append_right _ (List.mem_append_right _ (List.mem_append_right _ (List.mem_append_left _ (List.mem_of_getElem? (i := 29) rfl)))))
theorem kn_126 : Cond.methodLink RX1 20 yX1_put ∈ kn_T := (List.mem_append_right _ (List.mem_append_right _ (List.mem_append_right _ (List.mem_append_left _ (List.mem_of_getElem? (i := 30) rfl)))))
theorem kn_127 : Cond.methodLink RX1 32 yX1_clearJournal ∈ kn_T := (List.mem_append_right _ (List.mem_append_right _ (List.mem_append_right _ (List.mem_append_left _ (List.mem_of_getElem? (i := 31) rfl)))))
theorem kn_128 : Cond.instanceMethod yX1_clearJournal ∈ kn_T := (List.mem_append_right _ (List.mem_append_right _ (List.mem_append_right _ (List.mem_append_right _ (List.mem_append_left _ (List.mem_of_getElem? (i := 0) rfl))))))
theorem kn_129 : Cond.code yX1_clearJournal cX1_clearJournal 2 (some .boolean) ∈ kn_T := (List.mem_append_right _ (List.mem_append_right _ (List.mem_append_right _ (List.mem_append_right _ (List.mem_append_left _ (List.mem_of_getElem? (i := 1) rfl))))))
theorem kn_130 : Cond.methodLink RX3 51 yX3_activeSlots ∈ kn_T := (List.mem_append_right _ (List.mem_append_right _ (List.mem_append_right _ (List.mem_append_right _ (List.mem_append_left _ (List.mem_of_getElem? (i := 2) rfl))))))
theorem kn_131 : Cond.instanceMethod yX3_activeSlots ∈ kn_T := (List.mem_append_right _ (List.mem_append_right _ (List.mem_append_right _ (List.mem_append_right _ (List.mem_append_left _ (List.mem_of_getElem? (i := 3) rfl))))))
theorem kn_132 : Cond.code yX3_activeSlots cX3_activeSlots 1 (some .int) ∈ kn_T := (List.mem_append_right _ (List.mem_append_right _ (List.mem_append_right _ (List.mem_append_right _ (List.mem_append_left _ (List.mem_of_getElem? (i := 4) rfl))))))
theorem kn_133 : Cond.methodLink RX3 138 yX3_slots ∈ kn_T := (List.mem_append_right _ (List.mem_append_right _ (List.mem_append_right _ (List.mem_append_right _ (List.mem_append_left _ (List.mem_of_getElem? (i := 5) rfl))))))
theorem kn_134 : Cond.instanceMethod yX3_slots ∈ kn_T := (List.mem_append_right _ (List.mem_append_right _ (List.mem_append_right _ (List.mem_append_right _ (List.mem_append_left _ (List.mem_of_getElem? (i := 6) rfl))))))
theorem kn_135 : Cond.selects RX3 yX3_slots yX3_slots ∈ kn_T := (List.mem_append_right _ (List.mem_append_right _ (List.mem_append_right _ (List.mem_append_right _ (List.mem_append_left _ (List.mem_of_getElem? (i := 7) rfl))))))
theorem kn_136 : Cond.code yX3_slots cX3_slots 3 (some .int) ∈ kn_T := (List.mem_append_right _ (List.mem_append_right _ (List.mem_append_right _ (List.mem_append_right _ (List.mem_append_left _ (List.mem_of_getElem? (i := 8) rfl))))))
theorem kn_137 : Cond.methodLink RX3 54 yX3_isActive ∈ kn_T := (List.mem_append_right _ (List.mem_append_right _ (List.mem_append_right _ (List.mem_append_right _ (List.mem_append_left _ (List.mem_of_getElem? (i := 9) rfl))))))
theorem kn_138 : Cond.instanceMethod yX3_isActive ∈ kn_T := (List.mem_append_right _ (List.mem_append_right _ (List.mem_append_right _ (List.mem_append_right _ (List.mem_append_left _ (List.mem_of_getElem? (i := 10) rfl))))))
theorem kn_139 : Cond.code yX3_isActive cX3_isActive 2 (some .boolean) ∈ kn_T := (List.mem_append_right _ (List.mem_append_right _ (List.mem_append_right _ (List.mem_append_right _ (List.mem_append_left _ (List.mem_of_getElem? (i := 11) rfl))))))
theorem kn_140 : Cond.methodLink RX3 141 yJ6_bitCount ∈ kn_T := (List.mem_append_right _ (List.mem_append_right _ (List.mem_append_right _ (List.mem_append_right _ (List.mem_append_left _ (List.mem_of_getElem? (i := 12) rfl))))))
theorem kn_141 : Cond.static yJ6_bitCount ∈ kn_T := (List.mem_append_right _ (List.mem_append_right _ (List.mem_append_right _ (List.mem_append_right _ (List.mem_append_left _ (List.mem_of_getElem? (i := 13) rfl))))))
theorem kn_142 : Cond.code yJ6_bitCount cJ6_bitCount 1 (some .int) ∈ kn_T := (List.mem_append_right _ (List.mem_append_right _ (List.mem_append_right _ (List.mem_append_right _ (List.mem_append_left _ (List.mem_of_getElem? (i := 14) rfl))))))
theorem kn_143 : Cond.constant RJ6 265 1431655765 ∈ kn_T := (List.mem_append_right _ (List.mem_append_right _ (List.mem_append_right _ (List.mem_append_right _ (List.mem_append_left _ (List.mem_of_getElem? (i := 15) rfl))))))
theorem kn_144 : Cond.constant RJ6 266 858993459 ∈ kn_T := (List.mem_append_right _ (List.mem_append_right _ (List.mem_append_right _ (List.mem_append_right _ (List.mem_append_left _ (List.mem_of_getElem? (i := 16) rfl))))))
theorem kn_145 : Cond.constant RJ6 267 252645135 ∈ kn_T := (List.mem_append_right _ (List.mem_append_right _ (List.mem_append_right _ (List.mem_append_right _ (List.mem_append_left _ (List.mem_of_getElem? (i := 17) rfl))))))
theorem kn_146 : Cond.methodLink RL 28 yX3_unlock ∈ kn_T := (List.mem_append_right _ (List.mem_append_right _ (List.mem_append_right _ (List.mem_append_right _ (List.mem_append_left _ (List.mem_of_getElem? (i := 18) rfl))))))
theorem kn_147 : Cond.instanceMethod yX3_unlock ∈ kn_T := (List.mem_append_right _ (List.mem_append_right _ (List.mem_append_right _ (List.mem_append_right _ (List.mem_append_left _ (List.mem_of_getElem? (i := 19) rfl))))))
theorem kn_148 : Cond.selects RX3 yX3_unlock yX3_unlock ∈ kn_T := (List.mem_append_right _ (List.mem_append_right _ (List.mem_append_right _ (List.mem_append_right _ (List.mem_append_left _ (List.mem_of_getElem? (i := 20) rfl))))))
theorem kn_149 : Cond.code yX3_unlock cX3_unlock 3 (some .int) ∈ kn_T := (List.mem_append_right _ (List.mem_append_right _ (List.mem_append_right _ (List.mem_append_right _ (List.mem_append_left _ (List.mem_of_getElem? (i := 21) rfl))))))
theorem kn_150 : Cond.methodLink RX3 58 yX3_opensWith ∈ kn_T := (List.mem_append_right _ (List.mem_append_right _ (List.mem_append_right _ (List.mem_append_right _ (List.mem_append_left _ (List.mem_of_getElem? (i := 22) rfl))))))
theorem kn_151 : Cond.instanceMethod yX3_opensWith ∈ kn_T := (List.mem_append_right _ (List.mem_append_right _ (List.mem_append_right _ (List.mem_append_right _ (List.mem_append_left _ (List.mem_of_getElem? (i := 23) rfl))))))
theorem kn_152 : Cond.code yX3_opensWith cX3_opensWith 6 (some .boolean) ∈ kn_T := (List.mem_append_right _ (List.mem_append_right _ (List.mem_append_right _ (List.mem_append_right _ (List.mem_append_left _ (List.mem_of_getElem? (i := 24) rfl))))))
theorem kn_153 : Cond.methodLink RX3 134 yX2_openHalf ∈ kn_T := (List.mem_append_right _ (List.mem_append_right _ (List.mem_append_right _ (List.mem_append_right _ (List.mem_append_left _ (List.mem_of_getElem? (i := 25) rfl))))))
theorem kn_154 : Cond.static yX2_openHalf ∈ kn_T := (List.mem_append_right _ (List.mem_append_right _ (List.mem_append_right _ (List.mem_append_right _ (List.mem_append_left _ (List.mem_of_getElem? (i := 26) rfl))))))
theorem kn_155 : Cond.code yX2_openHalf cX2_openHalf 9 (some .int) ∈ kn_T := (List.mem_append_right _ (List.mem_append_right _ (List.mem_append_right _ (List.mem_append_right _ (List.mem_append_left _ (List.mem_of_getElem? (i := 27) rfl))))))
theorem kn_156 : Cond.methodLink RX2 31 yX1_wordAt ∈ kn_T := (List.mem_append_right _ (List.mem_append_right _ (List.mem_append_right _ (List.mem_append_right _ (List.mem_append_left _ (List.mem_of_getElem? (i := 28) rfl))))))
theorem kn_157 : Cond.methodLink RX2 37 yX0_decipher ∈ kn_T := (List.mem_append_right _ (List.mem_append_right _ (List.mem_append_right _ (List.mem_append_right _ (List.mem_append_left _ (List.mem_of_getElem? (i := 29) rfl))))))
theorem kn_158 : Cond.static yX0_decipher ∈ kn_T := (List.mem_append_right _ (List.mem_append_right _ (List.mem_append_right _ (List.mem_append_right _ (List.mem_append_left _ (List.mem_of_getElem? (i := 30) rfl))))))
theorem kn_159 : Cond.code yX0_decipher cX0_decipher 6 (some .int) ∈ kn_T := (List.mem_append_right _ (List.mem_append_right _ (List.mem_append_right _ (List.mem_append_right _ (List.mem_append_left _ (List.mem_of_getElem? (i := 31) rfl))))))
theorem kn_160 : Cond.methodLink RL 33 yX3_lock ∈ kn_T := (List.mem_append_right _ (List.mem_append_right _ (List.mem_append_right _ (List.mem_append_right _ (List.mem_append_right _ (List.mem_append_left _ (List.mem_of_getElem? (i := 0) rfl)))))))
theorem kn_161 : Cond.instanceMethod yX3_lock ∈ kn_T := (List.mem_append_right _ (List.mem_append_right _ (List.mem_append_right _ (List.mem_append_right _ (List.mem_append_right _ (List.mem_append_left _ (List.mem_of_getElem? (i := 1) rfl)))))))
theorem kn_162 : Cond.selects RX3 yX3_lock yX3_lock ∈ kn_T := (List.mem_append_right _ (List.mem_append_right _ (List.mem_append_right _ (List.mem_append_right _ (List.mem_append_right _ (List.mem_append_left _ (List.mem_of_getElem? (i := 2) rfl)))))))
theorem kn_163 : Cond.code yX3_lock cX3_lock 2 (some .int) ∈ kn_T := (List.mem_append_right _ (List.mem_append_right _ (List.mem_append_right _ (List.mem_append_right _ (List.mem_append_right _ (List.mem_append_left _ (List.mem_of_getElem? (i := 3) rfl)))))))
theorem kn_164 : Cond.methodLink RL 37 yX3_add ∈ kn_T := (List.mem_append_right _ (List.mem_append_right _ (List.mem_append_right _ (List.mem_append_right _ (List.mem_append_right _ (List.mem_append_left _ (List.mem_of_getElem? (i := 4) rfl)))))))
theorem kn_165 : Cond.instanceMethod yX3_add ∈ kn_T := (List.mem_append_right _ (List.mem_append_right _ (List.mem_append_right _ (List.mem_append_right _ (List.mem_append_right _ (List.mem_append_left _ (List.mem_of_getElem? (i := 5) rfl)))))))
theorem kn_166 : Cond.selects RX3 yX3_add yX3_add ∈ kn_T := (List.mem_append_right _ (List.mem_append_right _ (List.mem_append_right _ (List.mem_append_right _ (List.mem_append_right _ (List.mem_append_left _ (List.mem_of_getElem? (i := 6) rfl)))))))
theorem kn_167 : Cond.code yX3_add cX3_add 5 (some .int) ∈ kn_T := (List.mem_append_right _ (List.mem_append_right _ (List.mem_append_right _ (List.mem_append_right _ (List.mem_append_right _ (List.mem_append_left _ (List.mem_of_getElem? (i := 7) rfl)))))))
theorem kn_168 : Cond.methodLink RX3 62 yX3_refusalUnlessOpen ∈ kn_T := (List.mem_append_right _ (List.mem_append_right _ (List.mem_append_right _ (List.mem_append_right _ (List.mem_append_right _ (List.mem_append_left _ (List.mem_of_getElem? (i := 8) rfl)))))))
theorem kn_169 : Cond.instanceMethod yX3_refusalUnlessOpen ∈ kn_T := (List.mem_append_right _ (List.mem_append_right _ (List.mem_append_right _ (List.mem_append_right _ (List.mem_append_right _ (List.mem_append_left _ (List.mem_of_getElem? (i := 9) rfl)))))))
theorem kn_170 : Cond.code yX3_refusalUnlessOpen cX3_refusalUnlessOpen 1 (some .int) ∈ kn_T := (List.mem_append_right _ (List.mem_append_right _ (List.mem_append_right _ (List.mem_append_right _ (List.mem_append_right _ (List.mem_append_left _ (List.mem_of_getElem? (i := 10) rfl)))))))
theorem kn_171 : Cond.methodLink RX3 65 yX3_leastFreeSlot ∈ kn_T := (List.mem_append_right _ (List.mem_append_right _ (List.mem_append_right _ (List.mem_append_right _ (List.mem_append_right _ (List.mem_append_left _ (List.mem_of_getElem? (i := 11) rfl)))))))
theorem kn_172 : Cond.instanceMethod yX3_leastFreeSlot ∈ kn_T := (List.mem_append_right _ (List.mem_append_right _ (List.mem_append_right _ (List.mem_append_right _ (List.mem_append_right _ (List.mem_append_left _ (List.mem_of_getElem? (i := 12) rfl)))))))
theorem kn_173 : Cond.code yX3_leastFreeSlot cX3_leastFreeSlot 2 (some .int) ∈ kn_T := (List.mem_append_right _ (List.mem_append_right _ (List.mem_append_right _ (List.mem_append_right _ (List.mem_append_right _ (List.mem_append_left _ (List.mem_of_getElem? (i := 13) rfl)))))))
theorem kn_174 : Cond.methodLink RX3 68 yX3_fillSlot ∈ kn_T := (List.mem_append_right _ (List.mem_append_right _ (List.mem_append_right _ (List.mem_append_right _ (List.mem_append_right _ (List.mem_append_left _ (List.mem_of_getElem? (i := 14) rfl)))))))
theorem kn_175 : Cond.instanceMethod yX3_fillSlot ∈ kn_T := (List.mem_append_right _ (List.mem_append_right _ (List.mem_append_right _ (List.mem_append_right _ (List.mem_append_right _ (List.mem_append_left _ (List.mem_of_getElem? (i := 15) rfl)))))))
theorem kn_176 : Cond.code yX3_fillSlot cX3_fillSlot 4 (some .boolean) ∈ kn_T := (List.mem_append_right _ (List.mem_append_right _ (List.mem_append_right _ (List.mem_append_right _ (List.mem_append_right _ (List.mem_append_left _ (List.mem_of_getElem? (i := 16) rfl)))))))
theorem kn_177 : Cond.methodLink RX3 100 yX1_replaceByJournal ∈ kn_T := (List.mem_append_right _ (List.mem_append_right _ (List.mem_append_right _ (List.mem_append_right _ (List.mem_append_right _ (List.mem_append_left _ (List.mem_of_getElem? (i := 17) rfl)))))))
theorem kn_178 : Cond.instanceMethod yX1_replaceByJournal ∈ kn_T := (List.mem_append_right _ (List.mem_append_right _ (List.mem_append_right _ (List.mem_append_right _ (List.mem_append_right _ (List.mem_append_left _ (List.mem_of_getElem? (i := 18) rfl)))))))
theorem kn_179 : Cond.selects RX1 yX1_replaceByJournal yX1_replaceByJournal ∈ kn_T := (List.mem_append_right _ (List.mem_append_right _ (List.mem_append_right _ (List.mem_append_right _ (List.mem_append_right _ (List.mem_append_left _ (List.mem_of_getElem? (i := 19) rfl)))))))
theorem kn_180 : Cond.code yX1_replaceByJournal cX1_replaceByJournal 5 (some .boolean) ∈ kn_T := (List.mem_append_right _ (List.mem_append_right _ (List.mem_append_right _ (List.mem_append_right _ (List.mem_append_right _ (List.mem_append_left _ (List.mem_of_getElem? (i := 20) rfl)))))))
theorem kn_181 : Cond.methodLink RL 42 yX3_change ∈ kn_T := (List.mem_append_right _ (List.mem_append_right _ (List.mem_append_right _ (List.mem_append_right _ (List.mem_append_right _ (List.mem_append_left _ (List.mem_of_getElem? (i := 21) rfl)))))))
theorem kn_182 : Cond.instanceMethod yX3_change ∈ kn_T := (List.mem_append_right _ (List.mem_append_right _ (List.mem_append_right _ (List.mem_append_right _ (List.mem_append_right _ (List.mem_append_left _ (List.mem_of_getElem? (i := 22) rfl)))))))
theorem kn_183 : Cond.selects RX3 yX3_change yX3_change ∈ kn_T := (List.mem_append_right _ (List.mem_append_right _ (List.mem_append_right _ (List.mem_append_right _ (List.mem_append_right _ (List.mem_append_left _ (List.mem_of_getElem? (i := 23) rfl)))))))
theorem kn_184 : Cond.code yX3_change cX3_change 5 (some .int) ∈ kn_T := (List.mem_append_right _ (List.mem_append_right _ (List.mem_append_right _ (List.mem_append_right _ (List.mem_append_right _ (List.mem_append_left _ (List.mem_of_getElem? (i := 24) rfl)))))))
theorem kn_185 : Cond.methodLink RX3 72 yX3_refusalOfSlot ∈ kn_T := (List.mem_append_right _ (List.mem_append_right _ (List.mem_append_right _ (List.mem_append_right _ (List.mem_append_right _ (List.mem_append_left _ (List.mem_of_getElem? (i := 25) rfl)))))))
theorem kn_186 : Cond.instanceMethod yX3_refusalOfSlot ∈ kn_T := (List.mem_append_right _ (List.mem_append_right _ (List.mem_append_right _ (List.mem_append_right _ (List.mem_append_right _ (List.mem_append_left _ (List.mem_of_getElem? (i := 26) rfl)))))))
theorem kn_187 : Cond.code yX3_refusalOfSlot cX3_refusalOfSlot 3 (some .int) ∈ kn_T := (List.mem_append_right _ (List.mem_append_right _ (List.mem_append_right _ (List.mem_append_right _ (List.mem_append_right _ (List.mem_append_left _ (List.mem_of_getElem? (i := 27) rfl)))))))
theorem kn_188 : Cond.methodLink RL 47 yX3_revoke ∈ kn_T := (List.mem_append_right _ (List.mem_append_right _ (List.mem_append_right _ (List.mem_append_right _ (List.mem_append_right _ (List.mem_append_left _ (List.mem_of_getElem? (i := 28) rfl)))))))
theorem kn_189 : Cond.instanceMethod yX3_revoke ∈ kn_T := (List.mem_append_right _ (List.mem_append_right _ (List.mem_append_right _ (List.mem_append_right _ (List.mem_append_right _ (List.mem_append_left _ (List.mem_of_getElem? (i := 29) rfl)))))))
theorem kn_190 : Cond.selects RX3 yX3_revoke yX3_revoke ∈ kn_T := (List.mem_append_right _ (List.mem_append_right _ (List.mem_append_right _ (List.mem_append_right _ (List.mem_append_right _ (List.mem_append_left _ (List.mem_of_getElem? (i := 30) rfl)))))))
theorem kn_191 : Cond.code yX3_revoke cX3_revoke 3 (some .int) ∈ kn_T := (List.mem_append_right _ (List.mem_append_right _ (List.mem_append_right _ (List.mem_append_right _ (List.mem_append_right _ (List.mem_append_left _ (List.mem_of_getElem? (i := 31) rfl)))))))
theorem kn_192 : Cond.methodLink RX3 75 yX3_clearSlot ∈ kn_T := (List.mem_append_right _ (List.mem_append_right _ (List.mem_append_right _ (List.mem_append_right _ (List.mem_append_right _ (List.mem_append_right _ (List.mem_append_left _ (List.mem_of_getElem? (i := 0) rfl))))))))
theorem kn_193 : Cond.instanceMethod yX3_clearSlot ∈ kn_T := (List.mem_append_right _ (List.mem_append_right _ (List.mem_append_right _ (List.mem_append_right _ (List.mem_append_right _ (List.mem_append_right _ (List.mem_append_left _ (List.mem_of_getElem? (i := 1) rfl))))))))
theorem kn_194 : Cond.code yX3_clearSlot cX3_clearSlot 2 (some .boolean) ∈ kn_T := (List.mem_append_right _ (List.mem_append_right _ (List.mem_append_right _ (List.mem_append_right _ (List.mem_append_right _ (List.mem_append_right _ (List.mem_append_left _ (List.mem_of_getElem? (i := 2) rfl))))))))
theorem kn_195 : Cond.methodLink RL 51 yX3_write ∈ kn_T := (List.mem_append_right _ (List.mem_append_right _ (List.mem_append_right _ (List.mem_append_right _ (List.mem_append_right _ (List.mem_append_right _ (List.mem_append_left _ (List.mem_of_getElem? (i := 3) rfl))))))))
theorem kn_196 : Cond.instanceMethod yX3_write ∈ kn_T := (List.mem_append_right _ (List.mem_append_right _ (List.mem_append_right _ (List.mem_append_right _ (List.mem_append_right _ (List.mem_append_right _ (List.mem_append_left _ (List.mem_of_getElem? (i := 4) rfl))))))))
theorem kn_197 : Cond.selects RX3 yX3_write yX3_write ∈ kn_T := (List.mem_append_right _ (List.mem_append_right _ (List.mem_append_right _ (List.mem_append_right _ (List.mem_append_right _ (List.mem_append_right _ (List.mem_append_left _ (List.mem_of_getElem? (i := 5) rfl))))))))
theorem kn_198 : Cond.code yX3_write cX3_write 7 (some .int) ∈ kn_T := (List.mem_append_right _ (List.mem_append_right _ (List.mem_append_right _ (List.mem_append_right _ (List.mem_append_right _ (List.mem_append_right _ (List.mem_append_left _ (List.mem_of_getElem? (i := 6) rfl))))))))
theorem kn_199 : Cond.methodLink RX3 78 yX3_refusalOfWord ∈ kn_T := (List.mem_append_right _ (List.mem_append_right _ (List.mem_append_right _ (List.mem_append_right _ (List.mem_append_right _ (List.mem_append_right _ (List.mem_append_left _ (List.mem_of_getElem? (i := 7) rfl))))))))
theorem kn_200 : Cond.instanceMethod yX3_refusalOfWord ∈ kn_T := (List.mem_append_right _ (List.mem_append_right _ (List.mem_append_right _ (List.mem_append_right _ (List.mem_append_right _ (List.mem_append_right _ (List.mem_append_left _ (List.mem_of_getElem? (i := 8) rfl))))))))
theorem kn_201 : Cond.code yX3_refusalOfWord cX3_refusalOfWord 5 (some .int) ∈ kn_T := (List.mem_append_right _ (List.mem_append_right _ (List.mem_append_right _ (List.mem_append_right _ (List.mem_append_right _ (List.mem_append_right _ (List.mem_append_left _ (List.mem_of_getElem? (i := 9) rfl))))))))
theorem kn_202 : Cond.methodLink RX3 82 yX3_plainWord ∈ kn_T := (List.mem_append_right _ (List.mem_append_right _ (List.mem_append_right _ (List.mem_append_right _ (List.mem_append_right _ (List.mem_append_right _ (List.mem_append_left _ (List.mem_of_getElem? (i := 10) rfl))))))))
theorem kn_203 : Cond.instanceMethod yX3_plainWord ∈ kn_T := (List.mem_append_right _ (List.mem_append_right _ (List.mem_append_right _ (List.mem_append_right _ (List.mem_append_right _ (List.mem_append_right _ (List.mem_append_left _ (List.mem_of_getElem? (i := 11) rfl))))))))
theorem kn_204 : Cond.code yX3_plainWord cX3_plainWord 4 (some .int) ∈ kn_T := (List.mem_append_right _ (List.mem_append_right _ (List.mem_append_right _ (List.mem_append_right _ (List.mem_append_right _ (List.mem_append_right _ (List.mem_append_left _ (List.mem_of_getElem? (i := 12) rfl))))))))
theorem kn_205 : Cond.methodLink RX3 146 yX0_decipherSectorWord ∈ kn_T := (List.mem_append_right _ (List.mem_append_right _ (List.mem_append_right _ (List.mem_append_right _ (List.mem_append_right _ (List.mem_append_right _ (List.mem_append_left _ (List.mem_of_getElem? (i := 13) rfl))))))))
theorem kn_206 : Cond.static yX0_decipherSectorWord ∈ kn_T := (List.mem_append_right _ (List.mem_append_right _ (List.mem_append_right _ (List.mem_append_right _ (List.mem_append_right _ (List.mem_append_right _ (List.mem_append_left _ (List.mem_of_getElem? (i := 14) rfl))))))))
theorem kn_207 : Cond.code yX0_decipherSectorWord cX0_decipherSectorWord 6 (some .int) ∈ kn_T := (List.mem_append_right _ (List.mem_append_right _ (List.mem_append_right _ (List.mem_append_right _ (List.mem_append_right _ (List.mem_append_right _ (List.mem_append_left _ (List.mem_of_getElem? (i := 15) rfl))))))))
theorem kn_208 : Cond.methodLink RX0 27 yX0_decipher ∈ kn_T := (List.mem_append_right _ (List.mem_append_right _ (List.mem_append_right _ (List.mem_append_right _ (List.mem_append_right _ (List.mem_append_right _ (List.mem_append_left _ (List.mem_of_getElem? (i := 16) rfl))))))))
theorem kn_209 : Cond.methodLink RL 55 yX3_read ∈ kn_T := (List.mem_append_right _ (List.mem_append_right _ (List.mem_append_right _ (List.mem_append_right _ (List.mem_append_right _ (List.mem_append_right _ (List.mem_append_left _ (List.mem_of_getElem? (i := 17) rfl))))))))
theorem kn_210 : Cond.instanceMethod yX3_read ∈ kn_T := (List.mem_append_right _ (List.mem_append_right _ (List.mem_append_right _ (List.mem_append_right _ (List.mem_append_right _ (List.mem_append_right _ (List.mem_append_left _ (List.mem_of_getElem? (i := 18) rfl))))))))
theorem kn_211 : Cond.selects RX3 yX3_read yX3_read ∈ kn_T := (List.mem_append_right _ (List.mem_append_right _ (List.mem_append_right _ (List.mem_append_right _ (List.mem_append_right _ (List.mem_append_right _ (List.mem_append_left _ (List.mem_of_getElem? (i := 19) rfl))))))))
theorem kn_212 : Cond.code yX3_read cX3_read 4 (some .long) ∈ kn_T := (List.mem_append_right _ (List.mem_append_right _ (List.mem_append_right _ (List.mem_append_right _ (List.mem_append_right _ (List.mem_append_right _ (List.mem_append_left _ (List.mem_of_getElem? (i := 20) rfl))))))))
theorem kn_213 : Cond.constantLong RX3 104 4294967295 ∈ kn_T := (List.mem_append_right _ (List.mem_append_right _ (List.mem_append_right _ (List.mem_append_right _ (List.mem_append_right _ (List.mem_append_right _ (List.mem_append_left _ (List.mem_of_getElem? (i := 21) rfl))))))))
theorem kn_214 : Cond.methodLink RL 60 yX3_state ∈ kn_T := (List.mem_append_right _ (List.mem_append_right _ (List.mem_append_right _ (List.mem_append_right _ (List.mem_append_right _ (List.mem_append_right _ (List.mem_append_left _ (List.mem_of_getElem? (i := 22) rfl))))))))
theorem kn_215 : Cond.instanceMethod yX3_state ∈ kn_T := (List.mem_append_right _ (List.mem_append_right _ (List.mem_append_right _ (List.mem_append_right _ (List.mem_append_right _ (List.mem_append_right _ (List.mem_append_left _ (List.mem_of_getElem? (i := 23) rfl))))))))
theorem kn_216 : Cond.selects RX3 yX3_state yX3_state ∈ kn_T := (List.mem_append_right _ (List.mem_append_right _ (List.mem_append_right _ (List.mem_append_right _ (List.mem_append_right _ (List.mem_append_right _ (List.mem_append_left _ (List.mem_of_getElem? (i := 24) rfl))))))))
theorem kn_217 : Cond.code yX3_state cX3_state 1 (some .int) ∈ kn_T := (List.mem_append_right _ (List.mem_append_right _ (List.mem_append_right _ (List.mem_append_right _ (List.mem_append_right _ (List.mem_append_right _ (List.mem_append_left _ (List.mem_of_getElem? (i := 25) rfl))))))))
theorem kn_218 : Cond.methodLink RL 64 yX3_slots ∈ kn_T := (List.mem_append_right _ (List.mem_append_right _ (List.mem_append_right _ (List.mem_append_right _ (List.mem_append_right _ (List.mem_append_right _ (List.mem_append_left _ (List.mem_of_getElem? (i := 26) rfl))))))))
theorem kn_219 : Cond.methodLink RL 68 yX3_peek ∈ kn_T := (List.mem_append_right _ (List.mem_append_right _ (List.mem_append_right _ (List.mem_append_right _ (List.mem_append_right _ (List.mem_append_right _ (List.mem_append_left _ (List.mem_of_getElem? (i := 27) rfl))))))))
theorem kn_220 : Cond.instanceMethod yX3_peek ∈ kn_T := (List.mem_append_right _ (List.mem_append_right _ (List.mem_append_right _ (List.mem_append_right _ (List.mem_append_right _ (List.mem_append_right _ (List.mem_append_left _ (List.mem_of_getElem? (i := 28) rfl))))))))
theorem kn_221 : Cond.selects RX3 yX3_peek yX3_peek ∈ kn_T := (List.mem_append_right _ (List.mem_append_right _ (List.mem_append_right _ (List.mem_append_right _ (List.mem_append_right _ (List.mem_append_right _ (List.mem_append_left _ (List.mem_of_getElem? (i := 29) rfl))))))))
theorem kn_222 : Cond.code yX3_peek cX3_peek 2 (some .int) ∈ kn_T := (List.mem_append_right _ (List.mem_append_right _ (List.mem_append_right _ (List.mem_append_right _ (List.mem_append_right _ (List.mem_append_right _ (List.mem_append_left _ (List.mem_of_getElem? (i := 30) rfl))))))))
theorem kn_223 : Cond.methodLink RL 72 yX3_writes ∈ kn_T := (List.mem_append_right _ (List.mem_append_right _ (List.mem_append_right _ (List.mem_append_right _ (List.mem_append_right _ (List.mem_append_right _ (List.mem_append_left _ (List.mem_of_getElem? (i := 31) rfl))))))))
theorem kn_224 : Cond.instanceMethod yX3_writes ∈ kn_T := (List.mem_append_right _ (List.mem_append_right _ (List.mem_append_right _ (List.mem_append_right _ (List.mem_append_right _ (List.mem_append_right _ (List.mem_append_right _ (List.mem_append_left _ (List.mem_of_getElem? (i := 0) rfl)))))))))
theorem kn_225 : Cond.selects RX3 yX3_writes yX3_writes ∈ kn_T := (List.mem_append_right _ (List.mem_append_right _ (List.mem_append_right _ (List.mem_append_right _ (List.mem_append_right _ (List.mem_append_right _ (List.mem_append_right _ (List.mem_append_left _ (List.mem_of_getElem? (i := 1) rfl)))))))))
theorem kn_226 : Cond.code yX3_writes cX3_writes 1 (some .int) ∈ kn_T := (List.mem_append_right _ (List.mem_append_right _ (List.mem_append_right _ (List.mem_append_right _ (List.mem_append_right _ (List.mem_append_right _ (List.mem_append_right _ (List.mem_append_left _ (List.mem_of_getElem? (i := 2) rfl)))))))))
theorem kn_227 : Cond.classLink RL 10 RX4 ∈ kn_T := (List.mem_append_right _ (List.mem_append_right _ (List.mem_append_right _ (List.mem_append_right _ (List.mem_append_right _ (List.mem_append_right _ (List.mem_append_right _ (List.mem_append_left _ (List.mem_of_getElem? (i := 3) rfl)))))))))
theorem kn_228 : Cond.instantiable RX4 14 ∈ kn_T := (List.mem_append_right _ (List.mem_append_right _ (List.mem_append_right _ (List.mem_append_right _ (List.mem_append_right _ (List.mem_append_right _ (List.mem_append_right _ (List.mem_append_left _ (List.mem_of_getElem? (i := 4) rfl)))))))))
theorem kn_229 : Cond.methodLink RL 12 yX4_init ∈ kn_T := (List.mem_append_right _ (List.mem_append_right _ (List.mem_append_right _ (List.mem_append_right _ (List.mem_append_right _ (List.mem_append_right _ (List.mem_append_right _ (List.mem_append_left _ (List.mem_of_getElem? (i := 5) rfl)))))))))
theorem kn_230 : Cond.instanceMethod yX4_init ∈ kn_T := (List.mem_append_right _ (List.mem_append_right _ (List.mem_append_right _ (List.mem_append_right _ (List.mem_append_right _ (List.mem_append_right _ (List.mem_append_right _ (List.mem_append_left _ (List.mem_of_getElem? (i := 6) rfl)))))))))
theorem kn_231 : Cond.code yX4_init cX4_init 1 none ∈ kn_T := (List.mem_append_right _ (List.mem_append_right _ (List.mem_append_right _ (List.mem_append_right _ (List.mem_append_right _ (List.mem_append_right _ (List.mem_append_right _ (List.mem_append_left _ (List.mem_of_getElem? (i := 7) rfl)))))))))
theorem kn_232 : Cond.methodLink RX4 1 objectInit ∈ kn_T := (List.mem_append_right _ (List.mem_append_right _ (List.mem_append_right _ (List.mem_append_right _ (List.mem_append_right _ (List.mem_append_right _ (List.mem_append_right _ (List.mem_append_left _ (List.mem_of_getElem? (i := 8) rfl)))))))))
theorem kn_233 : Cond.fieldLink RX4 7 "StripedKeyVolumeModel" "disk" "[I" ∈ kn_T := (List.mem_append_right _ (List.mem_append_right _ (List.mem_append_right _ (List.mem_append_right _ (List.mem_append_right _ (List.mem_append_right _ (List.mem_append_right _ (List.mem_append_left _ (List.mem_of_getElem? (i := 9) rfl)))))))))
theorem kn_234 : Cond.fieldLink RX4 13 "StripedKeyVolumeModel" "left" "I" ∈ kn_T := (List.mem_append_right _ (List.mem_append_right _ (List.mem_append_right _ (List.mem_append_right _ (List.mem_append_right _ (List.mem_append_right _ (List.mem_append_right _ (List.mem_append_left _ (List.mem_of_getElem? (i := 10) rfl)))))))))
theorem kn_235 : Cond.fieldLink RX4 92 "StripedKeyVolumeModel" "done" "I" ∈ kn_T := (List.mem_append_right _ (List.mem_append_right _ (List.mem_append_right _ (List.mem_append_right _ (List.mem_append_right _ (List.mem_append_right _ (List.mem_append_right _ (List.mem_append_left _ (List.mem_of_getElem? (i := 11) rfl)))))))))
theorem kn_236 : Cond.fieldLink RX4 89 "StripedKeyVolumeModel" "device" "I" ∈ kn_T := (List.mem_append_right _ (List.mem_append_right _ (List.mem_append_right _ (List.mem_append_right _ (List.mem_append_right _ (List.mem_append_right _ (List.mem_append_right _ (List.mem_append_left _ (List.mem_of_getElem? (i := 12) rfl)))))))))
theorem kn_237 : Cond.fieldLink RX4 116 "StripedKeyVolumeModel" "keyA" "I" ∈ kn_T := (List.mem_append_right _ (List.mem_append_right _ (List.mem_append_right _ (List.mem_append_right _ (List.mem_append_right _ (List.mem_append_right _ (List.mem_append_right _ (List.mem_append_left _ (List.mem_of_getElem? (i := 13) rfl)))))))))
theorem kn_238 : Cond.fieldLink RX4 119 "StripedKeyVolumeModel" "keyB" "I" ∈ kn_T := (List.mem_append_right _ (List.mem_append_right _ (List.mem_append_right _ (List.mem_append_right _ (List.mem_append_right _ (List.mem_append_right _ (List.mem_append_right _ (List.mem_append_left _ (List.mem_of_getElem? (i := 14) rfl)))))))))
theorem kn_239 : Cond.fieldLink RX4 73 "StripedKeyVolumeModel" "planned" "I" ∈ kn_T := (List.mem_append_right _ (List.mem_append_right _ (List.mem_append_right _ (List.mem_append_right _ (List.mem_append_right _ (List.mem_append_right _ (List.mem_append_right _ (List.mem_append_left _ (List.mem_of_getElem? (i := 15) rfl)))))))))
theorem kn_240 : Cond.fieldLink RX4 17 "StripedKeyVolumeModel" "places" "[I" ∈ kn_T := (List.mem_append_right _ (List.mem_append_right _ (List.mem_append_right _ (List.mem_append_right _ (List.mem_append_right _ (List.mem_append_right _ (List.mem_append_right _ (List.mem_append_left _ (List.mem_of_getElem? (i := 16) rfl)))))))))
theorem kn_241 : Cond.fieldLink RX4 20 "StripedKeyVolumeModel" "words" "[I" ∈ kn_T := (List.mem_append_right _ (List.mem_append_right _ (List.mem_append_right _ (List.mem_append_right _ (List.mem_append_right _ (List.mem_append_right _ (List.mem_append_right _ (List.mem_append_left _ (List.mem_of_getElem? (i := 17) rfl)))))))))
theorem kn_242 : Cond.fieldLink RX4 23 "StripedKeyVolumeModel" "shadow" "[I" ∈ kn_T := (List.mem_append_right _ (List.mem_append_right _ (List.mem_append_right _ (List.mem_append_right _ (List.mem_append_right _ (List.mem_append_right _ (List.mem_append_right _ (List.mem_append_left _ (List.mem_of_getElem? (i := 18) rfl)))))))))
theorem kn_243 : Cond.fieldLink RX4 26 "StripedKeyVolumeModel" "fresh" "[I" ∈ kn_T := (List.mem_append_right _ (List.mem_append_right _ (List.mem_append_right _ (List.mem_append_right _ (List.mem_append_right _ (List.mem_append_right _ (List.mem_append_right _ (List.mem_append_left _ (List.mem_of_getElem? (i := 19) rfl)))))))))
theorem kn_244 : Cond.fieldLink RX4 29 "StripedKeyVolumeModel" "stripe" "[I" ∈ kn_T := (List.mem_append_right _ (List.mem_append_right _ (List.mem_append_right _ (List.mem_append_right _ (List.mem_append_right _ (List.mem_append_right _ (List.mem_append_right _ (List.mem_append_left _ (List.mem_of_getElem? (i := 20) rfl)))))))))
theorem kn_245 : Cond.fieldLink RX4 60 "StripedKeyVolumeModel" "openA" "I" ∈ kn_T := (List.mem_append_right _ (List.mem_append_right _ (List.mem_append_right _ (List.mem_append_right _ (List.mem_append_right _ (List.mem_append_right _ (List.mem_append_right _ (List.mem_append_left _ (List.mem_of_getElem? (i := 21) rfl)))))))))
theorem kn_246 : Cond.fieldLink RX4 63 "StripedKeyVolumeModel" "openB" "I" ∈ kn_T := (List.mem_append_right _ (List.mem_append_right _ (List.mem_append_right _ (List.mem_append_right _ (List.mem_append_right _ (List.mem_append_right _ (List.mem_append_right _ (List.mem_append_left _ (List.mem_of_getElem? (i := 22) rfl)))))))))
theorem kn_247 : Cond.lays RX4 "StripedKeyVolumeModel" "disk" "[I" ∈ kn_T := (List.mem_append_right _ (List.mem_append_right _ (List.mem_append_right _ (List.mem_append_right _ (List.mem_append_right _ (List.mem_append_right _ (List.mem_append_right _ (List.mem_append_left _ (List.mem_of_getElem? (i := 23) rfl)))))))))
theorem kn_248 : Cond.lays RX4 "StripedKeyVolumeModel" "left" "I" ∈ kn_T := (List.mem_append_right _ (List.mem_append_right _ (List.mem_append_right _ (List.mem_append_right _ (List.mem_append_right _ (List.mem_append_right _ (List.mem_append_right _ (List.mem_append_left _ (List.mem_of_getElem? (i := 24) rfl)))))))))
theorem kn_249 : Cond.lays RX4 "StripedKeyVolumeModel" "done" "I" ∈ kn_T := (List.mem_append_right _ (List.mem_append_right _ (List.mem_append_right _ (List.mem_append_right _ (List.mem_append_right _ (List.mem_append_right _ (List.mem_append_right _ (List.mem_append_left _ (List.mem_of_getElem? (i := 25) rfl)))))))))
theorem kn_250 : Cond.lays RX4 "StripedKeyVolumeModel" "device" "I" ∈ kn_T := (List.mem_append_right _ (List.mem_append_right _ (List.mem_append_right _ (List.mem_append_right _ (List.mem_append_right _ (List.mem_append_right _ (List.mem_append_right _ (List.mem_append_left _ (List.mem_of_getElem? (i := 26) rfl)))))))))
theorem kn_251 : Cond.lays RX4 "StripedKeyVolumeModel" "keyA" "I" ∈ kn_T := (List.mem_append_right _ (List.mem_append_right _ (List.mem_append_right _ (List.mem_append_right _ (List.mem_append_right _ (List.mem_append_right _ (List.mem_append_right _ (List.mem_append_left _ (List.mem_of_getElem? (i := 27) rfl)))))))))
theorem kn_252 : Cond.lays RX4 "StripedKeyVolumeModel" "keyB" "I" ∈ kn_T := (List.mem_append_right _ (List.mem_append_right _ (List.mem_append_right _ (List.mem_append_right _ (List.mem_append_right _ (List.mem_append_right _ (List.mem_append_right _ (List.mem_append_left _ (List.mem_of_getElem? (i := 28) rfl)))))))))
theorem kn_253 : Cond.lays RX4 "StripedKeyVolumeModel" "planned" "I" ∈ kn_T := (List.mem_append_right _ (List.mem_append_right _ (List.mem_append_right _ (List.mem_append_right _ (List.mem_append_right _ (List.mem_append_right _ (List.mem_append_right _ (List.mem_append_left _ (List.mem_of_getElem? (i := 29) rfl)))))))))
theorem kn_254 : Cond.lays RX4 "StripedKeyVolumeModel" "places" "[I" ∈ kn_T := (List.mem_append_right _ (List.mem_append_right _ (List.mem_append_right _ (List.mem_append_right _ (List.mem_append_right _ (List.mem_append_right _ (List.mem_append_right _ (List.mem_append_left _ (List.mem_of_getElem? (i := 30) rfl)))))))))
theorem kn_255 : Cond.lays RX4 "StripedKeyVolumeModel" "words" "[I" ∈ kn_T := (List.mem_append_right _ (List.mem_append_right _ (List.mem_append_right _ (List.mem_append_right _ (List.mem_append_right _ (List.mem_append_right _ (List.mem_append_right _ (List.mem_append_left _ (List.mem_of_getElem? (i := 31) rfl)))))))))
theorem kn_256 : Cond.lays RX4 "StripedKeyVolumeModel" "shadow" "[I" ∈ kn_T := (List.mem_append_right _ (List.mem_append_right _ (List.mem_append_right _ (List.mem_append_right _ (List.mem_append_right _ (List.mem_append_right _ (List.mem_append_right _ (List.mem_append_right _ (List.mem_append_left _ (List.mem_of_getElem? (i := 0) rfl))))))))))
theorem kn_257 : Cond.lays RX4 "StripedKeyVolumeModel" "fresh" "[I" ∈ kn_T := (List.mem_append_right _ (List.mem_append_right _ (List.mem_append_right _ (List.mem_append_right _ (List.mem_append_right _ (List.mem_append_right _ (List.mem_append_right _ (List.mem_append_right _ (List.mem_append_left _ (List.mem_of_getElem? (i := 1) rfl))))))))))
theorem kn_258 : Cond.lays RX4 "StripedKeyVolumeModel" "stripe" "[I" ∈ kn_T := (List.mem_append_right _ (List.mem_append_right _ (List.mem_append_right _ (List.mem_append_right _ (List.mem_append_right _ (List.mem_append_right _ (List.mem_append_right _ (List.mem_append_right _ (List.mem_append_left _ (List.mem_of_getElem? (i := 2) rfl))))))))))
theorem kn_259 : Cond.lays RX4 "StripedKeyVolumeModel" "openA" "I" ∈ kn_T := (List.mem_append_right _ (List.mem_append_right _ (List.mem_append_right _ (List.mem_append_right _ (List.mem_append_right _ (List.mem_append_right _ (List.mem_append_right _ (List.mem_append_right _ (List.mem_append_left _ (List.mem_of_getElem? (i := 3) rfl))))))))))
theorem kn_260 : Cond.lays RX4 "StripedKeyVolumeModel" "openB" "I" ∈ kn_T := (List.mem_append_right _ (List.mem_append_right _ (List.mem_append_right _ (List.mem_append_right _ (List.mem_append_right _ (List.mem_append_right _ (List.mem_append_right _ (List.mem_append_right _ (List.mem_append_left _ (List.mem_of_getElem? (i := 4) rfl))))))))))
theorem kn_261 : Cond.methodLink RL 17 yX4_cut ∈ kn_T := (List.mem_append_right _ (List.mem_append_right _ (List.mem_append_right _ (List.mem_append_right _ (List.mem_append_right _ (List.mem_append_right _ (List.mem_append_right _ (List.mem_append_right _ (List.mem_append_left _ (List.mem_of_getElem? (i := 5) rfl))))))))))
theorem kn_262 : Cond.instanceMethod yX4_cut ∈ kn_T := (List.mem_append_right _ (List.mem_append_right _ (List.mem_append_right _ (List.mem_append_right _ (List.mem_append_right _ (List.mem_append_right _ (List.mem_append_right _ (List.mem_append_right _ (List.mem_append_left _ (List.mem_of_getElem? (i := 6) rfl))))))))))
theorem kn_263 : Cond.selects RX4 yX4_cut yX4_cut ∈ kn_T := (List.mem_append_right _ (List.mem_append_right _ (List.mem_append_right _ (List.mem_append_right _ (List.mem_append_right _ (List.mem_append_right _ (List.mem_append_right _ (List.mem_append_right _ (List.mem_append_left _ (List.mem_of_getElem? (i := 7) rfl))))))))))
theorem kn_264 : Cond.code yX4_cut cX4_cut 2 (some .boolean) ∈ kn_T := (List.mem_append_right _ (List.mem_append_right _ (List.mem_append_right _ (List.mem_append_right _ (List.mem_append_right _ (List.mem_append_right _ (List.mem_append_right _ (List.mem_append_right _ (List.mem_append_left _ (List.mem_of_getElem? (i := 8) rfl))))))))))
theorem kn_265 : Cond.methodLink RL 22 yX4_format ∈ kn_T := (List.mem_append_right _ (List.mem_append_right _ (List.mem_append_right _ (List.mem_append_right _ (List.mem_append_right _ (List.mem_append_right _ (List.mem_append_right _ (List.mem_append_right _ (List.mem_append_left _ (List.mem_of_getElem? (i := 9) rfl))))))))))
theorem kn_266 : Cond.instanceMethod yX4_format ∈ kn_T := (List.mem_append_right _ (List.mem_append_right _ (List.mem_append_right _ (List.mem_append_right _ (List.mem_append_right _ (List.mem_append_right _ (List.mem_append_right _ (List.mem_append_right _ (List.mem_append_left _ (List.mem_of_getElem? (i := 10) rfl))))))))))
theorem kn_267 : Cond.selects RX4 yX4_format yX4_format ∈ kn_T := (List.mem_append_right _ (List.mem_append_right _ (List.mem_append_right _ (List.mem_append_right _ (List.mem_append_right _ (List.mem_append_right _ (List.mem_append_right _ (List.mem_append_right _ (List.mem_append_left _ (List.mem_of_getElem? (i := 11) rfl))))))))))
theorem kn_268 : Cond.code yX4_format cX4_format 7 (some .int) ∈ kn_T := (List.mem_append_right _ (List.mem_append_right _ (List.mem_append_right _ (List.mem_append_right _ (List.mem_append_right _ (List.mem_append_right _ (List.mem_append_right _ (List.mem_append_right _ (List.mem_append_left _ (List.mem_of_getElem? (i := 12) rfl))))))))))
theorem kn_269 : Cond.methodLink RX4 83 yX4_begin ∈ kn_T := (List.mem_append_right _ (List.mem_append_right _ (List.mem_append_right _ (List.mem_append_right _ (List.mem_append_right _ (List.mem_append_right _ (List.mem_append_right _ (List.mem_append_right _ (List.mem_append_left _ (List.mem_of_getElem? (i := 13) rfl))))))))))
theorem kn_270 : Cond.instanceMethod yX4_begin ∈ kn_T := (List.mem_append_right _ (List.mem_append_right _ (List.mem_append_right _ (List.mem_append_right _ (List.mem_append_right _ (List.mem_append_right _ (List.mem_append_right _ (List.mem_append_right _ (List.mem_append_left _ (List.mem_of_getElem? (i := 14) rfl))))))))))
theorem kn_271 : Cond.code yX4_begin cX4_begin 2 none ∈ kn_T := (List.mem_append_right _ (List.mem_append_right _ (List.mem_append_right _ (List.mem_append_right _ (List.mem_append_right _ (List.mem_append_right _ (List.mem_append_right _ (List.mem_append_right _ (List.mem_append_left _ (List.mem_of_getElem? (i := 15) rfl))))))))))
theorem kn_272 : Cond.methodLink RX4 35 yX4_h ∈ kn_T := (List.mem_append_right _ (List.mem_append_right _ (List.mem_append_right _ (List.mem_append_right _ (List.mem_append_right _ (List.mem_append_right _ (List.mem_append_right _ (List.mem_append_right _ (List.mem_append_left _ (List.mem_of_getElem? (i := 16) rfl))))))))))
theorem kn_273 : Cond.static yX4_h ∈ kn_T := (List.mem_append_right _ (List.mem_append_right _ (List.mem_append_right _ (List.mem_append_right _ (List.mem_append_right _ (List.mem_append_right _ (List.mem_append_right _ (List.mem_append_right _ (List.mem_append_left _ (List.mem_of_getElem? (i := 17) rfl))))))))))
theorem kn_274 : Cond.code yX4_h cX4_h 3 (some .int) ∈ kn_T := (List.mem_append_right _ (List.mem_append_right _ (List.mem_append_right _ (List.mem_append_right _ (List.mem_append_right _ (List.mem_append_right _ (List.mem_append_right _ (List.mem_append_right _ (List.mem_append_left _ (List.mem_of_getElem? (i := 18) rfl))))))))))
theorem kn_275 : Cond.constant RX4 32 1517746329 ∈ kn_T := (List.mem_append_right _ (List.mem_append_right _ (List.mem_append_right _ (List.mem_append_right _ (List.mem_append_right _ (List.mem_append_right _ (List.mem_append_right _ (List.mem_append_right _ (List.mem_append_left _ (List.mem_of_getElem? (i := 19) rfl))))))))))
theorem kn_276 : Cond.constant RX4 33 916191069 ∈ kn_T := (List.mem_append_right _ (List.mem_append_right _ (List.mem_append_right _ (List.mem_append_right _ (List.mem_append_right _ (List.mem_append_right _ (List.mem_append_right _ (List.mem_append_right _ (List.mem_append_left _ (List.mem_of_getElem? (i := 20) rfl))))))))))
theorem kn_277 : Cond.constant RX4 34 1406938949 ∈ kn_T := (List.mem_append_right _ (List.mem_append_right _ (List.mem_append_right _ (List.mem_append_right _ (List.mem_append_right _ (List.mem_append_right _ (List.mem_append_right _ (List.mem_append_right _ (List.mem_append_left _ (List.mem_of_getElem? (i := 21) rfl))))))))))
theorem kn_278 : Cond.methodLink RX4 70 yX4_digest ∈ kn_T := (List.mem_append_right _ (List.mem_append_right _ (List.mem_append_right _ (List.mem_append_right _ (List.mem_append_right _ (List.mem_append_right _ (List.mem_append_right _ (List.mem_append_right _ (List.mem_append_left _ (List.mem_of_getElem? (i := 22) rfl))))))))))
theorem kn_279 : Cond.static yX4_digest ∈ kn_T := (List.mem_append_right _ (List.mem_append_right _ (List.mem_append_right _ (List.mem_append_right _ (List.mem_append_right _ (List.mem_append_right _ (List.mem_append_right _ (List.mem_append_right _ (List.mem_append_left _ (List.mem_of_getElem? (i := 23) rfl))))))))))
theorem kn_280 : Cond.code yX4_digest cX4_digest 4 (some .int) ∈ kn_T := (List.mem_append_right _ (List.mem_append_right _ (List.mem_append_right _ (List.mem_append_right _ (List.mem_append_right _ (List.mem_append_right _ (List.mem_append_right _ (List.mem_append_right _ (List.mem_append_left _ (List.mem_of_getElem? (i := 24) rfl))))))))))
theorem kn_281 : Cond.methodLink RX4 95 yX4_makeSlot ∈ kn_T := (List.mem_append_right _ (List.mem_append_right _ (List.mem_append_right _ (List.mem_append_right _ (List.mem_append_right _ (List.mem_append_right _ (List.mem_append_right _ (List.mem_append_right _ (List.mem_append_left _ (List.mem_of_getElem? (i := 25) rfl))))))))))
theorem kn_282 : Cond.instanceMethod yX4_makeSlot ∈ kn_T := (List.mem_append_right _ (List.mem_append_right _ (List.mem_append_right _ (List.mem_append_right _ (List.mem_append_right _ (List.mem_append_right _ (List.mem_append_right _ (List.mem_append_right _ (List.mem_append_left _ (List.mem_of_getElem? (i := 26) rfl))))))))))
theorem kn_283 : Cond.code yX4_makeSlot cX4_makeSlot 8 none ∈ kn_T := (List.mem_append_right _ (List.mem_append_right _ (List.mem_append_right _ (List.mem_append_right _ (List.mem_append_right _ (List.mem_append_right _ (List.mem_append_right _ (List.mem_append_right _ (List.mem_append_left _ (List.mem_of_getElem? (i := 27) rfl))))))))))
theorem kn_284 : Cond.methodLink RX4 53 yX4_cover ∈ kn_T := (List.mem_append_right _ (List.mem_append_right _ (List.mem_append_right _ (List.mem_append_right _ (List.mem_append_right _ (List.mem_append_right _ (List.mem_append_right _ (List.mem_append_right _ (List.mem_append_left _ (List.mem_of_getElem? (i := 28) rfl))))))))))
theorem kn_285 : Cond.instanceMethod yX4_cover ∈ kn_T := (List.mem_append_right _ (List.mem_append_right _ (List.mem_append_right _ (List.mem_append_right _ (List.mem_append_right _ (List.mem_append_right _ (List.mem_append_right _ (List.mem_append_right _ (List.mem_append_left _ (List.mem_of_getElem? (i := 29) rfl))))))))))
theorem kn_286 : Cond.code yX4_cover cX4_cover 3 (some .int) ∈ kn_T := (List.mem_append_right _ (List.mem_append_right _ (List.mem_append_right _ (List.mem_append_right _ (List.mem_append_right _ (List.mem_append_right _ (List.mem_append_right _ (List.mem_append_right _ (List.mem_append_left _ (List.mem_of_getElem? (i := 30) rfl))))))))))
theorem kn_287 : Cond.methodLink RX4 57 yX4_slotKey ∈ kn_T := (List.mem_append_right _ (List.mem_append_right _ (List.mem_append_right _ (List.mem_append_right _ (List.mem_append_right _ (List.mem_append_right _ (List.mem_append_right _ (List.mem_append_right _ (List.mem_append_left _ (List.mem_of_getElem? (i := 31) rfl))))))))))
theorem kn_288 : Cond.static yX4_slotKey ∈ kn_T := (List.mem_append_right _ (List.mem_append_right _ (List.mem_append_right _ (List.mem_append_right _ (List.mem_append_right _ (List.mem_append_right _ (List.mem_append_right _ (List.mem_append_right _ (List.mem_append_right _ (List.mem_append_left _ (List.mem_of_getElem? (i := 0) rfl)))))))))))
theorem kn_289 : Cond.code yX4_slotKey cX4_slotKey 6 (some .int) ∈ kn_T := (List.mem_append_right _ (List.mem_append_right _ (List.mem_append_right _ (List.mem_append_right _ (List.mem_append_right _ (List.mem_append_right _ (List.mem_append_right _ (List.mem_append_right _ (List.mem_append_right _ (List.mem_append_left _ (List.mem_of_getElem? (i := 1) rfl)))))))))))
theorem kn_290 : Cond.methodLink RX4 44 yX4_enc ∈ kn_T := (List.mem_append_right _ (List.mem_append_right _ (List.mem_append_right _ (List.mem_append_right _ (List.mem_append_right _ (List.mem_append_right _ (List.mem_append_right _ (List.mem_append_right _ (List.mem_append_right _ (List.mem_append_left _ (List.mem_of_getElem? (i := 2) rfl)))))))))))
theorem kn_291 : Cond.static yX4_enc ∈ kn_T := (List.mem_append_right _ (List.mem_append_right _ (List.mem_append_right _ (List.mem_append_right _ (List.mem_append_right _ (List.mem_append_right _ (List.mem_append_right _ (List.mem_append_right _ (List.mem_append_right _ (List.mem_append_left _ (List.mem_of_getElem? (i := 3) rfl)))))))))))
theorem kn_292 : Cond.code yX4_enc cX4_enc 6 (some .int) ∈ kn_T := (List.mem_append_right _ (List.mem_append_right _ (List.mem_append_right _ (List.mem_append_right _ (List.mem_append_right _ (List.mem_append_right _ (List.mem_append_right _ (List.mem_append_right _ (List.mem_append_right _ (List.mem_append_left _ (List.mem_of_getElem? (i := 4) rfl)))))))))))
theorem kn_293 : Cond.constant RX4 39 65535 ∈ kn_T := (List.mem_append_right _ (List.mem_append_right _ (List.mem_append_right _ (List.mem_append_right _ (List.mem_append_right _ (List.mem_append_right _ (List.mem_append_right _ (List.mem_append_right _ (List.mem_append_right _ (List.mem_append_left _ (List.mem_of_getElem? (i := 5) rfl)))))))))))
theorem kn_294 : Cond.methodLink RX4 40 yX4_round ∈ kn_T := (List.mem_append_right _ (List.mem_append_right _ (List.mem_append_right _ (List.mem_append_right _ (List.mem_append_right _ (List.mem_append_right _ (List.mem_append_right _ (List.mem_append_right _ (List.mem_append_right _ (List.mem_append_left _ (List.mem_of_getElem? (i := 6) rfl)))))))))))
theorem kn_295 : Cond.static yX4_round ∈ kn_T := (List.mem_append_right _ (List.mem_append_right _ (List.mem_append_right _ (List.mem_append_right _ (List.mem_append_right _ (List.mem_append_right _ (List.mem_append_right _ (List.mem_append_right _ (List.mem_append_right _ (List.mem_append_left _ (List.mem_of_getElem? (i := 7) rfl)))))))))))
theorem kn_296 : Cond.code yX4_round cX4_round 4 (some .int) ∈ kn_T := (List.mem_append_right _ (List.mem_append_right _ (List.mem_append_right _ (List.mem_append_right _ (List.mem_append_right _ (List.mem_append_right _ (List.mem_append_right _ (List.mem_append_right _ (List.mem_append_right _ (List.mem_append_left _ (List.mem_of_getElem? (i := 8) rfl)))))))))))
theorem kn_297 : Cond.methodLink RX4 99 yX4_hide ∈ kn_T := (List.mem_append_right _ (List.mem_append_right _ (List.mem_append_right _ (List.mem_append_right _ (List.mem_append_right _ (List.mem_append_right _ (List.mem_append_right _ (List.mem_append_right _ (List.mem_append_right _ (List.mem_append_left _ (List.mem_of_getElem? (i := 9) rfl)))))))))))
theorem kn_298 : Cond.static yX4_hide ∈ kn_T := (List.mem_append_right _ (List.mem_append_right _ (List.mem_append_right _ (List.mem_append_right _ (List.mem_append_right _ (List.mem_append_right _ (List.mem_append_right _ (List.mem_append_right _ (List.mem_append_right _ (List.mem_append_left _ (List.mem_of_getElem? (i := 10) rfl)))))))))))
theorem kn_299 : Cond.code yX4_hide cX4_hide 6 (some .int) ∈ kn_T := (List.mem_append_right _ (List.mem_append_right _ (List.mem_append_right _ (List.mem_append_right _ (List.mem_append_right _ (List.mem_append_right _ (List.mem_append_right _ (List.mem_append_right _ (List.mem_append_right _ (List.mem_append_left _ (List.mem_of_getElem? (i := 11) rfl)))))))))))
theorem kn_300 : Cond.methodLink RX4 47 yX4_mask ∈ kn_T := (List.mem_append_right _ (List.mem_append_right _ (List.mem_append_right _ (List.mem_append_right _ (List.mem_append_right _ (List.mem_append_right _ (List.mem_append_right _ (List.mem_append_right _ (List.mem_append_right _ (List.mem_append_left _ (List.mem_of_getElem? (i := 12) rfl)))))))))))
theorem kn_301 : Cond.static yX4_mask ∈ kn_T := (List.mem_append_right _ (List.mem_append_right _ (List.mem_append_right _ (List.mem_append_right _ (List.mem_append_right _ (List.mem_append_right _ (List.mem_append_right _ (List.mem_append_right _ (List.mem_append_right _ (List.mem_append_left _ (List.mem_of_getElem? (i := 13) rfl)))))))))))
theorem kn_302 : Cond.code yX4_mask cX4_mask 5 (some .int) ∈ kn_T := (List.mem_append_right _ (List.mem_append_right _ (List.mem_append_right _ (List.mem_append_right _ (List.mem_append_right _ (List.mem_append_right _ (List.mem_append_right _ (List.mem_append_right _ (List.mem_append_right _ (List.mem_append_left _ (List.mem_of_getElem? (i := 14) rfl)))))))))))
theorem kn_303 : Cond.methodLink RX4 76 yX4_plan ∈ kn_T := (List.mem_append_right _ (List.mem_append_right _ (List.mem_append_right _ (List.mem_append_right _ (List.mem_append_right _ (List.mem_append_right _ (List.mem_append_right _ (List.mem_append_right _ (List.mem_append_right _ (List.mem_append_left _ (List.mem_of_getElem? (i := 15) rfl)))))))))))
theorem kn_304 : Cond.instanceMethod yX4_plan ∈ kn_T := (List.mem_append_right _ (List.mem_append_right _ (List.mem_append_right _ (List.mem_append_right _ (List.mem_append_right _ (List.mem_append_right _ (List.mem_append_right _ (List.mem_append_right _ (List.mem_append_right _ (List.mem_append_left _ (List.mem_of_getElem? (i := 16) rfl)))))))))))
theorem kn_305 : Cond.code yX4_plan cX4_plan 3 none ∈ kn_T := (List.mem_append_right _ (List.mem_append_right _ (List.mem_append_right _ (List.mem_append_right _ (List.mem_append_right _ (List.mem_append_right _ (List.mem_append_right _ (List.mem_append_right _ (List.mem_append_right _ (List.mem_append_left _ (List.mem_of_getElem? (i := 17) rfl)))))))))))
theorem kn_306 : Cond.constant RX4 103 1396855379 ∈ kn_T := (List.mem_append_right _ (List.mem_append_right _ (List.mem_append_right _ (List.mem_append_right _ (List.mem_append_right _ (List.mem_append_right _ (List.mem_append_right _ (List.mem_append_right _ (List.mem_append_right _ (List.mem_append_left _ (List.mem_of_getElem? (i := 18) rfl)))))))))))
theorem kn_307 : Cond.methodLink RX4 104 yX4_perform ∈ kn_T := (List.mem_append_right _ (List.mem_append_right _ (List.mem_append_right _ (List.mem_append_right _ (List.mem_append_right _ (List.mem_append_right _ (List.mem_append_right _ (List.mem_append_right _ (List.mem_append_right _ (List.mem_append_left _ (List.mem_of_getElem? (i := 19) rfl)))))))))))
theorem kn_308 : Cond.instanceMethod yX4_perform ∈ kn_T := (List.mem_append_right _ (List.mem_append_right _ (List.mem_append_right _ (List.mem_append_right _ (List.mem_append_right _ (List.mem_append_right _ (List.mem_append_right _ (List.mem_append_right _ (List.mem_append_right _ (List.mem_append_left _ (List.mem_of_getElem? (i := 20) rfl)))))))))))
theorem kn_309 : Cond.code yX4_perform cX4_perform 2 (some .boolean) ∈ kn_T := (List.mem_append_right _ (List.mem_append_right _ (List.mem_append_right _ (List.mem_append_right _ (List.mem_append_right _ (List.mem_append_right _ (List.mem_append_right _ (List.mem_append_right _ (List.mem_append_right _ (List.mem_append_left _ (List.mem_of_getElem? (i := 21) rfl)))))))))))
theorem kn_310 : Cond.methodLink RL 27 yX4_mount ∈ kn_T := (List.mem_append_right _ (List.mem_append_right _ (List.mem_append_right _ (List.mem_append_right _ (List.mem_append_right _ (List.mem_append_right _ (List.mem_append_right _ (List.mem_append_right _ (List.mem_append_right _ (List.mem_append_left _ (List.mem_of_getElem? (i := 22) rfl)))))))))))
theorem kn_311 : Cond.instanceMethod yX4_mount ∈ kn_T := (List.mem_append_right _ (List.mem_append_right _ (List.mem_append_right _ (List.mem_append_right _ (List.mem_append_right _ (List.mem_append_right _ (List.mem_append_right _ (List.mem_append_right _ (List.mem_append_right _ (List.mem_append_left _ (List.mem_of_getElem? (i := 23) rfl)))))))))))
theorem kn_312 : Cond.selects RX4 yX4_mount yX4_mount ∈ kn_T := (List.mem_append_right _ (List.mem_append_right _ (List.mem_append_right _ (List.mem_append_right _ (List.mem_append_right _ (List.mem_append_right _ (List.mem_append_right _ (List.mem_append_right _ (List.mem_append_right _ (List.mem_append_left _ (List.mem_of_getElem? (i := 24) rfl)))))))))))
theorem kn_313 : Cond.code yX4_mount cX4_mount 1 (some .int) ∈ kn_T := (List.mem_append_right _ (List.mem_append_right _ (List.mem_append_right _ (List.mem_append_right _ (List.mem_append_right _ (List.mem_append_right _ (List.mem_append_right _ (List.mem_append_right _ (List.mem_append_right _ (List.mem_append_left _ (List.mem_of_getElem? (i := 25) rfl)))))))))))
theorem kn_314 : Cond.methodLink RX4 86 yX4_planFinish ∈ kn_T := (List.mem_append_right _ (List.mem_append_right _ (List.mem_append_right _ (List.mem_append_right _ (List.mem_append_right _ (List.mem_append_right _ (List.mem_append_right _ (List.mem_append_right _ (List.mem_append_right _ (List.mem_append_left _ (List.mem_of_getElem? (i := 26) rfl)))))))))))
theorem kn_315 : Cond.instanceMethod yX4_planFinish ∈ kn_T := (List.mem_append_right _ (List.mem_append_right _ (List.mem_append_right _ (List.mem_append_right _ (List.mem_append_right _ (List.mem_append_right _ (List.mem_append_right _ (List.mem_append_right _ (List.mem_append_right _ (List.mem_append_left _ (List.mem_of_getElem? (i := 27) rfl)))))))))))
theorem kn_316 : Cond.code yX4_planFinish cX4_planFinish 4 none ∈ kn_T := (List.mem_append_right _ (List.mem_append_right _ (List.mem_append_right _ (List.mem_append_right _ (List.mem_append_right _ (List.mem_append_right _ (List.mem_append_right _ (List.mem_append_right _ (List.mem_append_right _ (List.mem_append_left _ (List.mem_of_getElem? (i := 28) rfl)))))))))))
theorem kn_317 : Cond.methodLink RX4 80 yX4_planClean ∈ kn_T := (List.mem_append_right _ (List.mem_append_right _ (List.mem_append_right _ (List.mem_append_right _ (List.mem_append_right _ (List.mem_append_right _ (List.mem_append_right _ (List.mem_append_right _ (List.mem_append_right _ (List.mem_append_left _ (List.mem_of_getElem? (i := 29) rfl)))))))))))
theorem kn_318 : Cond.instanceMethod yX4_planClean ∈ kn_T := (List.mem_append_right _ (List.mem_append_right _ (List.mem_append_right _ (List.mem_append_right _ (List.mem_append_right _ (List.mem_append_right _ (List.mem_append_right _ (List.mem_append_right _ (List.mem_append_right _ (List.mem_append_left _ (List.mem_of_getElem? (i := 30) rfl)))))))))))
theorem kn_319 : Cond.code yX4_planClean cX4_planClean 2 none ∈ kn_T := (List.mem_append_right _ (List.mem_append_right _ (List.mem_append_right _ (List.mem_append_right _ (List.mem_append_right _ (List.mem_append_right _ (List.mem_append_right _ (List.mem_append_right _ (List.mem_append_right _ (List.mem_append_left _ (List.mem_of_getElem? (i := 31) rfl)))))))))))
theorem kn_320 : Cond.methodLink RX4 108 yX4_count ∈ kn_T := (List.mem_append_right _ (List.mem_append_right _ (List.mem_append_right _ (List.mem_append_right _ (List.mem_append_right _ (List.mem_append_right _ (List.mem_append_right _ (List.mem_append_right _ (List.mem_append_right _ (List.mem_append_right _ (List.mem_append_left _ (List.mem_of_getElem? (i := 0) rfl))))))))))))
theorem kn_321 : Cond.instanceMethod yX4_count ∈ kn_T := (List.mem_append_right _ (List.mem_append_right _ (List.mem_append_right _ (List.mem_append_right _ (List.mem_append_right _ (List.mem_append_right _ (List.mem_append_right _ (List.mem_append_right _ (List.mem_append_right _ (List.mem_append_right _ (List.mem_append_left _ (List.mem_of_getElem? (i := 1) rfl))))))))))))
theorem kn_322 : Cond.code yX4_count cX4_count 3 (some .int) ∈ kn_T := (List.mem_append_right _ (List.mem_append_right _ (List.mem_append_right _ (List.mem_append_right _ (List.mem_append_right _ (List.mem_append_right _ (List.mem_append_right _ (List.mem_append_right _ (List.mem_append_right _ (List.mem_append_right _ (List.mem_append_left _ (List.mem_of_getElem? (i := 2) rfl))))))))))))
theorem kn_323 : Cond.methodLink RX4 66 yX4_active ∈ kn_T := (List.mem_append_right _ (List.mem_append_right _ (List.mem_append_right _ (List.mem_append_right _ (List.mem_append_right _ (List.mem_append_right _ (List.mem_append_right _ (List.mem_append_right _ (List.mem_append_right _ (List.mem_append_right _ (List.mem_append_left _ (List.mem_of_getElem? (i := 3) rfl))))))))))))
theorem kn_324 : Cond.instanceMethod yX4_active ∈ kn_T := (List.mem_append_right _ (List.mem_append_right _ (List.mem_append_right _ (List.mem_append_right _ (List.mem_append_right _ (List.mem_append_right _ (List.mem_append_right _ (List.mem_append_right _ (List.mem_append_right _ (List.mem_append_right _ (List.mem_append_left _ (List.mem_of_getElem? (i := 4) rfl))))))))))))
theorem kn_325 : Cond.code yX4_active cX4_active 2 (some .boolean) ∈ kn_T := (List.mem_append_right _ (List.mem_append_right _ (List.mem_append_right _ (List.mem_append_right _ (List.mem_append_right _ (List.mem_append_right _ (List.mem_append_right _ (List.mem_append_right _ (List.mem_append_right _ (List.mem_append_right _ (List.mem_append_left _ (List.mem_of_getElem? (i := 5) rfl))))))))))))
theorem kn_326 : Cond.methodLink RL 32 yX4_unlock ∈ kn_T := (List.mem_append_right _ (List.mem_append_right _ (List.mem_append_right _ (List.mem_append_right _ (List.mem_append_right _ (List.mem_append_right _ (List.mem_append_right _ (List.mem_append_right _ (List.mem_append_right _ (List.mem_append_right _ (List.mem_append_left _ (List.mem_of_getElem? (i := 6) rfl))))))))))))
theorem kn_327 : Cond.instanceMethod yX4_unlock ∈ kn_T := (List.mem_append_right _ (List.mem_append_right _ (List.mem_append_right _ (List.mem_append_right _ (List.mem_append_right _ (List.mem_append_right _ (List.mem_append_right _ (List.mem_append_right _ (List.mem_append_right _ (List.mem_append_right _ (List.mem_append_left _ (List.mem_of_getElem? (i := 7) rfl))))))))))))
theorem kn_328 : Cond.selects RX4 yX4_unlock yX4_unlock ∈ kn_T := (List.mem_append_right _ (List.mem_append_right _ (List.mem_append_right _ (List.mem_append_right _ (List.mem_append_right _ (List.mem_append_right _ (List.mem_append_right _ (List.mem_append_right _ (List.mem_append_right _ (List.mem_append_right _ (List.mem_append_left _ (List.mem_of_getElem? (i := 8) rfl))))))))))))
theorem kn_329 : Cond.code yX4_unlock cX4_unlock 3 (some .int) ∈ kn_T := (List.mem_append_right _ (List.mem_append_right _ (List.mem_append_right _ (List.mem_append_right _ (List.mem_append_right _ (List.mem_append_right _ (List.mem_append_right _ (List.mem_append_right _ (List.mem_append_right _ (List.mem_append_right _ (List.mem_append_left _ (List.mem_of_getElem? (i := 9) rfl))))))))))))
theorem kn_330 : Cond.methodLink RX4 112 yX4_opens ∈ kn_T := (List.mem_append_right _ (List.mem_append_right _ (List.mem_append_right _ (List.mem_append_right _ (List.mem_append_right _ (List.mem_append_right _ (List.mem_append_right _ (List.mem_append_right _ (List.mem_append_right _ (List.mem_append_right _ (List.mem_append_left _ (List.mem_of_getElem? (i := 10) rfl))))))))))))
theorem kn_331 : Cond.instanceMethod yX4_opens ∈ kn_T := (List.mem_append_right _ (List.mem_append_right _ (List.mem_append_right _ (List.mem_append_right _ (List.mem_append_right _ (List.mem_append_right _ (List.mem_append_right _ (List.mem_append_right _ (List.mem_append_right _ (List.mem_append_right _ (List.mem_append_left _ (List.mem_of_getElem? (i := 11) rfl))))))))))))
theorem kn_332 : Cond.code yX4_opens cX4_opens 6 (some .boolean) ∈ kn_T := (List.mem_append_right _ (List.mem_append_right _ (List.mem_append_right _ (List.mem_append_right _ (List.mem_append_right _ (List.mem_append_right _ (List.mem_append_right _ (List.mem_append_right _ (List.mem_append_right _ (List.mem_append_right _ (List.mem_append_left _ (List.mem_of_getElem? (i := 12) rfl))))))))))))
theorem kn_333 : Cond.methodLink RX4 50 yX4_dec ∈ kn_T := (List.mem_append_right _ (List.mem_append_right _ (List.mem_append_right _ (List.mem_append_right _ (List.mem_append_right _ (List.mem_append_right _ (List.mem_append_right _ (List.mem_append_right _ (List.mem_append_right _ (List.mem_append_right _ (List.mem_append_left _ (List.mem_of_getElem? (i := 13) rfl))))))))))))
theorem kn_334 : Cond.static yX4_dec ∈ kn_T := (List.mem_append_right _ (List.mem_append_right _ (List.mem_append_right _ (List.mem_append_right _ (List.mem_append_right _ (List.mem_append_right _ (List.mem_append_right _ (List.mem_append_right _ (List.mem_append_right _ (List.mem_append_right _ (List.mem_append_left _ (List.mem_of_getElem? (i := 14) rfl))))))))))))
theorem kn_335 : Cond.code yX4_dec cX4_dec 6 (some .int) ∈ kn_T := (List.mem_append_right _ (List.mem_append_right _ (List.mem_append_right _ (List.mem_append_right _ (List.mem_append_right _ (List.mem_append_right _ (List.mem_append_right _ (List.mem_append_right _ (List.mem_append_right _ (List.mem_append_right _ (List.mem_append_left _ (List.mem_of_getElem? (i := 15) rfl))))))))))))
theorem kn_336 : Cond.methodLink RL 36 yX4_lock ∈ kn_T := (List.mem_append_right _ (List.mem_append_right _ (List.mem_append_right _ (List.mem_append_right _ (List.mem_append_right _ (List.mem_append_right _ (List.mem_append_right _ (List.mem_append_right _ (List.mem_append_right _ (List.mem_append_right _ (List.mem_append_left _ (List.mem_of_getElem? (i := 16) rfl))))))))))))
theorem kn_337 : Cond.instanceMethod yX4_lock ∈ kn_T := (List.mem_append_right _ (List.mem_append_right _ (List.mem_append_right _ (List.mem_append_right _ (List.mem_append_right _ (List.mem_append_right _ (List.mem_append_right _ (List.mem_append_right _ (List.mem_append_right _ (List.mem_append_right _ (List.mem_append_left _ (List.mem_of_getElem? (i := 17) rfl))))))))))))
theorem kn_338 : Cond.selects RX4 yX4_lock yX4_lock ∈ kn_T := (List.mem_append_right _ (List.mem_append_right _ (List.mem_append_right _ (List.mem_append_right _ (List.mem_append_right _ (List.mem_append_right _ (List.mem_append_right _ (List.mem_append_right _ (List.mem_append_right _ (List.mem_append_right _ (List.mem_append_left _ (List.mem_of_getElem? (i := 18) rfl))))))))))))
theorem kn_339 : Cond.code yX4_lock cX4_lock 2 (some .int) ∈ kn_T := (List.mem_append_right _ (List.mem_append_right _ (List.mem_append_right _ (List.mem_append_right _ (List.mem_append_right _ (List.mem_append_right _ (List.mem_append_right _ (List.mem_append_right _ (List.mem_append_right _ (List.mem_append_right _ (List.mem_append_left _ (List.mem_of_getElem? (i := 19) rfl))))))))))))
theorem kn_340 : Cond.methodLink RL 41 yX4_add ∈ kn_T := (List.mem_append_right _ (List.mem_append_right _ (List.mem_append_right _ (List.mem_append_right _ (List.mem_append_right _ (List.mem_append_right _ (List.mem_append_right _ (List.mem_append_right _ (List.mem_append_right _ (List.mem_append_right _ (List.mem_append_left _ (List.mem_of_getElem? (i := 20) rfl))))))))))))
theorem kn_341 : Cond.instanceMethod yX4_add ∈ kn_T := (List.mem_append_right _ (List.mem_append_right _ (List.mem_append_right _ (List.mem_append_right _ (List.mem_append_right _ (List.mem_append_right _ (List.mem_append_right _ (List.mem_append_right _ (List.mem_append_right _ (List.mem_append_right _ (List.mem_append_left _ (List.mem_of_getElem? (i := 21) rfl))))))))))))
theorem kn_342 : Cond.selects RX4 yX4_add yX4_add ∈ kn_T := (List.mem_append_right _ (List.mem_append_right _ (List.mem_append_right _ (List.mem_append_right _ (List.mem_append_right _ (List.mem_append_right _ (List.mem_append_right _ (List.mem_append_right _ (List.mem_append_right _ (List.mem_append_right _ (List.mem_append_left _ (List.mem_of_getElem? (i := 22) rfl))))))))))))
theorem kn_343 : Cond.code yX4_add cX4_add 4 (some .int) ∈ kn_T := (List.mem_append_right _ (List.mem_append_right _ (List.mem_append_right _ (List.mem_append_right _ (List.mem_append_right _ (List.mem_append_right _ (List.mem_append_right _ (List.mem_append_right _ (List.mem_append_right _ (List.mem_append_right _ (List.mem_append_left _ (List.mem_of_getElem? (i := 23) rfl))))))))))))
theorem kn_344 : Cond.methodLink RX4 122 yX4_closed ∈ kn_T := (List.mem_append_right _ (List.mem_append_right _ (List.mem_append_right _ (List.mem_append_right _ (List.mem_append_right _ (List.mem_append_right _ (List.mem_append_right _ (List.mem_append_right _ (List.mem_append_right _ (List.mem_append_right _ (List.mem_append_left _ (List.mem_of_getElem? (i := 24) rfl))))))))))))
theorem kn_345 : Cond.instanceMethod yX4_closed ∈ kn_T := (List.mem_append_right _ (List.mem_append_right _ (List.mem_append_right _ (List.mem_append_right _ (List.mem_append_right _ (List.mem_append_right _ (List.mem_append_right _ (List.mem_append_right _ (List.mem_append_right _ (List.mem_append_right _ (List.mem_append_left _ (List.mem_of_getElem? (i := 25) rfl))))))))))))
theorem kn_346 : Cond.code yX4_closed cX4_closed 1 (some .int) ∈ kn_T := (List.mem_append_right _ (List.mem_append_right _ (List.mem_append_right _ (List.mem_append_right _ (List.mem_append_right _ (List.mem_append_right _ (List.mem_append_right _ (List.mem_append_right _ (List.mem_append_right _ (List.mem_append_right _ (List.mem_append_left _ (List.mem_of_getElem? (i := 26) rfl))))))))))))
theorem kn_347 : Cond.methodLink RX4 125 yX4_planChange ∈ kn_T := (List.mem_append_right _ (List.mem_append_right _ (List.mem_append_right _ (List.mem_append_right _ (List.mem_append_right _ (List.mem_append_right _ (List.mem_append_right _ (List.mem_append_right _ (List.mem_append_right _ (List.mem_append_right _ (List.mem_append_left _ (List.mem_of_getElem? (i := 27) rfl))))))))))))
theorem kn_348 : Cond.instanceMethod yX4_planChange ∈ kn_T := (List.mem_append_right _ (List.mem_append_right _ (List.mem_append_right _ (List.mem_append_right _ (List.mem_append_right _ (List.mem_append_right _ (List.mem_append_right _ (List.mem_append_right _ (List.mem_append_right _ (List.mem_append_right _ (List.mem_append_left _ (List.mem_of_getElem? (i := 28) rfl))))))))))))
theorem kn_349 : Cond.code yX4_planChange cX4_planChange 4 none ∈ kn_T := (List.mem_append_right _ (List.mem_append_right _ (List.mem_append_right _ (List.mem_append_right _ (List.mem_append_right _ (List.mem_append_right _ (List.mem_append_right _ (List.mem_append_right _ (List.mem_append_right _ (List.mem_append_right _ (List.mem_append_left _ (List.mem_of_getElem? (i := 29) rfl))))))))))))
theorem kn_350 : Cond.methodLink RL 46 yX4_change ∈ kn_T := (List.mem_append_right _ (List.mem_append_right _ (List.mem_append_right _ (List.mem_append_right _ (List.mem_append_right _ (List.mem_append_right _ (List.mem_append_right _ (List.mem_append_right _ (List.mem_append_right _ (List.mem_append_right _ (List.mem_append_left _ (List.mem_of_getElem? (i := 30) rfl))))))))))))
theorem kn_351 : Cond.instanceMethod yX4_change ∈ kn_T := (List.mem_append_right _ (List.mem_append_right _ (List.mem_append_right _ (List.mem_append_right _ (List.mem_append_right _ (List.mem_append_right _ (List.mem_append_right _ (List.mem_append_right _ (List.mem_append_right _ (List.mem_append_right _ (List.mem_append_left _ (List.mem_of_getElem? (i := 31) rfl))))))))))))
theorem kn_352 : Cond.selects RX4 yX4_change yX4_change ∈ kn_T := (List.mem_append_right _ (List.mem_append_right _ (List.mem_append_right _ (List.mem_append_right _ (List.mem_append_right _ (List.mem_append_right _ (List.mem_append_right _ (List.mem_append_right _ (List.mem_append_right _ (List.mem_append_right _ (List.mem_append_right _ (List.mem_append_left _ (List.mem_of_getElem? (i := 0) rfl)))))))))))))
theorem kn_353 : Cond.code yX4_change cX4_change 4 (some .int) ∈ kn_T := (List.mem_append_right _ (List.mem_append_right _ (List.mem_append_right _ (List.mem_append_right _ (List.mem_append_right _ (List.mem_append_right _ (List.mem_append_right _ (List.mem_append_right _ (List.mem_append_right _ (List.mem_append_right _ (List.mem_append_right _ (List.mem_append_left _ (List.mem_of_getElem? (i := 1) rfl)))))))))))))
theorem kn_354 : Cond.methodLink RX4 128 yX4_badSlot ∈ kn_T := (List.mem_append_right _ (List.mem_append_right _ (List.mem_append_right _ (List.mem_append_right _ (List.mem_append_right _ (List.mem_append_right _ (List.mem_append_right _ (List.mem_append_right _ (List.mem_append_right _ (List.mem_append_right _ (List.mem_append_right _ (List.mem_append_left _ (List.mem_of_getElem? (i := 2) rfl)))))))))))))
theorem kn_355 : Cond.instanceMethod yX4_badSlot ∈ kn_T := (List.mem_append_right _ (List.mem_append_right _ (List.mem_append_right _ (List.mem_append_right _ (List.mem_append_right _ (List.mem_append_right _ (List.mem_append_right _ (List.mem_append_right _ (List.mem_append_right _ (List.mem_append_right _ (List.mem_append_right _ (List.mem_append_left _ (List.mem_of_getElem? (i := 3) rfl)))))))))))))
theorem kn_356 : Cond.code yX4_badSlot cX4_badSlot 2 (some .int) ∈ kn_T := (List.mem_append_right _ (List.mem_append_right _ (List.mem_append_right _ (List.mem_append_right _ (List.mem_append_right _ (List.mem_append_right _ (List.mem_append_right _ (List.mem_append_right _ (List.mem_append_right _ (List.mem_append_right _ (List.mem_append_right _ (List.mem_append_left _ (List.mem_of_getElem? (i := 4) rfl)))))))))))))
theorem kn_357 : Cond.methodLink RL 50 yX4_revoke ∈ kn_T := (List.mem_append_right _ (List.mem_append_right _ (List.mem_append_right _ (List.mem_append_right _ (List.mem_append_right _ (List.mem_append_right _ (List.mem_append_right _ (List.mem_append_right _ (List.mem_append_right _ (List.mem_append_right _ (List.mem_append_right _ (List.mem_append_left _ (List.mem_of_getElem? (i := 5) rfl)))))))))))))
theorem kn_358 : Cond.instanceMethod yX4_revoke ∈ kn_T := (List.mem_append_right _ (List.mem_append_right _ (List.mem_append_right _ (List.mem_append_right _ (List.mem_append_right _ (List.mem_append_right _ (List.mem_append_right _ (List.mem_append_right _ (List.mem_append_right _ (List.mem_append_right _ (List.mem_append_right _ (List.mem_append_left _ (List.mem_of_getElem? (i := 6) rfl)))))))))))))
theorem kn_359 : Cond.selects RX4 yX4_revoke yX4_revoke ∈ kn_T := (List.mem_append_right _ (List.mem_append_right _ (List.mem_append_right _ (List.mem_append_right _ (List.mem_append_right _ (List.mem_append_right _ (List.mem_append_right _ (List.mem_append_right _ (List.mem_append_right _ (List.mem_append_right _ (List.mem_append_right _ (List.mem_append_left _ (List.mem_of_getElem? (i := 7) rfl)))))))))))))
theorem kn_360 : Cond.code yX4_revoke cX4_revoke 3 (some .int) ∈ kn_T := (List.mem_append_right _ (List.mem_append_right _ (List.mem_append_right _ (List.mem_append_right _ (List.mem_append_right _ (List.mem_append_right _ (List.mem_append_right _ (List.mem_append_right _ (List.mem_append_right _ (List.mem_append_right _ (List.mem_append_right _ (List.mem_append_left _ (List.mem_of_getElem? (i := 8) rfl)))))))))))))
theorem kn_361 : Cond.methodLink RL 54 yX4_write ∈ kn_T := (List.mem_append_right _ (List.mem_append_right _ (List.mem_append_right _ (List.mem_append_right _ (List.mem_append_right _ (List.mem_append_right _ (List.mem_append_right _ (List.mem_append_right _ (List.mem_append_right _ (List.mem_append_right _ (List.mem_append_right _ (List.mem_append_left _ (List.mem_of_getElem? (i := 9) rfl)))))))))))))
theorem kn_362 : Cond.instanceMethod yX4_write ∈ kn_T := (List.mem_append_right _ (List.mem_append_right _ (List.mem_append_right _ (List.mem_append_right _ (List.mem_append_right _ (List.mem_append_right _ (List.mem_append_right _ (List.mem_append_right _ (List.mem_append_right _ (List.mem_append_right _ (List.mem_append_right _ (List.mem_append_left _ (List.mem_of_getElem? (i := 10) rfl)))))))))))))
theorem kn_363 : Cond.selects RX4 yX4_write yX4_write ∈ kn_T := (List.mem_append_right _ (List.mem_append_right _ (List.mem_append_right _ (List.mem_append_right _ (List.mem_append_right _ (List.mem_append_right _ (List.mem_append_right _ (List.mem_append_right _ (List.mem_append_right _ (List.mem_append_right _ (List.mem_append_right _ (List.mem_append_left _ (List.mem_of_getElem? (i := 11) rfl)))))))))))))
theorem kn_364 : Cond.code yX4_write cX4_write 6 (some .int) ∈ kn_T := (List.mem_append_right _ (List.mem_append_right _ (List.mem_append_right _ (List.mem_append_right _ (List.mem_append_right _ (List.mem_append_right _ (List.mem_append_right _ (List.mem_append_right _ (List.mem_append_right _ (List.mem_append_right _ (List.mem_append_right _ (List.mem_append_left _ (List.mem_of_getElem? (i := 12) rfl)))))))))))))
theorem kn_365 : Cond.methodLink RX4 131 yX4_badWord ∈ kn_T := (List.mem_append_right _ (List.mem_append_right _ (List.mem_append_right _ (List.mem_append_right _ (List.mem_append_right _ (List.mem_append_right _ (List.mem_append_right _ (List.mem_append_right _ (List.mem_append_right _ (List.mem_append_right _ (List.mem_append_right _ (List.mem_append_left _ (List.mem_of_getElem? (i := 13) rfl)))))))))))))
theorem kn_366 : Cond.instanceMethod yX4_badWord ∈ kn_T := (List.mem_append_right _ (List.mem_append_right _ (List.mem_append_right _ (List.mem_append_right _ (List.mem_append_right _ (List.mem_append_right _ (List.mem_append_right _ (List.mem_append_right _ (List.mem_append_right _ (List.mem_append_right _ (List.mem_append_right _ (List.mem_append_left _ (List.mem_of_getElem? (i := 14) rfl)))))))))))))
theorem kn_367 : Cond.code yX4_badWord cX4_badWord 3 (some .int) ∈ kn_T := (List.mem_append_right _ (List.mem_append_right _ (List.mem_append_right _ (List.mem_append_right _ (List.mem_append_right _ (List.mem_append_right _ (List.mem_append_right _ (List.mem_append_right _ (List.mem_append_right _ (List.mem_append_right _ (List.mem_append_right _ (List.mem_append_left _ (List.mem_of_getElem? (i := 15) rfl)))))))))))))
theorem kn_368 : Cond.methodLink RX4 134 yX4_show ∈ kn_T := (List.mem_append_right _ (List.mem_append_right _ (List.mem_append_right _ (List.mem_append_right _ (List.mem_append_right _ (List.mem_append_right _ (List.mem_append_right _ (List.mem_append_right _ (List.mem_append_right _ (List.mem_append_right _ (List.mem_append_right _ (List.mem_append_left _ (List.mem_of_getElem? (i := 16) rfl)))))))))))))
theorem kn_369 : Cond.static yX4_show ∈ kn_T := (List.mem_append_right _ (List.mem_append_right _ (List.mem_append_right _ (List.mem_append_right _ (List.mem_append_right _ (List.mem_append_right _ (List.mem_append_right _ (List.mem_append_right _ (List.mem_append_right _ (List.mem_append_right _ (List.mem_append_right _ (List.mem_append_left _ (List.mem_of_getElem? (i := 17) rfl)))))))))))))
theorem kn_370 : Cond.code yX4_show cX4_show 6 (some .int) ∈ kn_T := (List.mem_append_right _ (List.mem_append_right _ (List.mem_append_right _ (List.mem_append_right _ (List.mem_append_right _ (List.mem_append_right _ (List.mem_append_right _ (List.mem_append_right _ (List.mem_append_right _ (List.mem_append_right _ (List.mem_append_right _ (List.mem_append_left _ (List.mem_of_getElem? (i := 18) rfl)))))))))))))
theorem kn_371 : Cond.methodLink RL 59 yX4_read ∈ kn_T := (List.mem_append_right _ (List.mem_append_right _ (List.mem_append_right _ (List.mem_append_right _ (List.mem_append_right _ (List.mem_append_right _ (List.mem_append_right _ (List.mem_append_right _ (List.mem_append_right _ (List.mem_append_right _ (List.mem_append_right _ (List.mem_append_left _ (List.mem_of_getElem? (i := 19) rfl)))))))))))))
theorem kn_372 : Cond.instanceMethod yX4_read ∈ kn_T := (List.mem_append_right _ (List.mem_append_right _ (List.mem_append_right _ (List.mem_append_right _ (List.mem_append_right _ (List.mem_append_right _ (List.mem_append_right _ (List.mem_append_right _ (List.mem_append_right _ (List.mem_append_right _ (List.mem_append_right _ (List.mem_append_left _ (List.mem_of_getElem? (i := 20) rfl)))))))))))))
theorem kn_373 : Cond.selects RX4 yX4_read yX4_read ∈ kn_T := (List.mem_append_right _ (List.mem_append_right _ (List.mem_append_right _ (List.mem_append_right _ (List.mem_append_right _ (List.mem_append_right _ (List.mem_append_right _ (List.mem_append_right _ (List.mem_append_right _ (List.mem_append_right _ (List.mem_append_right _ (List.mem_append_left _ (List.mem_of_getElem? (i := 21) rfl)))))))))))))
theorem kn_374 : Cond.code yX4_read cX4_read 4 (some .long) ∈ kn_T := (List.mem_append_right _ (List.mem_append_right _ (List.mem_append_right _ (List.mem_append_right _ (List.mem_append_right _ (List.mem_append_right _ (List.mem_append_right _ (List.mem_append_right _ (List.mem_append_right _ (List.mem_append_right _ (List.mem_append_right _ (List.mem_append_left _ (List.mem_of_getElem? (i := 22) rfl)))))))))))))
theorem kn_375 : Cond.constantLong RX4 137 4294967296 ∈ kn_T := (List.mem_append_right _ (List.mem_append_right _ (List.mem_append_right _ (List.mem_append_right _ (List.mem_append_right _ (List.mem_append_right _ (List.mem_append_right _ (List.mem_append_right _ (List.mem_append_right _ (List.mem_append_right _ (List.mem_append_right _ (List.mem_append_left _ (List.mem_of_getElem? (i := 23) rfl)))))))))))))
theorem kn_376 : Cond.methodLink RL 63 yX4_state ∈ kn_T := (List.mem_append_right _ (List.mem_append_right _ (List.mem_append_right _ (List.mem_append_right _ (List.mem_append_right _ (List.mem_append_right _ (List.mem_append_right _ (List.mem_append_right _ (List.mem_append_right _ (List.mem_append_right _ (List.mem_append_right _ (List.mem_append_left _ (List.mem_of_getElem? (i := 24) rfl)))))))))))))
theorem kn_377 : Cond.instanceMethod yX4_state ∈ kn_T := (List.mem_append_right _ (List.mem_append_right _ (List.mem_append_right _ (List.mem_append_right _ (List.mem_append_right _ (List.mem_append_right _ (List.mem_append_right _ (List.mem_append_right _ (List.mem_append_right _ (List.mem_append_right _ (List.mem_append_right _ (List.mem_append_left _ (List.mem_of_getElem? (i := 25) rfl)))))))))))))
theorem kn_378 : Cond.selects RX4 yX4_state yX4_state ∈ kn_T := (List.mem_append_right _ (List.mem_append_right _ (List.mem_append_right _ (List.mem_append_right _ (List.mem_append_right _ (List.mem_append_right _ (List.mem_append_right _ (List.mem_append_right _ (List.mem_append_right _ (List.mem_append_right _ (List.mem_append_right _ (List.mem_append_left _ (List.mem_of_getElem? (i := 26) rfl)))))))))))))
theorem kn_379 : Cond.code yX4_state cX4_state 1 (some .int) ∈ kn_T := (List.mem_append_right _ (List.mem_append_right _ (List.mem_append_right _ (List.mem_append_right _ (List.mem_append_right _ (List.mem_append_right _ (List.mem_append_right _ (List.mem_append_right _ (List.mem_append_right _ (List.mem_append_right _ (List.mem_append_right _ (List.mem_append_left _ (List.mem_of_getElem? (i := 27) rfl)))))))))))))
theorem kn_380 : Cond.methodLink RL 67 yX4_slots ∈ kn_T := (List.mem_append_right _ (List.mem_append_right _ (List.mem_append_right _ (List.mem_append_right _ (List.mem_append_right _ (List.mem_append_right _ (List.mem_append_right _ (List.mem_append_right _ (List.mem_append_right _ (List.mem_append_right _ (List.mem_append_right _ (List.mem_append_left _ (List.mem_of_getElem? (i := 28) rfl)))))))))))))
theorem kn_381 : Cond.instanceMethod yX4_slots ∈ kn_T := (List.mem_append_right _ (List.mem_append_right _ (List.mem_append_right _ (List.mem_append_right _ (List.mem_append_right _ (List.mem_append_right _ (List.mem_append_right _ (List.mem_append_right _ (List.mem_append_right _ (List.mem_append_right _ (List.mem_append_right _ (List.mem_append_left _ (List.mem_of_getElem? (i := 29) rfl)))))))))))))
theorem kn_382 : Cond.selects RX4 yX4_slots yX4_slots ∈ kn_T := (List.mem_append_right _ (List.mem_append_right _ (List.mem_append_right _ (List.mem_append_right _ (List.mem_append_right _ (List.mem_append_right _ (List.mem_append_right _ (List.mem_append_right _ (List.mem_append_right _ (List.mem_append_right _ (List.mem_append_right _ (List.mem_append_left _ (List.mem_of_getElem? (i := 30) rfl)))))))))))))
theorem kn_383 : Cond.code yX4_slots cX4_slots 3 (some .int) ∈ kn_T := (List.mem_append_right _ (List.mem_append_right _ (List.mem_append_right _ (List.mem_append_right _ (List.mem_append_right _ (List.mem_append_right _ (List.mem_append_right _ (List.mem_append_right _ (List.mem_append_right _ (List.mem_append_right _ (List.mem_append_right _ (List.mem_append_left _ (List.mem_of_getElem? (i := 31) rfl)))))))))))))
theorem kn_384 : Cond.methodLink RL 71 yX4_peek ∈ kn_T := (List.mem_append_right _ (List.mem_append_right _ (List.mem_append_right _ (List.mem_append_right _ (List.mem_append_right _ (List.mem_append_right _ (List.mem_append_right _ (List.mem_append_right _ (List.mem_append_right _ (List.mem_append_right _ (List.mem_append_right _ (List.mem_append_right _ (List.mem_append_left _ (List.mem_of_getElem? (i := 0) rfl))))))))))))))
theorem kn_385 : Cond.instanceMethod yX4_peek ∈ kn_T := (List.mem_append_right _ (List.mem_append_right _ (List.mem_append_right _ (List.mem_append_right _ (List.mem_append_right _ (List.mem_append_right _ (List.mem_append_right _ (List.mem_append_right _ (List.mem_append_right _ (List.mem_append_right _ (List.mem_append_right _ (List.mem_append_right _ (List.mem_append_left _ (List.mem_of_getElem? (i := 1) rfl))))))))))))))
theorem kn_386 : Cond.selects RX4 yX4_peek yX4_peek ∈ kn_T := (List.mem_append_right _ (List.mem_append_right _ (List.mem_append_right _ (List.mem_append_right _ (List.mem_append_right _ (List.mem_append_right _ (List.mem_append_right _ (List.mem_append_right _ (List.mem_append_right _ (List.mem_append_right _ (List.mem_append_right _ (List.mem_append_right _ (List.mem_append_left _ (List.mem_of_getElem? (i := 2) rfl))))))))))))))
theorem kn_387 : Cond.code yX4_peek cX4_peek 2 (some .int) ∈ kn_T := (List.mem_append_right _ (List.mem_append_right _ (List.mem_append_right _ (List.mem_append_right _ (List.mem_append_right _ (List.mem_append_right _ (List.mem_append_right _ (List.mem_append_right _ (List.mem_append_right _ (List.mem_append_right _ (List.mem_append_right _ (List.mem_append_right _ (List.mem_append_left _ (List.mem_of_getElem? (i := 3) rfl))))))))))))))
theorem kn_388 : Cond.methodLink RL 75 yX4_writes ∈ kn_T := (List.mem_append_right _ (List.mem_append_right _ (List.mem_append_right _ (List.mem_append_right _ (List.mem_append_right _ (List.mem_append_right _ (List.mem_append_right _ (List.mem_append_right _ (List.mem_append_right _ (List.mem_append_right _ (List.mem_append_right _ (List.mem_append_right _ (List.mem_append_left _ (List.mem_of_getElem? (i := 4) rfl))))))))))))))
theorem kn_389 : Cond.instanceMethod yX4_writes ∈ kn_T := (List.mem_append_right _ (List.mem_append_right _ (List.mem_append_right _ (List.mem_append_right _ (List.mem_append_right _ (List.mem_append_right _ (List.mem_append_right _ (List.mem_append_right _ (List.mem_append_right _ (List.mem_append_right _ (List.mem_append_right _ (List.mem_append_right _ (List.mem_append_left _ (List.mem_of_getElem? (i := 5) rfl))))))))))))))
theorem kn_390 : Cond.selects RX4 yX4_writes yX4_writes ∈ kn_T := (List.mem_append_right _ (List.mem_append_right _ (List.mem_append_right _ (List.mem_append_right _ (List.mem_append_right _ (List.mem_append_right _ (List.mem_append_right _ (List.mem_append_right _ (List.mem_append_right _ (List.mem_append_right _ (List.mem_append_right _ (List.mem_append_right _ (List.mem_append_left _ (List.mem_of_getElem? (i := 6) rfl))))))))))))))
theorem kn_391 : Cond.code yX4_writes cX4_writes 1 (some .int) ∈ kn_T := (List.mem_append_right _ (List.mem_append_right _ (List.mem_append_right _ (List.mem_append_right _ (List.mem_append_right _ (List.mem_append_right _ (List.mem_append_right _ (List.mem_append_right _ (List.mem_append_right _ (List.mem_append_right _ (List.mem_append_right _ (List.mem_append_right _ (List.mem_append_left _ (List.mem_of_getElem? (i := 7) rfl))))))))))))))
theorem kn_392 : Cond.selects RX3 yX3_workOutVolume yX3_workOutVolume ∈ kn_T := (List.mem_append_right _ (List.mem_append_right _ (List.mem_append_right _ (List.mem_append_right _ (List.mem_append_right _ (List.mem_append_right _ (List.mem_append_right _ (List.mem_append_right _ (List.mem_append_right _ (List.mem_append_right _ (List.mem_append_right _ (List.mem_append_right _ (List.mem_append_left _ (List.mem_of_getElem? (i := 8) rfl))))))))))))))
theorem kn_393 : Cond.selects RX3 yX3_putVolume yX3_putVolume ∈ kn_T := (List.mem_append_right _ (List.mem_append_right _ (List.mem_append_right _ (List.mem_append_right _ (List.mem_append_right _ (List.mem_append_right _ (List.mem_append_right _ (List.mem_append_right _ (List.mem_append_right _ (List.mem_append_right _ (List.mem_append_right _ (List.mem_append_right _ (List.mem_append_left _ (List.mem_of_getElem? (i := 9) rfl))))))))))))))
theorem kn_394 : Cond.selects RX3 yX3_powerLost yX3_powerLost ∈ kn_T := (List.mem_append_right _ (List.mem_append_right _ (List.mem_append_right _ (List.mem_append_right _ (List.mem_append_right _ (List.mem_append_right _ (List.mem_append_right _ (List.mem_append_right _ (List.mem_append_right _ (List.mem_append_right _ (List.mem_append_right _ (List.mem_append_right _ (List.mem_append_left _ (List.mem_of_getElem? (i := 10) rfl))))))))))))))
theorem kn_395 : Cond.selects RX3 yX3_holdNoKeys yX3_holdNoKeys ∈ kn_T := (List.mem_append_right _ (List.mem_append_right _ (List.mem_append_right _ (List.mem_append_right _ (List.mem_append_right _ (List.mem_append_right _ (List.mem_append_right _ (List.mem_append_right _ (List.mem_append_right _ (List.mem_append_right _ (List.mem_append_right _ (List.mem_append_right _ (List.mem_append_left _ (List.mem_of_getElem? (i := 11) rfl))))))))))))))
theorem kn_396 : Cond.selects RX1 yX1_finishJournal yX1_finishJournal ∈ kn_T := (List.mem_append_right _ (List.mem_append_right _ (List.mem_append_right _ (List.mem_append_right _ (List.mem_append_right _ (List.mem_append_right _ (List.mem_append_right _ (List.mem_append_right _ (List.mem_append_right _ (List.mem_append_right _ (List.mem_append_right _ (List.mem_append_right _ (List.mem_append_left _ (List.mem_of_getElem? (i := 12) rfl))))))))))))))
theorem kn_397 : Cond.selects RX1 yX1_clearJournal yX1_clearJournal ∈ kn_T := (List.mem_append_right _ (List.mem_append_right _ (List.mem_append_right _ (List.mem_append_right _ (List.mem_append_right _ (List.mem_append_right _ (List.mem_append_right _ (List.mem_append_right _ (List.mem_append_right _ (List.mem_append_right _ (List.mem_append_right _ (List.mem_append_right _ (List.mem_append_left _ (List.mem_of_getElem? (i := 13) rfl))))))))))))))
theorem kn_398 : Cond.selects RX3 yX3_activeSlots yX3_activeSlots ∈ kn_T := (List.mem_append_right _ (List.mem_append_right _ (List.mem_append_right _ (List.mem_append_right _ (List.mem_append_right _ (List.mem_append_right _ (List.mem_append_right _ (List.mem_append_right _ (List.mem_append_right _ (List.mem_append_right _ (List.mem_append_right _ (List.mem_append_right _ (List.mem_append_left _ (List.mem_of_getElem? (i := 14) rfl))))))))))))))
theorem kn_399 : Cond.selects RX3 yX3_isActive yX3_isActive ∈ kn_T := (List.mem_append_right _ (List.mem_append_right _ (List.mem_append_right _ (List.mem_append_right _ (List.mem_append_right _ (List.mem_append_right _ (List.mem_append_right _ (List.mem_append_right _ (List.mem_append_right _ (List.mem_append_right _ (List.mem_append_right _ (List.mem_append_right _ (List.mem_append_left _ (List.mem_of_getElem? (i := 15) rfl))))))))))))))
theorem kn_400 : Cond.selects RX3 yX3_opensWith yX3_opensWith ∈ kn_T := (List.mem_append_right _ (List.mem_append_right _ (List.mem_append_right _ (List.mem_append_right _ (List.mem_append_right _ (List.mem_append_right _ (List.mem_append_right _ (List.mem_append_right _ (List.mem_append_right _ (List.mem_append_right _ (List.mem_append_right _ (List.mem_append_right _ (List.mem_append_left _ (List.mem_of_getElem? (i := 16) rfl))))))))))))))
theorem kn_401 : Cond.selects RX3 yX3_refusalUnlessOpen yX3_refusalUnlessOpen ∈ kn_T := (List.mem_append_right _ (List.mem_append_right _ (List.mem_append_right _ (List.mem_append_right _ (List.mem_append_right _ (List.mem_append_right _ (List.mem_append_right _ (List.mem_append_right _ (List.mem_append_right _ (List.mem_append_right _ (List.mem_append_right _ (List.mem_append_right _ (List.mem_append_left _ (List.mem_of_getElem? (i := 17) rfl))))))))))))))
theorem kn_402 : Cond.selects RX3 yX3_leastFreeSlot yX3_leastFreeSlot ∈ kn_T := (List.mem_append_right _ (List.mem_append_right _ (List.mem_append_right _ (List.mem_append_right _ (List.mem_append_right _ (List.mem_append_right _ (List.mem_append_right _ (List.mem_append_right _ (List.mem_append_right _ (List.mem_append_right _ (List.mem_append_right _ (List.mem_append_right _ (List.mem_append_left _ (List.mem_of_getElem? (i := 18) rfl))))))))))))))
theorem kn_403 : Cond.selects RX3 yX3_fillSlot yX3_fillSlot ∈ kn_T := (List.mem_append_right _ (List.mem_append_right _ (List.mem_append_right _ (List.mem_append_right _ (List.mem_append_right _ (List.mem_append_right _ (List.mem_append_right _ (List.mem_append_right _ (List.mem_append_right _ (List.mem_append_right _ (List.mem_append_right _ (List.mem_append_right _ (List.mem_append_left _ (List.mem_of_getElem? (i := 19) rfl))))))))))))))
theorem kn_404 : Cond.selects RX3 yX3_refusalOfSlot yX3_refusalOfSlot ∈ kn_T := (List.mem_append_right _ (List.mem_append_right _ (List.mem_append_right _ (List.mem_append_right _ (List.mem_append_right _ (List.mem_append_right _ (List.mem_append_right _ (List.mem_append_right _ (List.mem_append_right _ (List.mem_append_right _ (List.mem_append_right _ (List.mem_append_right _ (List.mem_append_left _ (List.mem_of_getElem? (i := 20) rfl))))))))))))))
theorem kn_405 : Cond.selects RX3 yX3_clearSlot yX3_clearSlot ∈ kn_T := (List.mem_append_right _ (List.mem_append_right _ (List.mem_append_right _ (List.mem_append_right _ (List.mem_append_right _ (List.mem_append_right _ (List.mem_append_right _ (List.mem_append_right _ (List.mem_append_right _ (List.mem_append_right _ (List.mem_append_right _ (List.mem_append_right _ (List.mem_append_left _ (List.mem_of_getElem? (i := 21) rfl))))))))))))))
theorem kn_406 : Cond.selects RX3 yX3_refusalOfWord yX3_refusalOfWord ∈ kn_T := (List.mem_append_right _ (List.mem_append_right _ (List.mem_append_right _ (List.mem_append_right _ (List.mem_append_right _ (List.mem_append_right _ (List.mem_append_right _ (List.mem_append_right _ (List.mem_append_right _ (List.mem_append_right _ (List.mem_append_right _ (List.mem_append_right _ (List.mem_append_left _ (List.mem_of_getElem? (i := 22) rfl))))))))))))))
theorem kn_407 : Cond.selects RX3 yX3_plainWord yX3_plainWord ∈ kn_T := (List.mem_append_right _ (List.mem_append_right _ (List.mem_append_right _ (List.mem_append_right _ (List.mem_append_right _ (List.mem_append_right _ (List.mem_append_right _ (List.mem_append_right _ (List.mem_append_right _ (List.mem_append_right _ (List.mem_append_right _ (List.mem_append_right _ (List.mem_append_left _ (List.mem_of_getElem? (i := 23) rfl))))))))))))))
theorem kn_408 : Cond.selects RX4 yX4_begin yX4_begin ∈ kn_T := (List.mem_append_right _ (List.mem_append_right _ (List.mem_append_right _ (List.mem_append_right _ (List.mem_append_right _ (List.mem_append_right _ (List.mem_append_right _ (List.mem_append_right _ (List.mem_append_right _ (List.mem_append_right _ (List.mem_append_right _ (List.mem_append_right _ (List.mem_append_left _ (List.mem_of_getElem? (i := 24) rfl))))))))))))))
theorem kn_409 : Cond.selects RX4 yX4_makeSlot yX4_makeSlot ∈ kn_T := (List.mem_append_right _ (List.mem_append_right _ (List.mem_append_right _ (List.mem_append_right _ (List.mem_append_right _ (List.mem_append_right _ (List.mem_append_right _ (List.mem_append_right _ (List.mem_append_right _ (List.mem_append_right _ (List.mem_append_right _ (List.mem_append_right _ (List.mem_append_left _ (List.mem_of_getElem? (i := 25) rfl))))))))))))))
theorem kn_410 : Cond.selects RX4 yX4_cover yX4_cover ∈ kn_T := (List.mem_append_right _ (List.mem_append_right _ (List.mem_append_right _ (List.mem_append_right _ (List.mem_append_right _ (List.mem_append_right _ (List.mem_append_right _ (List.mem_append_right _ (List.mem_append_right _ (List.mem_append_right _ (List.mem_append_right _ (List.mem_append_right _ (List.mem_append_left _ (List.mem_of_getElem? (i := 26) rfl))))))))))))))
theorem kn_411 : Cond.selects RX4 yX4_plan yX4_plan ∈ kn_T := (List.mem_append_right _ (List.mem_append_right _ (List.mem_append_right _ (List.mem_append_right _ (List.mem_append_right _ (List.mem_append_right _ (List.mem_append_right _ (List.mem_append_right _ (List.mem_append_right _ (List.mem_append_right _ (List.mem_append_right _ (List.mem_append_right _ (List.mem_append_left _ (List.mem_of_getElem? (i := 27) rfl))))))))))))))
theorem kn_412 : Cond.selects RX4 yX4_perform yX4_perform ∈ kn_T := (List.mem_append_right _ (List.mem_append_right _ (List.mem_append_right _ (List.mem_append_right _ (List.mem_append_right _ (List.mem_append_right _ (List.mem_append_right _ (List.mem_append_right _ (List.mem_append_right _ (List.mem_append_right _ (List.mem_append_right _ (List.mem_append_right _ (List.mem_append_left _ (List.mem_of_getElem? (i := 28) rfl))))))))))))))
theorem kn_413 : Cond.selects RX4 yX4_planFinish yX4_planFinish ∈ kn_T := (List.mem_append_right _ (List.mem_append_right _ (List.mem_append_right _ (List.mem_append_right _ (List.mem_append_right _ (List.mem_append_right _ (List.mem_append_right _ (List.mem_append_right _ (List.mem_append_right _ (List.mem_append_right _ (List.mem_append_right _ (List.mem_append_right _ (List.mem_append_left _ (List.mem_of_getElem? (i := 29) rfl))))))))))))))
theorem kn_414 : Cond.selects RX4 yX4_planClean yX4_planClean ∈ kn_T := (List.mem_append_right _ (List.mem_append_right _ (List.mem_append_right _ (List.mem_append_right _ (List.mem_append_right _ (List.mem_append_right _ (List.mem_append_right _ (List.mem_append_right _ (List.mem_append_right _ (List.mem_append_right _ (List.mem_append_right _ (List.mem_append_right _ (List.mem_append_left _ (List.mem_of_getElem? (i := 30) rfl))))))))))))))
theorem kn_415 : Cond.selects RX4 yX4_count yX4_count ∈ kn_T := (List.mem_append_right _ (List.mem_append_right _ (List.mem_append_right _ (List.mem_append_right _ (List.mem_append_right _ (List.mem_append_right _ (List.mem_append_right _ (List.mem_append_right _ (List.mem_append_right _ (List.mem_append_right _ (List.mem_append_right _ (List.mem_append_right _ (List.mem_append_left _ (List.mem_of_getElem? (i := 31) rfl))))))))))))))
theorem kn_416 : Cond.selects RX4 yX4_active yX4_active ∈ kn_T := (List.mem_append_right _ (List.mem_append_right _ (List.mem_append_right _ (List.mem_append_right _ (List.mem_append_right _ (List.mem_append_right _ (List.mem_append_right _ (List.mem_append_right _ (List.mem_append_right _ (List.mem_append_right _ (List.mem_append_right _ (List.mem_append_right _ (List.mem_append_right _ (List.mem_of_getElem? (i := 0) rfl))))))))))))))
theorem kn_417 : Cond.selects RX4 yX4_opens yX4_opens ∈ kn_T := (List.mem_append_right _ (List.mem_append_right _ (List.mem_append_right _ (List.mem_append_right _ (List.mem_append_right _ (List.mem_append_right _ (List.mem_append_right _ (List.mem_append_right _ (List.mem_append_right _ (List.mem_append_right _ (List.mem_append_right _ (List.mem_append_right _ (List.mem_append_right _ (List.mem_of_getElem? (i := 1) rfl))))))))))))))
theorem kn_418 : Cond.selects RX4 yX4_closed yX4_closed ∈ kn_T := (List.mem_append_right _ (List.mem_append_right _ (List.mem_append_right _ (List.mem_append_right _ (List.mem_append_right _ (List.mem_append_right _ (List.mem_append_right _ (List.mem_append_right _ (List.mem_append_right _ (List.mem_append_right _ (List.mem_append_right _ (List.mem_append_right _ (List.mem_append_right _ (List.mem_of_getElem? (i := 2) rfl))))))))))))))
theorem kn_419 : Cond.selects RX4 yX4_planChange yX4_planChange ∈ kn_T := (List.mem_append_right _ (List.mem_append_right _ (List.mem_append_right _ (List.mem_append_right _ (List.mem_append_right _ (List.mem_append_right _ (List.mem_append_right _ (List.mem_append_right _ (List.mem_append_right _ (List.mem_append_right _ (List.mem_append_right _ (List.mem_append_right _ (List.mem_append_right _ (List.mem_of_getElem? (i := 3) rfl))))))))))))))
theorem kn_420 : Cond.selects RX4 yX4_badSlot yX4_badSlot ∈ kn_T := (List.mem_append_right _ (List.mem_append_right _ (List.mem_append_right _ (List.mem_append_right _ (List.mem_append_right _ (List.mem_append_right _ (List.mem_append_right _ (List.mem_append_right _ (List.mem_append_right _ (List.mem_append_right _ (List.mem_append_right _ (List.mem_append_right _ (List.mem_append_right _ (List.mem_of_getElem? (i := 4) rfl))))))))))))))
theorem kn_421 : Cond.selects RX4 yX4_badWord yX4_badWord ∈ kn_T := (List.mem_append_right _ (List.mem_append_right _ (List.mem_append_right _ (List.mem_append_right _ (List.mem_append_right _ (List.mem_append_right _ (List.mem_append_right _ (List.mem_append_right _ (List.mem_append_right _ (List.mem_append_right _ (List.mem_append_right _ (List.mem_append_right _ (List.mem_append_right _ (List.mem_of_getElem? (i := 5) rfl))))))))))))))
theorem kn_iX1 : ∀ w ∈ u_ws RX1 TX1 3, w ∈ kn_T := by decide +kernel
theorem kn_iX3 : ∀ w ∈ u_ws RX3 TX3 5, w ∈ kn_T := by decide +kernel
theorem kn_iX4 : ∀ w ∈ u_ws RX4 TX4 14, w ∈ kn_T := by decide +kernel
theorem kd_X3_init : yX3_init.cls ≠ "java/lang/invoke/MethodHandle" ∧ yX3_init.cls ≠ "java/lang/invoke/VarHandle" ∧ (parseMethodDescriptor yX3_init.desc).map (fun d => d.parameters.length) = some 0 := by decide +kernel
theorem kd_X1_init : yX1_init.cls ≠ "java/lang/invoke/MethodHandle" ∧ yX1_init.cls ≠ "java/lang/invoke/VarHandle" ∧ (parseMethodDescriptor yX1_init.desc).map (fun d => d.parameters.length) = some 0 := by decide +kernel
theorem kd_X3_cut : yX3_cut.cls ≠ "java/lang/invoke/MethodHandle" ∧ yX3_cut.cls ≠ "java/lang/invoke/VarHandle" ∧ (parseMethodDescriptor yX3_cut.desc).map (fun d => d.parameters.length) = some 1 := by decide +kernel
theorem kd_X3_format : yX3_format.cls ≠ "java/lang/invoke/MethodHandle" ∧ yX3_format.cls ≠ "java/lang/invoke/VarHandle" ∧ (parseMethodDescriptor yX3_format.desc).map (fun d => d.parameters.length) = some 4 := by decide +kernel
theorem kd_X3_workOutVolume : yX3_workOutVolume.cls ≠ "java/lang/invoke/MethodHandle" ∧ yX3_workOutVolume.cls ≠ "java/lang/invoke/VarHandle" ∧ (parseMethodDescriptor yX3_workOutVolume.desc).map (fun d => d.parameters.length) = some 4 := by decide +kernel
theorem kd_J7_fill : yJ7_fill.cls ≠ "java/lang/invoke/MethodHandle" ∧ yJ7_fill.cls ≠ "java/lang/invoke/VarHandle" ∧ (parseMethodDescriptor yJ7_fill.desc).map (fun d => d.parameters.length) = some 2 := by decide +kernel
theorem kd_X0_mix : yX0_mix.cls ≠ "java/lang/invoke/MethodHandle" ∧ yX0_mix.cls ≠ "java/lang/invoke/VarHandle" ∧ (parseMethodDescriptor yX0_mix.desc).map (fun d => d.parameters.length) = some 2 := by decide +kernel
theorem kd_X0_digest : yX0_digest.cls ≠ "java/lang/invoke/MethodHandle" ∧ yX0_digest.cls ≠ "java/lang/invoke/VarHandle" ∧ (parseMethodDescriptor yX0_digest.desc).map (fun d => d.parameters.length) = some 3 := by decide +kernel
theorem kd_X3_slotPlace : yX3_slotPlace.cls ≠ "java/lang/invoke/MethodHandle" ∧ yX3_slotPlace.cls ≠ "java/lang/invoke/VarHandle" ∧ (parseMethodDescriptor yX3_slotPlace.desc).map (fun d => d.parameters.length) = some 1 := by decide +kernel
theorem kd_X2_workOut : yX2_workOut.cls ≠ "java/lang/invoke/MethodHandle" ∧ yX2_workOut.cls ≠ "java/lang/invoke/VarHandle" ∧ (parseMethodDescriptor yX2_workOut.desc).map (fun d => d.parameters.length) = some 6 := by decide +kernel
theorem kd_X2_workOutHalf : yX2_workOutHalf.cls ≠ "java/lang/invoke/MethodHandle" ∧ yX2_workOutHalf.cls ≠ "java/lang/invoke/VarHandle" ∧ (parseMethodDescriptor yX2_workOutHalf.desc).map (fun d => d.parameters.length) = some 6 := by decide +kernel
theorem kd_X0_slotKey : yX0_slotKey.cls ≠ "java/lang/invoke/MethodHandle" ∧ yX0_slotKey.cls ≠ "java/lang/invoke/VarHandle" ∧ (parseMethodDescriptor yX0_slotKey.desc).map (fun d => d.parameters.length) = some 3 := by decide +kernel
theorem kd_X2_mask : yX2_mask.cls ≠ "java/lang/invoke/MethodHandle" ∧ yX2_mask.cls ≠ "java/lang/invoke/VarHandle" ∧ (parseMethodDescriptor yX2_mask.desc).map (fun d => d.parameters.length) = some 3 := by decide +kernel
theorem kd_X0_encipher : yX0_encipher.cls ≠ "java/lang/invoke/MethodHandle" ∧ yX0_encipher.cls ≠ "java/lang/invoke/VarHandle" ∧ (parseMethodDescriptor yX0_encipher.desc).map (fun d => d.parameters.length) = some 2 := by decide +kernel
theorem kd_X0_roundMask : yX0_roundMask.cls ≠ "java/lang/invoke/MethodHandle" ∧ yX0_roundMask.cls ≠ "java/lang/invoke/VarHandle" ∧ (parseMethodDescriptor yX0_roundMask.desc).map (fun d => d.parameters.length) = some 3 := by decide +kernel
theorem kd_X3_sectorPlace : yX3_sectorPlace.cls ≠ "java/lang/invoke/MethodHandle" ∧ yX3_sectorPlace.cls ≠ "java/lang/invoke/VarHandle" ∧ (parseMethodDescriptor yX3_sectorPlace.desc).map (fun d => d.parameters.length) = some 1 := by decide +kernel
theorem kd_X0_encipherSectorWord : yX0_encipherSectorWord.cls ≠ "java/lang/invoke/MethodHandle" ∧ yX0_encipherSectorWord.cls ≠ "java/lang/invoke/VarHandle" ∧ (parseMethodDescriptor yX0_encipherSectorWord.desc).map (fun d => d.parameters.length) = some 5 := by decide +kernel
theorem kd_X0_tweak : yX0_tweak.cls ≠ "java/lang/invoke/MethodHandle" ∧ yX0_tweak.cls ≠ "java/lang/invoke/VarHandle" ∧ (parseMethodDescriptor yX0_tweak.desc).map (fun d => d.parameters.length) = some 3 := by decide +kernel
theorem kd_X3_putVolume : yX3_putVolume.cls ≠ "java/lang/invoke/MethodHandle" ∧ yX3_putVolume.cls ≠ "java/lang/invoke/VarHandle" ∧ (parseMethodDescriptor yX3_putVolume.desc).map (fun d => d.parameters.length) = some 0 := by decide +kernel
theorem kd_X1_put : yX1_put.cls ≠ "java/lang/invoke/MethodHandle" ∧ yX1_put.cls ≠ "java/lang/invoke/VarHandle" ∧ (parseMethodDescriptor yX1_put.desc).map (fun d => d.parameters.length) = some 2 := by decide +kernel
theorem kd_X3_powerLost : yX3_powerLost.cls ≠ "java/lang/invoke/MethodHandle" ∧ yX3_powerLost.cls ≠ "java/lang/invoke/VarHandle" ∧ (parseMethodDescriptor yX3_powerLost.desc).map (fun d => d.parameters.length) = some 0 := by decide +kernel
theorem kd_X3_holdNoKeys : yX3_holdNoKeys.cls ≠ "java/lang/invoke/MethodHandle" ∧ yX3_holdNoKeys.cls ≠ "java/lang/invoke/VarHandle" ∧ (parseMethodDescriptor yX3_holdNoKeys.desc).map (fun d => d.parameters.length) = some 1 := by decide +kernel
theorem kd_X3_mount : yX3_mount.cls ≠ "java/lang/invoke/MethodHandle" ∧ yX3_mount.cls ≠ "java/lang/invoke/VarHandle" ∧ (parseMethodDescriptor yX3_mount.desc).map (fun d => d.parameters.length) = some 0 := by decide +kernel
theorem kd_X1_wordAt : yX1_wordAt.cls ≠ "java/lang/invoke/MethodHandle" ∧ yX1_wordAt.cls ≠ "java/lang/invoke/VarHandle" ∧ (parseMethodDescriptor yX1_wordAt.desc).map (fun d => d.parameters.length) = some 1 := by decide +kernel
theorem kd_X1_settleJournal : yX1_settleJournal.cls ≠ "java/lang/invoke/MethodHandle" ∧ yX1_settleJournal.cls ≠ "java/lang/invoke/VarHandle" ∧ (parseMethodDescriptor yX1_settleJournal.desc).map (fun d => d.parameters.length) = some 0 := by decide +kernel
theorem kd_X1_finishJournal : yX1_finishJournal.cls ≠ "java/lang/invoke/MethodHandle" ∧ yX1_finishJournal.cls ≠ "java/lang/invoke/VarHandle" ∧ (parseMethodDescriptor yX1_finishJournal.desc).map (fun d => d.parameters.length) = some 0 := by decide +kernel
theorem kd_X1_clearJournal : yX1_clearJournal.cls ≠ "java/lang/invoke/MethodHandle" ∧ yX1_clearJournal.cls ≠ "java/lang/invoke/VarHandle" ∧ (parseMethodDescriptor yX1_clearJournal.desc).map (fun d => d.parameters.length) = some 0 := by decide +kernel
theorem kd_X3_activeSlots : yX3_activeSlots.cls ≠ "java/lang/invoke/MethodHandle" ∧ yX3_activeSlots.cls ≠ "java/lang/invoke/VarHandle" ∧ (parseMethodDescriptor yX3_activeSlots.desc).map (fun d => d.parameters.length) = some 0 := by decide +kernel
theorem kd_X3_slots : yX3_slots.cls ≠ "java/lang/invoke/MethodHandle" ∧ yX3_slots.cls ≠ "java/lang/invoke/VarHandle" ∧ (parseMethodDescriptor yX3_slots.desc).map (fun d => d.parameters.length) = some 0 := by decide +kernel
theorem kd_X3_isActive : yX3_isActive.cls ≠ "java/lang/invoke/MethodHandle" ∧ yX3_isActive.cls ≠ "java/lang/invoke/VarHandle" ∧ (parseMethodDescriptor yX3_isActive.desc).map (fun d => d.parameters.length) = some 1 := by decide +kernel
theorem kd_J6_bitCount : yJ6_bitCount.cls ≠ "java/lang/invoke/MethodHandle" ∧ yJ6_bitCount.cls ≠ "java/lang/invoke/VarHandle" ∧ (parseMethodDescriptor yJ6_bitCount.desc).map (fun d => d.parameters.length) = some 1 := by decide +kernel
theorem kd_X3_unlock : yX3_unlock.cls ≠ "java/lang/invoke/MethodHandle" ∧ yX3_unlock.cls ≠ "java/lang/invoke/VarHandle" ∧ (parseMethodDescriptor yX3_unlock.desc).map (fun d => d.parameters.length) = some 1 := by decide +kernel
theorem kd_X3_opensWith : yX3_opensWith.cls ≠ "java/lang/invoke/MethodHandle" ∧ yX3_opensWith.cls ≠ "java/lang/invoke/VarHandle" ∧ (parseMethodDescriptor yX3_opensWith.desc).map (fun d => d.parameters.length) = some 2 := by decide +kernel
theorem kd_X2_openHalf : yX2_openHalf.cls ≠ "java/lang/invoke/MethodHandle" ∧ yX2_openHalf.cls ≠ "java/lang/invoke/VarHandle" ∧ (parseMethodDescriptor yX2_openHalf.desc).map (fun d => d.parameters.length) = some 4 := by decide +kernel
theorem kd_X0_decipher : yX0_decipher.cls ≠ "java/lang/invoke/MethodHandle" ∧ yX0_decipher.cls ≠ "java/lang/invoke/VarHandle" ∧ (parseMethodDescriptor yX0_decipher.desc).map (fun d => d.parameters.length) = some 2 := by decide +kernel
theorem kd_X3_lock : yX3_lock.cls ≠ "java/lang/invoke/MethodHandle" ∧ yX3_lock.cls ≠ "java/lang/invoke/VarHandle" ∧ (parseMethodDescriptor yX3_lock.desc).map (fun d => d.parameters.length) = some 0 := by decide +kernel
theorem kd_X3_add : yX3_add.cls ≠ "java/lang/invoke/MethodHandle" ∧ yX3_add.cls ≠ "java/lang/invoke/VarHandle" ∧ (parseMethodDescriptor yX3_add.desc).map (fun d => d.parameters.length) = some 2 := by decide +kernel
theorem kd_X3_refusalUnlessOpen : yX3_refusalUnlessOpen.cls ≠ "java/lang/invoke/MethodHandle" ∧ yX3_refusalUnlessOpen.cls ≠ "java/lang/invoke/VarHandle" ∧ (parseMethodDescriptor yX3_refusalUnlessOpen.desc).map (fun d => d.parameters.length) = some 0 := by decide +kernel
theorem kd_X3_leastFreeSlot : yX3_leastFreeSlot.cls ≠ "java/lang/invoke/MethodHandle" ∧ yX3_leastFreeSlot.cls ≠ "java/lang/invoke/VarHandle" ∧ (parseMethodDescriptor yX3_leastFreeSlot.desc).map (fun d => d.parameters.length) = some 0 := by decide +kernel
theorem kd_X3_fillSlot : yX3_fillSlot.cls ≠ "java/lang/invoke/MethodHandle" ∧ yX3_fillSlot.cls ≠ "java/lang/invoke/VarHandle" ∧ (parseMethodDescriptor yX3_fillSlot.desc).map (fun d => d.parameters.length) = some 3 := by decide +kernel
theorem kd_X1_replaceByJournal : yX1_replaceByJournal.cls ≠ "java/lang/invoke/MethodHandle" ∧ yX1_replaceByJournal.cls ≠ "java/lang/invoke/VarHandle" ∧ (parseMethodDescriptor yX1_replaceByJournal.desc).map (fun d => d.parameters.length) = some 3 := by decide +kernel
theorem kd_X3_change : yX3_change.cls ≠ "java/lang/invoke/MethodHandle" ∧ yX3_change.cls ≠ "java/lang/invoke/VarHandle" ∧ (parseMethodDescriptor yX3_change.desc).map (fun d => d.parameters.length) = some 3 := by decide +kernel
theorem kd_X3_refusalOfSlot : yX3_refusalOfSlot.cls ≠ "java/lang/invoke/MethodHandle" ∧ yX3_refusalOfSlot.cls ≠ "java/lang/invoke/VarHandle" ∧ (parseMethodDescriptor yX3_refusalOfSlot.desc).map (fun d => d.parameters.length) = some 1 := by decide +kernel
theorem kd_X3_revoke : yX3_revoke.cls ≠ "java/lang/invoke/MethodHandle" ∧ yX3_revoke.cls ≠ "java/lang/invoke/VarHandle" ∧ (parseMethodDescriptor yX3_revoke.desc).map (fun d => d.parameters.length) = some 1 := by decide +kernel
theorem kd_X3_clearSlot : yX3_clearSlot.cls ≠ "java/lang/invoke/MethodHandle" ∧ yX3_clearSlot.cls ≠ "java/lang/invoke/VarHandle" ∧ (parseMethodDescriptor yX3_clearSlot.desc).map (fun d => d.parameters.length) = some 1 := by decide +kernel
theorem kd_X3_write : yX3_write.cls ≠ "java/lang/invoke/MethodHandle" ∧ yX3_write.cls ≠ "java/lang/invoke/VarHandle" ∧ (parseMethodDescriptor yX3_write.desc).map (fun d => d.parameters.length) = some 3 := by decide +kernel
theorem kd_X3_refusalOfWord : yX3_refusalOfWord.cls ≠ "java/lang/invoke/MethodHandle" ∧ yX3_refusalOfWord.cls ≠ "java/lang/invoke/VarHandle" ∧ (parseMethodDescriptor yX3_refusalOfWord.desc).map (fun d => d.parameters.length) = some 2 := by decide +kernel
theorem kd_X3_plainWord : yX3_plainWord.cls ≠ "java/lang/invoke/MethodHandle" ∧ yX3_plainWord.cls ≠ "java/lang/invoke/VarHandle" ∧ (parseMethodDescriptor yX3_plainWord.desc).map (fun d => d.parameters.length) = some 2 := by decide +kernel
theorem kd_X0_decipherSectorWord : yX0_decipherSectorWord.cls ≠ "java/lang/invoke/MethodHandle" ∧ yX0_decipherSectorWord.cls ≠ "java/lang/invoke/VarHandle" ∧ (parseMethodDescriptor yX0_decipherSectorWord.desc).map (fun d => d.parameters.length) = some 5 := by decide +kernel
theorem kd_X3_read : yX3_read.cls ≠ "java/lang/invoke/MethodHandle" ∧ yX3_read.cls ≠ "java/lang/invoke/VarHandle" ∧ (parseMethodDescriptor yX3_read.desc).map (fun d => d.parameters.length) = some 2 := by decide +kernel
theorem kd_X3_state : yX3_state.cls ≠ "java/lang/invoke/MethodHandle" ∧ yX3_state.cls ≠ "java/lang/invoke/VarHandle" ∧ (parseMethodDescriptor yX3_state.desc).map (fun d => d.parameters.length) = some 0 := by decide +kernel
theorem kd_X3_peek : yX3_peek.cls ≠ "java/lang/invoke/MethodHandle" ∧ yX3_peek.cls ≠ "java/lang/invoke/VarHandle" ∧ (parseMethodDescriptor yX3_peek.desc).map (fun d => d.parameters.length) = some 1 := by decide +kernel
theorem kd_X3_writes : yX3_writes.cls ≠ "java/lang/invoke/MethodHandle" ∧ yX3_writes.cls ≠ "java/lang/invoke/VarHandle" ∧ (parseMethodDescriptor yX3_writes.desc).map (fun d => d.parameters.length) = some 0 := by decide +kernel
theorem kd_X4_init : yX4_init.cls ≠ "java/lang/invoke/MethodHandle" ∧ yX4_init.cls ≠ "java/lang/invoke/VarHandle" ∧ (parseMethodDescriptor yX4_init.desc).map (fun d => d.parameters.length) = some 0 := by decide +kernel
theorem kd_X4_cut : yX4_cut.cls ≠ "java/lang/invoke/MethodHandle" ∧ yX4_cut.cls ≠ "java/lang/invoke/VarHandle" ∧ (parseMethodDescriptor yX4_cut.desc).map (fun d => d.parameters.length) = some 1 := by decide +kernel
theorem kd_X4_format : yX4_format.cls ≠ "java/lang/invoke/MethodHandle" ∧ yX4_format.cls ≠ "java/lang/invoke/VarHandle" ∧ (parseMethodDescriptor yX4_format.desc).map (fun d => d.parameters.length) = some 4 := by decide +kernel
theorem kd_X4_begin : yX4_begin.cls ≠ "java/lang/invoke/MethodHandle" ∧ yX4_begin.cls ≠ "java/lang/invoke/VarHandle" ∧ (parseMethodDescriptor yX4_begin.desc).map (fun d => d.parameters.length) = some 0 := by decide +kernel
theorem kd_X4_h : yX4_h.cls ≠ "java/lang/invoke/MethodHandle" ∧ yX4_h.cls ≠ "java/lang/invoke/VarHandle" ∧ (parseMethodDescriptor yX4_h.desc).map (fun d => d.parameters.length) = some 2 := by decide +kernel
theorem kd_X4_digest : yX4_digest.cls ≠ "java/lang/invoke/MethodHandle" ∧ yX4_digest.cls ≠ "java/lang/invoke/VarHandle" ∧ (parseMethodDescriptor yX4_digest.desc).map (fun d => d.parameters.length) = some 3 := by decide +kernel
theorem kd_X4_makeSlot : yX4_makeSlot.cls ≠ "java/lang/invoke/MethodHandle" ∧ yX4_makeSlot.cls ≠ "java/lang/invoke/VarHandle" ∧ (parseMethodDescriptor yX4_makeSlot.desc).map (fun d => d.parameters.length) = some 4 := by decide +kernel
theorem kd_X4_cover : yX4_cover.cls ≠ "java/lang/invoke/MethodHandle" ∧ yX4_cover.cls ≠ "java/lang/invoke/VarHandle" ∧ (parseMethodDescriptor yX4_cover.desc).map (fun d => d.parameters.length) = some 1 := by decide +kernel
theorem kd_X4_slotKey : yX4_slotKey.cls ≠ "java/lang/invoke/MethodHandle" ∧ yX4_slotKey.cls ≠ "java/lang/invoke/VarHandle" ∧ (parseMethodDescriptor yX4_slotKey.desc).map (fun d => d.parameters.length) = some 3 := by decide +kernel
theorem kd_X4_enc : yX4_enc.cls ≠ "java/lang/invoke/MethodHandle" ∧ yX4_enc.cls ≠ "java/lang/invoke/VarHandle" ∧ (parseMethodDescriptor yX4_enc.desc).map (fun d => d.parameters.length) = some 2 := by decide +kernel
theorem kd_X4_round : yX4_round.cls ≠ "java/lang/invoke/MethodHandle" ∧ yX4_round.cls ≠ "java/lang/invoke/VarHandle" ∧ (parseMethodDescriptor yX4_round.desc).map (fun d => d.parameters.length) = some 3 := by decide +kernel
theorem kd_X4_hide : yX4_hide.cls ≠ "java/lang/invoke/MethodHandle" ∧ yX4_hide.cls ≠ "java/lang/invoke/VarHandle" ∧ (parseMethodDescriptor yX4_hide.desc).map (fun d => d.parameters.length) = some 5 := by decide +kernel
theorem kd_X4_mask : yX4_mask.cls ≠ "java/lang/invoke/MethodHandle" ∧ yX4_mask.cls ≠ "java/lang/invoke/VarHandle" ∧ (parseMethodDescriptor yX4_mask.desc).map (fun d => d.parameters.length) = some 3 := by decide +kernel
theorem kd_X4_plan : yX4_plan.cls ≠ "java/lang/invoke/MethodHandle" ∧ yX4_plan.cls ≠ "java/lang/invoke/VarHandle" ∧ (parseMethodDescriptor yX4_plan.desc).map (fun d => d.parameters.length) = some 2 := by decide +kernel
theorem kd_X4_perform : yX4_perform.cls ≠ "java/lang/invoke/MethodHandle" ∧ yX4_perform.cls ≠ "java/lang/invoke/VarHandle" ∧ (parseMethodDescriptor yX4_perform.desc).map (fun d => d.parameters.length) = some 0 := by decide +kernel
theorem kd_X4_mount : yX4_mount.cls ≠ "java/lang/invoke/MethodHandle" ∧ yX4_mount.cls ≠ "java/lang/invoke/VarHandle" ∧ (parseMethodDescriptor yX4_mount.desc).map (fun d => d.parameters.length) = some 0 := by decide +kernel
theorem kd_X4_planFinish : yX4_planFinish.cls ≠ "java/lang/invoke/MethodHandle" ∧ yX4_planFinish.cls ≠ "java/lang/invoke/VarHandle" ∧ (parseMethodDescriptor yX4_planFinish.desc).map (fun d => d.parameters.length) = some 0 := by decide +kernel
theorem kd_X4_planClean : yX4_planClean.cls ≠ "java/lang/invoke/MethodHandle" ∧ yX4_planClean.cls ≠ "java/lang/invoke/VarHandle" ∧ (parseMethodDescriptor yX4_planClean.desc).map (fun d => d.parameters.length) = some 0 := by decide +kernel
theorem kd_X4_count : yX4_count.cls ≠ "java/lang/invoke/MethodHandle" ∧ yX4_count.cls ≠ "java/lang/invoke/VarHandle" ∧ (parseMethodDescriptor yX4_count.desc).map (fun d => d.parameters.length) = some 0 := by decide +kernel
theorem kd_X4_active : yX4_active.cls ≠ "java/lang/invoke/MethodHandle" ∧ yX4_active.cls ≠ "java/lang/invoke/VarHandle" ∧ (parseMethodDescriptor yX4_active.desc).map (fun d => d.parameters.length) = some 1 := by decide +kernel
theorem kd_X4_unlock : yX4_unlock.cls ≠ "java/lang/invoke/MethodHandle" ∧ yX4_unlock.cls ≠ "java/lang/invoke/VarHandle" ∧ (parseMethodDescriptor yX4_unlock.desc).map (fun d => d.parameters.length) = some 1 := by decide +kernel
theorem kd_X4_opens : yX4_opens.cls ≠ "java/lang/invoke/MethodHandle" ∧ yX4_opens.cls ≠ "java/lang/invoke/VarHandle" ∧ (parseMethodDescriptor yX4_opens.desc).map (fun d => d.parameters.length) = some 2 := by decide +kernel
theorem kd_X4_dec : yX4_dec.cls ≠ "java/lang/invoke/MethodHandle" ∧ yX4_dec.cls ≠ "java/lang/invoke/VarHandle" ∧ (parseMethodDescriptor yX4_dec.desc).map (fun d => d.parameters.length) = some 2 := by decide +kernel
theorem kd_X4_lock : yX4_lock.cls ≠ "java/lang/invoke/MethodHandle" ∧ yX4_lock.cls ≠ "java/lang/invoke/VarHandle" ∧ (parseMethodDescriptor yX4_lock.desc).map (fun d => d.parameters.length) = some 0 := by decide +kernel
theorem kd_X4_add : yX4_add.cls ≠ "java/lang/invoke/MethodHandle" ∧ yX4_add.cls ≠ "java/lang/invoke/VarHandle" ∧ (parseMethodDescriptor yX4_add.desc).map (fun d => d.parameters.length) = some 2 := by decide +kernel
theorem kd_X4_closed : yX4_closed.cls ≠ "java/lang/invoke/MethodHandle" ∧ yX4_closed.cls ≠ "java/lang/invoke/VarHandle" ∧ (parseMethodDescriptor yX4_closed.desc).map (fun d => d.parameters.length) = some 0 := by decide +kernel
theorem kd_X4_planChange : yX4_planChange.cls ≠ "java/lang/invoke/MethodHandle" ∧ yX4_planChange.cls ≠ "java/lang/invoke/VarHandle" ∧ (parseMethodDescriptor yX4_planChange.desc).map (fun d => d.parameters.length) = some 2 := by decide +kernel
theorem kd_X4_change : yX4_change.cls ≠ "java/lang/invoke/MethodHandle" ∧ yX4_change.cls ≠ "java/lang/invoke/VarHandle" ∧ (parseMethodDescriptor yX4_change.desc).map (fun d => d.parameters.length) = some 3 := by decide +kernel
theorem kd_X4_badSlot : yX4_badSlot.cls ≠ "java/lang/invoke/MethodHandle" ∧ yX4_badSlot.cls ≠ "java/lang/invoke/VarHandle" ∧ (parseMethodDescriptor yX4_badSlot.desc).map (fun d => d.parameters.length) = some 1 := by decide +kernel
theorem kd_X4_revoke : yX4_revoke.cls ≠ "java/lang/invoke/MethodHandle" ∧ yX4_revoke.cls ≠ "java/lang/invoke/VarHandle" ∧ (parseMethodDescriptor yX4_revoke.desc).map (fun d => d.parameters.length) = some 1 := by decide +kernel
theorem kd_X4_write : yX4_write.cls ≠ "java/lang/invoke/MethodHandle" ∧ yX4_write.cls ≠ "java/lang/invoke/VarHandle" ∧ (parseMethodDescriptor yX4_write.desc).map (fun d => d.parameters.length) = some 3 := by decide +kernel
theorem kd_X4_badWord : yX4_badWord.cls ≠ "java/lang/invoke/MethodHandle" ∧ yX4_badWord.cls ≠ "java/lang/invoke/VarHandle" ∧ (parseMethodDescriptor yX4_badWord.desc).map (fun d => d.parameters.length) = some 2 := by decide +kernel
theorem kd_X4_show : yX4_show.cls ≠ "java/lang/invoke/MethodHandle" ∧ yX4_show.cls ≠ "java/lang/invoke/VarHandle" ∧ (parseMethodDescriptor yX4_show.desc).map (fun d => d.parameters.length) = some 5 := by decide +kernel
theorem kd_X4_read : yX4_read.cls ≠ "java/lang/invoke/MethodHandle" ∧ yX4_read.cls ≠ "java/lang/invoke/VarHandle" ∧ (parseMethodDescriptor yX4_read.desc).map (fun d => d.parameters.length) = some 2 := by decide +kernel
theorem kd_X4_state : yX4_state.cls ≠ "java/lang/invoke/MethodHandle" ∧ yX4_state.cls ≠ "java/lang/invoke/VarHandle" ∧ (parseMethodDescriptor yX4_state.desc).map (fun d => d.parameters.length) = some 0 := by decide +kernel
theorem kd_X4_slots : yX4_slots.cls ≠ "java/lang/invoke/MethodHandle" ∧ yX4_slots.cls ≠ "java/lang/invoke/VarHandle" ∧ (parseMethodDescriptor yX4_slots.desc).map (fun d => d.parameters.length) = some 0 := by decide +kernel
theorem kd_X4_peek : yX4_peek.cls ≠ "java/lang/invoke/MethodHandle" ∧ yX4_peek.cls ≠ "java/lang/invoke/VarHandle" ∧ (parseMethodDescriptor yX4_peek.desc).map (fun d => d.parameters.length) = some 1 := by decide +kernel
theorem kd_X4_writes : yX4_writes.cls ≠ "java/lang/invoke/MethodHandle" ∧ yX4_writes.cls ≠ "java/lang/invoke/VarHandle" ∧ (parseMethodDescriptor yX4_writes.desc).map (fun d => d.parameters.length) = some 0 := by decide +kernel
abbrev wsX3_init : List Cond := .code yX3_init cX3_init 1 none :: kn_T
abbrev wsX1_init : List Cond := .code yX1_init cX1_init 1 none :: kn_T
abbrev wsX3_cut : List Cond := .code yX3_cut cX3_cut 2 (some .boolean) :: kn_T
abbrev wsX3_format : List Cond := .code yX3_format cX3_format 5 (some .int) :: kn_T
abbrev wsX3_workOutVolume : List Cond := .code yX3_workOutVolume cX3_workOutVolume 8 none :: kn_T
abbrev wsJ7_fill : List Cond := .code yJ7_fill cJ7_fill 4 none :: kn_T
abbrev wsX0_mix : List Cond := .code yX0_mix cX0_mix 3 (some .int) :: kn_T
abbrev wsX0_digest : List Cond := .code yX0_digest cX0_digest 3 (some .int) :: kn_T
abbrev wsX3_slotPlace : List Cond := .code yX3_slotPlace cX3_slotPlace 1 (some .int) :: kn_T
abbrev wsX2_workOut : List Cond := .code yX2_workOut cX2_workOut 6 none :: kn_T
abbrev wsX2_workOutHalf : List Cond := .code yX2_workOutHalf cX2_workOutHalf 11 none :: kn_T
abbrev wsX0_slotKey : List Cond := .code yX0_slotKey cX0_slotKey 6 (some .int) :: kn_T
abbrev wsX2_mask : List Cond := .code yX2_mask cX2_mask 3 (some .int) :: kn_T
abbrev wsX0_encipher : List Cond := .code yX0_encipher cX0_encipher 6 (some .int) :: kn_T
abbrev wsX0_roundMask : List Cond := .code yX0_roundMask cX0_roundMask 3 (some .int) :: kn_T
abbrev wsX3_sectorPlace : List Cond := .code yX3_sectorPlace cX3_sectorPlace 1 (some .int) :: kn_T
abbrev wsX0_encipherSectorWord : List Cond := .code yX0_encipherSectorWord cX0_encipherSectorWord 6 (some .int) :: kn_T
abbrev wsX0_tweak : List Cond := .code yX0_tweak cX0_tweak 5 (some .int) :: kn_T
abbrev wsX3_putVolume : List Cond := .code yX3_putVolume cX3_putVolume 2 (some .boolean) :: kn_T
abbrev wsX1_put : List Cond := .code yX1_put cX1_put 3 (some .boolean) :: kn_T
abbrev wsX3_powerLost : List Cond := .code yX3_powerLost cX3_powerLost 1 (some .int) :: kn_T
abbrev wsX3_holdNoKeys : List Cond := .code yX3_holdNoKeys cX3_holdNoKeys 2 none :: kn_T
abbrev wsX3_mount : List Cond := .code yX3_mount cX3_mount 1 (some .int) :: kn_T
abbrev wsX1_wordAt : List Cond := .code yX1_wordAt cX1_wordAt 2 (some .int) :: kn_T
abbrev wsX1_settleJournal : List Cond := .code yX1_settleJournal cX1_settleJournal 1 (some .boolean) :: kn_T
abbrev wsX1_finishJournal : List Cond := .code yX1_finishJournal cX1_finishJournal 4 (some .boolean) :: kn_T
abbrev wsX1_clearJournal : List Cond := .code yX1_clearJournal cX1_clearJournal 2 (some .boolean) :: kn_T
abbrev wsX3_activeSlots : List Cond := .code yX3_activeSlots cX3_activeSlots 1 (some .int) :: kn_T
abbrev wsX3_slots : List Cond := .code yX3_slots cX3_slots 3 (some .int) :: kn_T
abbrev wsX3_isActive : List Cond := .code yX3_isActive cX3_isActive 2 (some .boolean) :: kn_T
abbrev wsJ6_bitCount : List Cond := .code yJ6_bitCount cJ6_bitCount 1 (some .int) :: kn_T
abbrev wsX3_unlock : List Cond := .code yX3_unlock cX3_unlock 3 (some .int) :: kn_T
abbrev wsX3_opensWith : List Cond := .code yX3_opensWith cX3_opensWith 6 (some .boolean) :: kn_T
abbrev wsX2_openHalf : List Cond := .code yX2_openHalf cX2_openHalf 9 (some .int) :: kn_T
abbrev wsX0_decipher : List Cond := .code yX0_decipher cX0_decipher 6 (some .int) :: kn_T
abbrev wsX3_lock : List Cond := .code yX3_lock cX3_lock 2 (some .int) :: kn_T
abbrev wsX3_add : List Cond := .code yX3_add cX3_add 5 (some .int) :: kn_T
abbrev wsX3_refusalUnlessOpen : List Cond := .code yX3_refusalUnlessOpen cX3_refusalUnlessOpen 1 (some .int) :: kn_T
abbrev wsX3_leastFreeSlot : List Cond := .code yX3_leastFreeSlot cX3_leastFreeSlot 2 (some .int) :: kn_T
abbrev wsX3_fillSlot : List Cond := .code yX3_fillSlot cX3_fillSlot 4 (some .boolean) :: kn_T
abbrev wsX1_replaceByJournal : List Cond := .code yX1_replaceByJournal cX1_replaceByJournal 5 (some .boolean) :: kn_T
abbrev wsX3_change : List Cond := .code yX3_change cX3_change 5 (some .int) :: kn_T
abbrev wsX3_refusalOfSlot : List Cond := .code yX3_refusalOfSlot cX3_refusalOfSlot 3 (some .int) :: kn_T
abbrev wsX3_revoke : List Cond := .code yX3_revoke cX3_revoke 3 (some .int) :: kn_T
abbrev wsX3_clearSlot : List Cond := .code yX3_clearSlot cX3_clearSlot 2 (some .boolean) :: kn_T
abbrev wsX3_write : List Cond := .code yX3_write cX3_write 7 (some .int) :: kn_T
abbrev wsX3_refusalOfWord : List Cond := .code yX3_refusalOfWord cX3_refusalOfWord 5 (some .int) :: kn_T
abbrev wsX3_plainWord : List Cond := .code yX3_plainWord cX3_plainWord 4 (some .int) :: kn_T
abbrev wsX0_decipherSectorWord : List Cond := .code yX0_decipherSectorWord cX0_decipherSectorWord 6 (some .int) :: kn_T
abbrev wsX3_read : List Cond := .code yX3_read cX3_read 4 (some .long) :: kn_T
abbrev wsX3_state : List Cond := .code yX3_state cX3_state 1 (some .int) :: kn_T
abbrev wsX3_peek : List Cond := .code yX3_peek cX3_peek 2 (some .int) :: kn_T
abbrev wsX3_writes : List Cond := .code yX3_writes cX3_writes 1 (some .int) :: kn_T
abbrev wsX4_init : List Cond := .code yX4_init cX4_init 1 none :: kn_T
abbrev wsX4_cut : List Cond := .code yX4_cut cX4_cut 2 (some .boolean) :: kn_T
abbrev wsX4_format : List Cond := .code yX4_format cX4_format 7 (some .int) :: kn_T
abbrev wsX4_begin : List Cond := .code yX4_begin cX4_begin 2 none :: kn_T
abbrev wsX4_h : List Cond := .code yX4_h cX4_h 3 (some .int) :: kn_T
abbrev wsX4_digest : List Cond := .code yX4_digest cX4_digest 4 (some .int) :: kn_T
abbrev wsX4_makeSlot : List Cond := .code yX4_makeSlot cX4_makeSlot 8 none :: kn_T
abbrev wsX4_cover : List Cond := .code yX4_cover cX4_cover 3 (some .int) :: kn_T
abbrev wsX4_slotKey : List Cond := .code yX4_slotKey cX4_slotKey 6 (some .int) :: kn_T
abbrev wsX4_enc : List Cond := .code yX4_enc cX4_enc 6 (some .int) :: kn_T
abbrev wsX4_round : List Cond := .code yX4_round cX4_round 4 (some .int) :: kn_T
abbrev wsX4_hide : List Cond := .code yX4_hide cX4_hide 6 (some .int) :: kn_T
abbrev wsX4_mask : List Cond := .code yX4_mask cX4_mask 5 (some .int) :: kn_T
abbrev wsX4_plan : List Cond := .code yX4_plan cX4_plan 3 none :: kn_T
abbrev wsX4_perform : List Cond := .code yX4_perform cX4_perform 2 (some .boolean) :: kn_T
abbrev wsX4_mount : List Cond := .code yX4_mount cX4_mount 1 (some .int) :: kn_T
abbrev wsX4_planFinish : List Cond := .code yX4_planFinish cX4_planFinish 4 none :: kn_T
abbrev wsX4_planClean : List Cond := .code yX4_planClean cX4_planClean 2 none :: kn_T
abbrev wsX4_count : List Cond := .code yX4_count cX4_count 3 (some .int) :: kn_T
abbrev wsX4_active : List Cond := .code yX4_active cX4_active 2 (some .boolean) :: kn_T
abbrev wsX4_unlock : List Cond := .code yX4_unlock cX4_unlock 3 (some .int) :: kn_T
abbrev wsX4_opens : List Cond := .code yX4_opens cX4_opens 6 (some .boolean) :: kn_T
abbrev wsX4_dec : List Cond := .code yX4_dec cX4_dec 6 (some .int) :: kn_T
abbrev wsX4_lock : List Cond := .code yX4_lock cX4_lock 2 (some .int) :: kn_T
abbrev wsX4_add : List Cond := .code yX4_add cX4_add 4 (some .int) :: kn_T
abbrev wsX4_closed : List Cond := .code yX4_closed cX4_closed 1 (some .int) :: kn_T
abbrev wsX4_planChange : List Cond := .code yX4_planChange cX4_planChange 4 none :: kn_T
abbrev wsX4_change : List Cond := .code yX4_change cX4_change 4 (some .int) :: kn_T
abbrev wsX4_badSlot : List Cond := .code yX4_badSlot cX4_badSlot 2 (some .int) :: kn_T
abbrev wsX4_revoke : List Cond := .code yX4_revoke cX4_revoke 3 (some .int) :: kn_T
abbrev wsX4_write : List Cond := .code yX4_write cX4_write 6 (some .int) :: kn_T
abbrev wsX4_badWord : List Cond := .code yX4_badWord cX4_badWord 3 (some .int) :: kn_T
abbrev wsX4_show : List Cond := .code yX4_show cX4_show 6 (some .int) :: kn_T
abbrev wsX4_read : List Cond := .code yX4_read cX4_read 4 (some .long) :: kn_T
abbrev wsX4_state : List Cond := .code yX4_state cX4_state 1 (some .int) :: kn_T
abbrev wsX4_slots : List Cond := .code yX4_slots cX4_slots 3 (some .int) :: kn_T
abbrev wsX4_peek : List Cond := .code yX4_peek cX4_peek 2 (some .int) :: kn_T
abbrev wsX4_writes : List Cond := .code yX4_writes cX4_writes 1 (some .int) :: kn_T
abbrev cL_law : ByteArray := code
end
section
theorem dX0_mix_0 : decode cX0_mix 0 = .ok (.iload_n 0, 1) := by decide +kernel
theorem dX0_mix_1 : decode cX0_mix 1 = .ok (.ldc 7, 2) := by decide +kernel
theorem dX0_mix_3 : decode cX0_mix 3 = .ok (.ixor, 1) := by decide +kernel
theorem dX0_mix_4 : decode cX0_mix 4 = .ok (.ldc 8, 2) := by decide +kernel
theorem dX0_mix_6 : decode cX0_mix 6 = .ok (.imul, 1) := by decide +kernel
theorem dX0_mix_7 : decode cX0_mix 7 = .ok (.iload_n 1, 1) := by decide +kernel
theorem dX0_mix_8 : decode cX0_mix 8 = .ok (.iadd, 1) := by decide +kernel
theorem dX0_mix_9 : decode cX0_mix 9 = .ok (.istore_n 2, 1) := by decide +kernel
theorem dX0_mix_10 : decode cX0_mix 10 = .ok (.iload_n 2, 1) := by decide +kernel
theorem dX0_mix_11 : decode cX0_mix 11 = .ok (.iload_n 2, 1) := by decide +kernel
theorem dX0_mix_12 : decode cX0_mix 12 = .ok (.bipush 15, 2) := by decide +kernel
theorem dX0_mix_14 : decode cX0_mix 14 = .ok (.iushr, 1) := by decide +kernel
theorem dX0_mix_15 : decode cX0_mix 15 = .ok (.ixor, 1) := by decide +kernel
theorem dX0_mix_16 : decode cX0_mix 16 = .ok (.istore_n 2, 1) := by decide +kernel
theorem dX0_mix_17 : decode cX0_mix 17 = .ok (.iload_n 2, 1) := by decide +kernel
theorem dX0_mix_18 : decode cX0_mix 18 = .ok (.ldc 9, 2) := by decide +kernel
theorem dX0_mix_20 : decode cX0_mix 20 = .ok (.imul, 1) := by decide +kernel
theorem dX0_mix_21 : decode cX0_mix 21 = .ok (.istore_n 2, 1) := by decide +kernel
theorem dX0_mix_22 : decode cX0_mix 22 = .ok (.iload_n 2, 1) := by decide +kernel
theorem dX0_mix_23 : decode cX0_mix 23 = .ok (.iload_n 2, 1) := by decide +kernel
theorem dX0_mix_24 : decode cX0_mix 24 = .ok (.bipush 13, 2) := by decide +kernel
theorem dX0_mix_26 : decode cX0_mix 26 = .ok (.iushr, 1) := by decide +kernel
theorem dX0_mix_27 : decode cX0_mix 27 = .ok (.ixor, 1) := by decide +kernel
theorem dX0_mix_28 : decode cX0_mix 28 = .ok (.ireturn, 1) := by decide +kernel
theorem dX0_encipher_0 : decode cX0_encipher 0 = .ok (.iload_n 1, 1) := by decide +kernel
theorem dX0_encipher_1 : decode cX0_encipher 1 = .ok (.bipush 16, 2) := by decide +kernel
theorem dX0_encipher_3 : decode cX0_encipher 3 = .ok (.iushr, 1) := by decide +kernel
theorem dX0_encipher_4 : decode cX0_encipher 4 = .ok (.istore_n 2, 1) := by decide +kernel
theorem dX0_encipher_5 : decode cX0_encipher 5 = .ok (.iload_n 1, 1) := by decide +kernel
theorem dX0_encipher_6 : decode cX0_encipher 6 = .ok (.ldc 12, 2) := by decide +kernel
theorem dX0_encipher_8 : decode cX0_encipher 8 = .ok (.iand, 1) := by decide +kernel
theorem dX0_encipher_9 : decode cX0_encipher 9 = .ok (.istore_n 3, 1) := by decide +kernel
theorem dX0_encipher_10 : decode cX0_encipher 10 = .ok (.iconst 0, 1) := by decide +kernel
theorem dX0_encipher_11 : decode cX0_encipher 11 = .ok (.istore 4, 2) := by decide +kernel
theorem dX0_encipher_13 : decode cX0_encipher 13 = .ok (.iload 4, 2) := by decide +kernel
theorem dX0_encipher_15 : decode cX0_encipher 15 = .ok (.iconst 4, 1) := by decide +kernel
theorem dX0_encipher_16 : decode cX0_encipher 16 = .ok (.if_icmp .ge 25, 3) := by decide +kernel
theorem dX0_encipher_19 : decode cX0_encipher 19 = .ok (.iload_n 2, 1) := by decide +kernel
theorem dX0_encipher_20 : decode cX0_encipher 20 = .ok (.istore 5, 2) := by decide +kernel
theorem dX0_encipher_22 : decode cX0_encipher 22 = .ok (.iload_n 3, 1) := by decide +kernel
theorem dX0_encipher_23 : decode cX0_encipher 23 = .ok (.istore_n 2, 1) := by decide +kernel
theorem dX0_encipher_24 : decode cX0_encipher 24 = .ok (.iload 5, 2) := by decide +kernel
theorem dX0_encipher_26 : decode cX0_encipher 26 = .ok (.iload_n 0, 1) := by decide +kernel
theorem dX0_encipher_27 : decode cX0_encipher 27 = .ok (.iload 4, 2) := by decide +kernel
theorem dX0_encipher_29 : decode cX0_encipher 29 = .ok (.iload_n 3, 1) := by decide +kernel
theorem dX0_encipher_30 : decode cX0_encipher 30 = .ok (.invokestatic 13, 3) := by decide +kernel
theorem dX0_encipher_33 : decode cX0_encipher 33 = .ok (.ixor, 1) := by decide +kernel
theorem dX0_encipher_34 : decode cX0_encipher 34 = .ok (.istore_n 3, 1) := by decide +kernel
theorem dX0_encipher_35 : decode cX0_encipher 35 = .ok (.iinc 4 1, 3) := by decide +kernel
theorem dX0_encipher_38 : decode cX0_encipher 38 = .ok (.goto (-25), 3) := by decide +kernel
theorem dX0_encipher_41 : decode cX0_encipher 41 = .ok (.iload_n 2, 1) := by decide +kernel
theorem dX0_encipher_42 : decode cX0_encipher 42 = .ok (.bipush 16, 2) := by decide +kernel
theorem dX0_encipher_44 : decode cX0_encipher 44 = .ok (.ishl, 1) := by decide +kernel
theorem dX0_encipher_45 : decode cX0_encipher 45 = .ok (.iload_n 3, 1) := by decide +kernel
theorem dX0_encipher_46 : decode cX0_encipher 46 = .ok (.ior, 1) := by decide +kernel
theorem dX0_encipher_47 : decode cX0_encipher 47 = .ok (.ireturn, 1) := by decide +kernel
theorem dX0_decipher_0 : decode cX0_decipher 0 = .ok (.iload_n 1, 1) := by decide +kernel
theorem dX0_decipher_1 : decode cX0_decipher 1 = .ok (.bipush 16, 2) := by decide +kernel
theorem dX0_decipher_3 : decode cX0_decipher 3 = .ok (.iushr, 1) := by decide +kernel
theorem dX0_decipher_4 : decode cX0_decipher 4 = .ok (.istore_n 2, 1) := by decide +kernel
theorem dX0_decipher_5 : decode cX0_decipher 5 = .ok (.iload_n 1, 1) := by decide +kernel
theorem dX0_decipher_6 : decode cX0_decipher 6 = .ok (.ldc 12, 2) := by decide +kernel
theorem dX0_decipher_8 : decode cX0_decipher 8 = .ok (.iand, 1) := by decide +kernel
theorem dX0_decipher_9 : decode cX0_decipher 9 = .ok (.istore_n 3, 1) := by decide +kernel
theorem dX0_decipher_10 : decode cX0_decipher 10 = .ok (.iconst 3, 1) := by decide +kernel
theorem dX0_decipher_11 : decode cX0_decipher 11 = .ok (.istore 4, 2) := by decide +kernel
theorem dX0_decipher_13 : decode cX0_decipher 13 = .ok (.iload 4, 2) := by decide +kernel
theorem dX0_decipher_15 : decode cX0_decipher 15 = .ok (.ifCond .lt 25, 3) := by decide +kernel
theorem dX0_decipher_18 : decode cX0_decipher 18 = .ok (.iload_n 3, 1) := by decide +kernel
theorem dX0_decipher_19 : decode cX0_decipher 19 = .ok (.istore 5, 2) := by decide +kernel
theorem dX0_decipher_21 : decode cX0_decipher 21 = .ok (.iload_n 2, 1) := by decide +kernel
theorem dX0_decipher_22 : decode cX0_decipher 22 = .ok (.istore_n 3, 1) := by decide +kernel
theorem dX0_decipher_23 : decode cX0_decipher 23 = .ok (.iload 5, 2) := by decide +kernel
theorem dX0_decipher_25 : decode cX0_decipher 25 = .ok (.iload_n 0, 1) := by decide +kernel
theorem dX0_decipher_26 : decode cX0_decipher 26 = .ok (.iload 4, 2) := by decide +kernel
theorem dX0_decipher_28 : decode cX0_decipher 28 = .ok (.iload_n 2, 1) := by decide +kernel
theorem dX0_decipher_29 : decode cX0_decipher 29 = .ok (.invokestatic 13, 3) := by decide +kernel
theorem dX0_decipher_32 : decode cX0_decipher 32 = .ok (.ixor, 1) := by decide +kernel
theorem dX0_decipher_33 : decode cX0_decipher 33 = .ok (.istore_n 2, 1) := by decide +kernel
theorem dX0_decipher_34 : decode cX0_decipher 34 = .ok (.iinc 4 (-1), 3) := by decide +kernel
theorem dX0_decipher_37 : decode cX0_decipher 37 = .ok (.goto (-24), 3) := by decide +kernel
theorem dX0_decipher_40 : decode cX0_decipher 40 = .ok (.iload_n 2, 1) := by decide +kernel
theorem dX0_decipher_41 : decode cX0_decipher 41 = .ok (.bipush 16, 2) := by decide +kernel
theorem dX0_decipher_43 : decode cX0_decipher 43 = .ok (.ishl, 1) := by decide +kernel
theorem dX0_decipher_44 : decode cX0_decipher 44 = .ok (.iload_n 3, 1) := by decide +kernel
theorem dX0_decipher_45 : decode cX0_decipher 45 = .ok (.ior, 1) := by decide +kernel
theorem dX0_decipher_46 : decode cX0_decipher 46 = .ok (.ireturn, 1) := by decide +kernel
theorem dX0_roundMask_0 : decode cX0_roundMask 0 = .ok (.iload_n 0, 1) := by decide +kernel
theorem dX0_roundMask_1 : decode cX0_roundMask 1 = .ok (.iload_n 1, 1) := by decide +kernel
theorem dX0_roundMask_2 : decode cX0_roundMask 2 = .ok (.invokestatic 17, 3) := by decide +kernel
theorem dX0_roundMask_5 : decode cX0_roundMask 5 = .ok (.iload_n 2, 1) := by decide +kernel
theorem dX0_roundMask_6 : decode cX0_roundMask 6 = .ok (.invokestatic 17, 3) := by decide +kernel
theorem dX0_roundMask_9 : decode cX0_roundMask 9 = .ok (.ldc 12, 2) := by decide +kernel
theorem dX0_roundMask_11 : decode cX0_roundMask 11 = .ok (.iand, 1) := by decide +kernel
theorem dX0_roundMask_12 : decode cX0_roundMask 12 = .ok (.ireturn, 1) := by decide +kernel
theorem dX0_slotKey_0 : decode cX0_slotKey 0 = .ok (.iload_n 0, 1) := by decide +kernel
theorem dX0_slotKey_1 : decode cX0_slotKey 1 = .ok (.iload_n 1, 1) := by decide +kernel
theorem dX0_slotKey_2 : decode cX0_slotKey 2 = .ok (.invokestatic 17, 3) := by decide +kernel
theorem dX0_slotKey_5 : decode cX0_slotKey 5 = .ok (.iload_n 2, 1) := by decide +kernel
theorem dX0_slotKey_6 : decode cX0_slotKey 6 = .ok (.invokestatic 17, 3) := by decide +kernel
theorem dX0_slotKey_9 : decode cX0_slotKey 9 = .ok (.istore_n 3, 1) := by decide +kernel
theorem dX0_slotKey_10 : decode cX0_slotKey 10 = .ok (.iload_n 3, 1) := by decide +kernel
theorem dX0_slotKey_11 : decode cX0_slotKey 11 = .ok (.istore 4, 2) := by decide +kernel
theorem dX0_slotKey_13 : decode cX0_slotKey 13 = .ok (.iconst 0, 1) := by decide +kernel
theorem dX0_slotKey_14 : decode cX0_slotKey 14 = .ok (.istore 5, 2) := by decide +kernel
theorem dX0_slotKey_16 : decode cX0_slotKey 16 = .ok (.iload 5, 2) := by decide +kernel
theorem dX0_slotKey_18 : decode cX0_slotKey 18 = .ok (.bipush 7, 2) := by decide +kernel
theorem dX0_slotKey_20 : decode cX0_slotKey 20 = .ok (.if_icmp .ge 21, 3) := by decide +kernel
theorem dX0_slotKey_23 : decode cX0_slotKey 23 = .ok (.iload_n 0, 1) := by decide +kernel
theorem dX0_slotKey_24 : decode cX0_slotKey 24 = .ok (.iload_n 3, 1) := by decide +kernel
theorem dX0_slotKey_25 : decode cX0_slotKey 25 = .ok (.invokestatic 17, 3) := by decide +kernel
theorem dX0_slotKey_28 : decode cX0_slotKey 28 = .ok (.istore_n 3, 1) := by decide +kernel
theorem dX0_slotKey_29 : decode cX0_slotKey 29 = .ok (.iload 4, 2) := by decide +kernel
theorem dX0_slotKey_31 : decode cX0_slotKey 31 = .ok (.iload_n 3, 1) := by decide +kernel
theorem dX0_slotKey_32 : decode cX0_slotKey 32 = .ok (.ixor, 1) := by decide +kernel
theorem dX0_slotKey_33 : decode cX0_slotKey 33 = .ok (.istore 4, 2) := by decide +kernel
theorem dX0_slotKey_35 : decode cX0_slotKey 35 = .ok (.iinc 5 1, 3) := by decide +kernel
theorem dX0_slotKey_38 : decode cX0_slotKey 38 = .ok (.goto (-22), 3) := by decide +kernel
theorem dX0_slotKey_41 : decode cX0_slotKey 41 = .ok (.iload 4, 2) := by decide +kernel
theorem dX0_slotKey_43 : decode cX0_slotKey 43 = .ok (.ireturn, 1) := by decide +kernel
theorem dX0_digest_0 : decode cX0_digest 0 = .ok (.iload_n 0, 1) := by decide +kernel
theorem dX0_digest_1 : decode cX0_digest 1 = .ok (.iload_n 2, 1) := by decide +kernel
theorem dX0_digest_2 : decode cX0_digest 2 = .ok (.invokestatic 17, 3) := by decide +kernel
theorem dX0_digest_5 : decode cX0_digest 5 = .ok (.iload_n 1, 1) := by decide +kernel
theorem dX0_digest_6 : decode cX0_digest 6 = .ok (.invokestatic 17, 3) := by decide +kernel
theorem dX0_digest_9 : decode cX0_digest 9 = .ok (.ireturn, 1) := by decide +kernel
theorem dX0_encipherSectorWord_0 : decode cX0_encipherSectorWord 0 = .ok (.iload_n 1, 1) := by decide +kernel
theorem dX0_encipherSectorWord_1 : decode cX0_encipherSectorWord 1 = .ok (.iload_n 2, 1) := by decide +kernel
theorem dX0_encipherSectorWord_2 : decode cX0_encipherSectorWord 2 = .ok (.iload_n 3, 1) := by decide +kernel
theorem dX0_encipherSectorWord_3 : decode cX0_encipherSectorWord 3 = .ok (.invokestatic 21, 3) := by decide +kernel
theorem dX0_encipherSectorWord_6 : decode cX0_encipherSectorWord 6 = .ok (.istore 5, 2) := by decide +kernel
theorem dX0_encipherSectorWord_8 : decode cX0_encipherSectorWord 8 = .ok (.iload_n 0, 1) := by decide +kernel
theorem dX0_encipherSectorWord_9 : decode cX0_encipherSectorWord 9 = .ok (.iload 4, 2) := by decide +kernel
theorem dX0_encipherSectorWord_11 : decode cX0_encipherSectorWord 11 = .ok (.iload 5, 2) := by decide +kernel
theorem dX0_encipherSectorWord_13 : decode cX0_encipherSectorWord 13 = .ok (.ixor, 1) := by decide +kernel
theorem dX0_encipherSectorWord_14 : decode cX0_encipherSectorWord 14 = .ok (.invokestatic 24, 3) := by decide +kernel
theorem dX0_encipherSectorWord_17 : decode cX0_encipherSectorWord 17 = .ok (.iload 5, 2) := by decide +kernel
theorem dX0_encipherSectorWord_19 : decode cX0_encipherSectorWord 19 = .ok (.ixor, 1) := by decide +kernel
theorem dX0_encipherSectorWord_20 : decode cX0_encipherSectorWord 20 = .ok (.ireturn, 1) := by decide +kernel
theorem dX0_decipherSectorWord_0 : decode cX0_decipherSectorWord 0 = .ok (.iload_n 1, 1) := by decide +kernel
theorem dX0_decipherSectorWord_1 : decode cX0_decipherSectorWord 1 = .ok (.iload_n 2, 1) := by decide +kernel
theorem dX0_decipherSectorWord_2 : decode cX0_decipherSectorWord 2 = .ok (.iload_n 3, 1) := by decide +kernel
theorem dX0_decipherSectorWord_3 : decode cX0_decipherSectorWord 3 = .ok (.invokestatic 21, 3) := by decide +kernel
theorem dX0_decipherSectorWord_6 : decode cX0_decipherSectorWord 6 = .ok (.istore 5, 2) := by decide +kernel
theorem dX0_decipherSectorWord_8 : decode cX0_decipherSectorWord 8 = .ok (.iload_n 0, 1) := by decide +kernel
theorem dX0_decipherSectorWord_9 : decode cX0_decipherSectorWord 9 = .ok (.iload 4, 2) := by decide +kernel
theorem dX0_decipherSectorWord_11 : decode cX0_decipherSectorWord 11 = .ok (.iload 5, 2) := by decide +kernel
theorem dX0_decipherSectorWord_13 : decode cX0_decipherSectorWord 13 = .ok (.ixor, 1) := by decide +kernel
theorem dX0_decipherSectorWord_14 : decode cX0_decipherSectorWord 14 = .ok (.invokestatic 27, 3) := by decide +kernel
theorem dX0_decipherSectorWord_17 : decode cX0_decipherSectorWord 17 = .ok (.iload 5, 2) := by decide +kernel
theorem dX0_decipherSectorWord_19 : decode cX0_decipherSectorWord 19 = .ok (.ixor, 1) := by decide +kernel
theorem dX0_decipherSectorWord_20 : decode cX0_decipherSectorWord 20 = .ok (.ireturn, 1) := by decide +kernel
theorem dX0_tweak_0 : decode cX0_tweak 0 = .ok (.iload_n 0, 1) := by decide +kernel
theorem dX0_tweak_1 : decode cX0_tweak 1 = .ok (.iload_n 1, 1) := by decide +kernel
theorem dX0_tweak_2 : decode cX0_tweak 2 = .ok (.invokestatic 24, 3) := by decide +kernel
theorem dX0_tweak_5 : decode cX0_tweak 5 = .ok (.istore_n 3, 1) := by decide +kernel
theorem dX0_tweak_6 : decode cX0_tweak 6 = .ok (.iconst 0, 1) := by decide +kernel
theorem dX0_tweak_7 : decode cX0_tweak 7 = .ok (.istore 4, 2) := by decide +kernel
theorem dX0_tweak_9 : decode cX0_tweak 9 = .ok (.iload 4, 2) := by decide +kernel
theorem dX0_tweak_11 : decode cX0_tweak 11 = .ok (.iload_n 2, 1) := by decide +kernel
theorem dX0_tweak_12 : decode cX0_tweak 12 = .ok (.if_icmp .ge 25, 3) := by decide +kernel
theorem dX0_tweak_15 : decode cX0_tweak 15 = .ok (.iload_n 3, 1) := by decide +kernel
theorem dX0_tweak_16 : decode cX0_tweak 16 = .ok (.iconst 1, 1) := by decide +kernel
theorem dX0_tweak_17 : decode cX0_tweak 17 = .ok (.ishl, 1) := by decide +kernel
theorem dX0_tweak_18 : decode cX0_tweak 18 = .ok (.iload_n 3, 1) := by decide +kernel
theorem dX0_tweak_19 : decode cX0_tweak 19 = .ok (.ifCond .ge 9, 3) := by decide +kernel
theorem dX0_tweak_22 : decode cX0_tweak 22 = .ok (.sipush 141, 3) := by decide +kernel
theorem dX0_tweak_25 : decode cX0_tweak 25 = .ok (.goto 4, 3) := by decide +kernel
theorem dX0_tweak_28 : decode cX0_tweak 28 = .ok (.iconst 0, 1) := by decide +kernel
theorem dX0_tweak_29 : decode cX0_tweak 29 = .ok (.ixor, 1) := by decide +kernel
theorem dX0_tweak_30 : decode cX0_tweak 30 = .ok (.istore_n 3, 1) := by decide +kernel
theorem dX0_tweak_31 : decode cX0_tweak 31 = .ok (.iinc 4 1, 3) := by decide +kernel
theorem dX0_tweak_34 : decode cX0_tweak 34 = .ok (.goto (-25), 3) := by decide +kernel
theorem dX0_tweak_37 : decode cX0_tweak 37 = .ok (.iload_n 3, 1) := by decide +kernel
theorem dX0_tweak_38 : decode cX0_tweak 38 = .ok (.ireturn, 1) := by decide +kernel
theorem dX1_init_0 : decode cX1_init 0 = .ok (.aload_n 0, 1) := by decide +kernel
theorem dX1_init_1 : decode cX1_init 1 = .ok (.invokespecial 1, 3) := by decide +kernel
theorem dX1_init_4 : decode cX1_init 4 = .ok (.aload_n 0, 1) := by decide +kernel
theorem dX1_init_5 : decode cX1_init 5 = .ok (.bipush 80, 2) := by decide +kernel
theorem dX1_init_7 : decode cX1_init 7 = .ok (.newarray .int, 2) := by decide +kernel
theorem dX1_init_9 : decode cX1_init 9 = .ok (.putfield 9, 3) := by decide +kernel
theorem dX1_init_12 : decode cX1_init 12 = .ok (.aload_n 0, 1) := by decide +kernel
theorem dX1_init_13 : decode cX1_init 13 = .ok (.iconst (-1), 1) := by decide +kernel
theorem dX1_init_14 : decode cX1_init 14 = .ok (.putfield 13, 3) := by decide +kernel
theorem dX1_init_17 : decode cX1_init 17 = .ok (.return_, 1) := by decide +kernel
theorem dX1_wordAt_0 : decode cX1_wordAt 0 = .ok (.iload_n 1, 1) := by decide +kernel
theorem dX1_wordAt_1 : decode cX1_wordAt 1 = .ok (.ifCond .lt 18, 3) := by decide +kernel
theorem dX1_wordAt_4 : decode cX1_wordAt 4 = .ok (.iload_n 1, 1) := by decide +kernel
theorem dX1_wordAt_5 : decode cX1_wordAt 5 = .ok (.bipush 80, 2) := by decide +kernel
theorem dX1_wordAt_7 : decode cX1_wordAt 7 = .ok (.if_icmp .ge 12, 3) := by decide +kernel
theorem dX1_wordAt_10 : decode cX1_wordAt 10 = .ok (.aload_n 0, 1) := by decide +kernel
theorem dX1_wordAt_11 : decode cX1_wordAt 11 = .ok (.getfield 9, 3) := by decide +kernel
theorem dX1_wordAt_14 : decode cX1_wordAt 14 = .ok (.iload_n 1, 1) := by decide +kernel
theorem dX1_wordAt_15 : decode cX1_wordAt 15 = .ok (.iaload, 1) := by decide +kernel
theorem dX1_wordAt_16 : decode cX1_wordAt 16 = .ok (.goto 4, 3) := by decide +kernel
theorem dX1_wordAt_19 : decode cX1_wordAt 19 = .ok (.iconst 0, 1) := by decide +kernel
theorem dX1_wordAt_20 : decode cX1_wordAt 20 = .ok (.ireturn, 1) := by decide +kernel
theorem dX1_put_0 : decode cX1_put 0 = .ok (.aload_n 0, 1) := by decide +kernel
theorem dX1_put_1 : decode cX1_put 1 = .ok (.getfield 13, 3) := by decide +kernel
theorem dX1_put_4 : decode cX1_put 4 = .ok (.ifCond .ne 10, 3) := by decide +kernel
theorem dX1_put_7 : decode cX1_put 7 = .ok (.aload_n 0, 1) := by decide +kernel
theorem dX1_put_8 : decode cX1_put 8 = .ok (.iconst (-1), 1) := by decide +kernel
theorem dX1_put_9 : decode cX1_put 9 = .ok (.putfield 13, 3) := by decide +kernel
theorem dX1_put_12 : decode cX1_put 12 = .ok (.iconst 0, 1) := by decide +kernel
theorem dX1_put_13 : decode cX1_put 13 = .ok (.ireturn, 1) := by decide +kernel
theorem dX1_put_14 : decode cX1_put 14 = .ok (.aload_n 0, 1) := by decide +kernel
theorem dX1_put_15 : decode cX1_put 15 = .ok (.getfield 13, 3) := by decide +kernel
theorem dX1_put_18 : decode cX1_put 18 = .ok (.ifCond .le 13, 3) := by decide +kernel
theorem dX1_put_21 : decode cX1_put 21 = .ok (.aload_n 0, 1) := by decide +kernel
theorem dX1_put_22 : decode cX1_put 22 = .ok (.dup, 1) := by decide +kernel
theorem dX1_put_23 : decode cX1_put 23 = .ok (.getfield 13, 3) := by decide +kernel
theorem dX1_put_26 : decode cX1_put 26 = .ok (.iconst 1, 1) := by decide +kernel
theorem dX1_put_27 : decode cX1_put 27 = .ok (.isub, 1) := by decide +kernel
theorem dX1_put_28 : decode cX1_put 28 = .ok (.putfield 13, 3) := by decide +kernel
theorem dX1_put_31 : decode cX1_put 31 = .ok (.aload_n 0, 1) := by decide +kernel
theorem dX1_put_32 : decode cX1_put 32 = .ok (.dup, 1) := by decide +kernel
theorem dX1_put_33 : decode cX1_put 33 = .ok (.getfield 17, 3) := by decide +kernel
theorem dX1_put_36 : decode cX1_put 36 = .ok (.iconst 1, 1) := by decide +kernel
theorem dX1_put_37 : decode cX1_put 37 = .ok (.iadd, 1) := by decide +kernel
theorem dX1_put_38 : decode cX1_put 38 = .ok (.putfield 17, 3) := by decide +kernel
theorem dX1_put_41 : decode cX1_put 41 = .ok (.iload_n 1, 1) := by decide +kernel
theorem dX1_put_42 : decode cX1_put 42 = .ok (.ifCond .lt 16, 3) := by decide +kernel
theorem dX1_put_45 : decode cX1_put 45 = .ok (.iload_n 1, 1) := by decide +kernel
theorem dX1_put_46 : decode cX1_put 46 = .ok (.bipush 80, 2) := by decide +kernel
theorem dX1_put_48 : decode cX1_put 48 = .ok (.if_icmp .ge 10, 3) := by decide +kernel
theorem dX1_put_51 : decode cX1_put 51 = .ok (.aload_n 0, 1) := by decide +kernel
theorem dX1_put_52 : decode cX1_put 52 = .ok (.getfield 9, 3) := by decide +kernel
theorem dX1_put_55 : decode cX1_put 55 = .ok (.iload_n 1, 1) := by decide +kernel
theorem dX1_put_56 : decode cX1_put 56 = .ok (.iload_n 2, 1) := by decide +kernel
theorem dX1_put_57 : decode cX1_put 57 = .ok (.iastore, 1) := by decide +kernel
theorem dX1_put_58 : decode cX1_put 58 = .ok (.iconst 1, 1) := by decide +kernel
theorem dX1_put_59 : decode cX1_put 59 = .ok (.ireturn, 1) := by decide +kernel
theorem dX1_replaceByJournal_0 : decode cX1_replaceByJournal 0 = .ok (.iconst 0, 1) := by decide +kernel
theorem dX1_replaceByJournal_1 : decode cX1_replaceByJournal 1 = .ok (.istore 4, 2) := by decide +kernel
theorem dX1_replaceByJournal_3 : decode cX1_replaceByJournal 3 = .ok (.iload 4, 2) := by decide +kernel
theorem dX1_replaceByJournal_5 : decode cX1_replaceByJournal 5 = .ok (.iload_n 2, 1) := by decide +kernel
theorem dX1_replaceByJournal_6 : decode cX1_replaceByJournal 6 = .ok (.if_icmp .ge 34, 3) := by decide +kernel
theorem dX1_replaceByJournal_9 : decode cX1_replaceByJournal 9 = .ok (.iload 4, 2) := by decide +kernel
theorem dX1_replaceByJournal_11 : decode cX1_replaceByJournal 11 = .ok (.aload_n 3, 1) := by decide +kernel
theorem dX1_replaceByJournal_12 : decode cX1_replaceByJournal 12 = .ok (.arraylength, 1) := by decide +kernel
theorem dX1_replaceByJournal_13 : decode cX1_replaceByJournal 13 = .ok (.if_icmp .ge 27, 3) := by decide +kernel
theorem dX1_replaceByJournal_16 : decode cX1_replaceByJournal 16 = .ok (.aload_n 0, 1) := by decide +kernel
theorem dX1_replaceByJournal_17 : decode cX1_replaceByJournal 17 = .ok (.bipush 38, 2) := by decide +kernel
theorem dX1_replaceByJournal_19 : decode cX1_replaceByJournal 19 = .ok (.iload 4, 2) := by decide +kernel
theorem dX1_replaceByJournal_21 : decode cX1_replaceByJournal 21 = .ok (.iadd, 1) := by decide +kernel
theorem dX1_replaceByJournal_22 : decode cX1_replaceByJournal 22 = .ok (.aload_n 3, 1) := by decide +kernel
theorem dX1_replaceByJournal_23 : decode cX1_replaceByJournal 23 = .ok (.iload 4, 2) := by decide +kernel
theorem dX1_replaceByJournal_25 : decode cX1_replaceByJournal 25 = .ok (.iaload, 1) := by decide +kernel
theorem dX1_replaceByJournal_26 : decode cX1_replaceByJournal 26 = .ok (.invokevirtual 20, 3) := by decide +kernel
theorem dX1_replaceByJournal_29 : decode cX1_replaceByJournal 29 = .ok (.ifCond .ne 5, 3) := by decide +kernel
theorem dX1_replaceByJournal_32 : decode cX1_replaceByJournal 32 = .ok (.iconst 0, 1) := by decide +kernel
theorem dX1_replaceByJournal_33 : decode cX1_replaceByJournal 33 = .ok (.ireturn, 1) := by decide +kernel
theorem dX1_replaceByJournal_34 : decode cX1_replaceByJournal 34 = .ok (.iinc 4 1, 3) := by decide +kernel
theorem dX1_replaceByJournal_37 : decode cX1_replaceByJournal 37 = .ok (.goto (-34), 3) := by decide +kernel
theorem dX1_replaceByJournal_40 : decode cX1_replaceByJournal 40 = .ok (.aload_n 0, 1) := by decide +kernel
theorem dX1_replaceByJournal_41 : decode cX1_replaceByJournal 41 = .ok (.bipush 37, 2) := by decide +kernel
theorem dX1_replaceByJournal_43 : decode cX1_replaceByJournal 43 = .ok (.iload_n 1, 1) := by decide +kernel
theorem dX1_replaceByJournal_44 : decode cX1_replaceByJournal 44 = .ok (.sipush 256, 3) := by decide +kernel
theorem dX1_replaceByJournal_47 : decode cX1_replaceByJournal 47 = .ok (.iload_n 2, 1) := by decide +kernel
theorem dX1_replaceByJournal_48 : decode cX1_replaceByJournal 48 = .ok (.imul, 1) := by decide +kernel
theorem dX1_replaceByJournal_49 : decode cX1_replaceByJournal 49 = .ok (.iadd, 1) := by decide +kernel
theorem dX1_replaceByJournal_50 : decode cX1_replaceByJournal 50 = .ok (.invokevirtual 20, 3) := by decide +kernel
theorem dX1_replaceByJournal_53 : decode cX1_replaceByJournal 53 = .ok (.ifCond .eq 24, 3) := by decide +kernel
theorem dX1_replaceByJournal_56 : decode cX1_replaceByJournal 56 = .ok (.aload_n 0, 1) := by decide +kernel
theorem dX1_replaceByJournal_57 : decode cX1_replaceByJournal 57 = .ok (.bipush 36, 2) := by decide +kernel
theorem dX1_replaceByJournal_59 : decode cX1_replaceByJournal 59 = .ok (.iconst 1, 1) := by decide +kernel
theorem dX1_replaceByJournal_60 : decode cX1_replaceByJournal 60 = .ok (.invokevirtual 20, 3) := by decide +kernel
theorem dX1_replaceByJournal_63 : decode cX1_replaceByJournal 63 = .ok (.ifCond .eq 14, 3) := by decide +kernel
theorem dX1_replaceByJournal_66 : decode cX1_replaceByJournal 66 = .ok (.aload_n 0, 1) := by decide +kernel
theorem dX1_replaceByJournal_67 : decode cX1_replaceByJournal 67 = .ok (.invokevirtual 24, 3) := by decide +kernel
theorem dX1_replaceByJournal_70 : decode cX1_replaceByJournal 70 = .ok (.ifCond .eq 7, 3) := by decide +kernel
theorem dX1_replaceByJournal_73 : decode cX1_replaceByJournal 73 = .ok (.iconst 1, 1) := by decide +kernel
theorem dX1_replaceByJournal_74 : decode cX1_replaceByJournal 74 = .ok (.goto 4, 3) := by decide +kernel
theorem dX1_replaceByJournal_77 : decode cX1_replaceByJournal 77 = .ok (.iconst 0, 1) := by decide +kernel
theorem dX1_replaceByJournal_78 : decode cX1_replaceByJournal 78 = .ok (.ireturn, 1) := by decide +kernel
theorem dX1_settleJournal_0 : decode cX1_settleJournal 0 = .ok (.aload_n 0, 1) := by decide +kernel
theorem dX1_settleJournal_1 : decode cX1_settleJournal 1 = .ok (.bipush 36, 2) := by decide +kernel
theorem dX1_settleJournal_3 : decode cX1_settleJournal 3 = .ok (.invokevirtual 28, 3) := by decide +kernel
theorem dX1_settleJournal_6 : decode cX1_settleJournal 6 = .ok (.iconst 1, 1) := by decide +kernel
theorem dX1_settleJournal_7 : decode cX1_settleJournal 7 = .ok (.if_icmp .ne 10, 3) := by decide +kernel
theorem dX1_settleJournal_10 : decode cX1_settleJournal 10 = .ok (.aload_n 0, 1) := by decide +kernel
theorem dX1_settleJournal_11 : decode cX1_settleJournal 11 = .ok (.invokevirtual 24, 3) := by decide +kernel
theorem dX1_settleJournal_14 : decode cX1_settleJournal 14 = .ok (.goto 7, 3) := by decide +kernel
theorem dX1_settleJournal_17 : decode cX1_settleJournal 17 = .ok (.aload_n 0, 1) := by decide +kernel
theorem dX1_settleJournal_18 : decode cX1_settleJournal 18 = .ok (.invokevirtual 32, 3) := by decide +kernel
theorem dX1_settleJournal_21 : decode cX1_settleJournal 21 = .ok (.ireturn, 1) := by decide +kernel
theorem dX1_finishJournal_0 : decode cX1_finishJournal 0 = .ok (.aload_n 0, 1) := by decide +kernel
theorem dX1_finishJournal_1 : decode cX1_finishJournal 1 = .ok (.bipush 37, 2) := by decide +kernel
theorem dX1_finishJournal_3 : decode cX1_finishJournal 3 = .ok (.invokevirtual 28, 3) := by decide +kernel
theorem dX1_finishJournal_6 : decode cX1_finishJournal 6 = .ok (.sipush 255, 3) := by decide +kernel
theorem dX1_finishJournal_9 : decode cX1_finishJournal 9 = .ok (.iand, 1) := by decide +kernel
theorem dX1_finishJournal_10 : decode cX1_finishJournal 10 = .ok (.istore_n 1, 1) := by decide +kernel
theorem dX1_finishJournal_11 : decode cX1_finishJournal 11 = .ok (.aload_n 0, 1) := by decide +kernel
theorem dX1_finishJournal_12 : decode cX1_finishJournal 12 = .ok (.bipush 37, 2) := by decide +kernel
theorem dX1_finishJournal_14 : decode cX1_finishJournal 14 = .ok (.invokevirtual 28, 3) := by decide +kernel
theorem dX1_finishJournal_17 : decode cX1_finishJournal 17 = .ok (.bipush 8, 2) := by decide +kernel
theorem dX1_finishJournal_19 : decode cX1_finishJournal 19 = .ok (.iushr, 1) := by decide +kernel
theorem dX1_finishJournal_20 : decode cX1_finishJournal 20 = .ok (.istore_n 2, 1) := by decide +kernel
theorem dX1_finishJournal_21 : decode cX1_finishJournal 21 = .ok (.iconst 0, 1) := by decide +kernel
theorem dX1_finishJournal_22 : decode cX1_finishJournal 22 = .ok (.istore_n 3, 1) := by decide +kernel
theorem dX1_finishJournal_23 : decode cX1_finishJournal 23 = .ok (.iload_n 3, 1) := by decide +kernel
theorem dX1_finishJournal_24 : decode cX1_finishJournal 24 = .ok (.iload_n 2, 1) := by decide +kernel
theorem dX1_finishJournal_25 : decode cX1_finishJournal 25 = .ok (.if_icmp .ge 35, 3) := by decide +kernel
theorem dX1_finishJournal_28 : decode cX1_finishJournal 28 = .ok (.iload_n 3, 1) := by decide +kernel
theorem dX1_finishJournal_29 : decode cX1_finishJournal 29 = .ok (.bipush 8, 2) := by decide +kernel
theorem dX1_finishJournal_31 : decode cX1_finishJournal 31 = .ok (.if_icmp .ge 29, 3) := by decide +kernel
theorem dX1_finishJournal_34 : decode cX1_finishJournal 34 = .ok (.aload_n 0, 1) := by decide +kernel
theorem dX1_finishJournal_35 : decode cX1_finishJournal 35 = .ok (.iload_n 1, 1) := by decide +kernel
theorem dX1_finishJournal_36 : decode cX1_finishJournal 36 = .ok (.iload_n 3, 1) := by decide +kernel
theorem dX1_finishJournal_37 : decode cX1_finishJournal 37 = .ok (.iadd, 1) := by decide +kernel
theorem dX1_finishJournal_38 : decode cX1_finishJournal 38 = .ok (.aload_n 0, 1) := by decide +kernel
theorem dX1_finishJournal_39 : decode cX1_finishJournal 39 = .ok (.bipush 38, 2) := by decide +kernel
theorem dX1_finishJournal_41 : decode cX1_finishJournal 41 = .ok (.iload_n 3, 1) := by decide +kernel
theorem dX1_finishJournal_42 : decode cX1_finishJournal 42 = .ok (.iadd, 1) := by decide +kernel
theorem dX1_finishJournal_43 : decode cX1_finishJournal 43 = .ok (.invokevirtual 28, 3) := by decide +kernel
theorem dX1_finishJournal_46 : decode cX1_finishJournal 46 = .ok (.invokevirtual 20, 3) := by decide +kernel
theorem dX1_finishJournal_49 : decode cX1_finishJournal 49 = .ok (.ifCond .ne 5, 3) := by decide +kernel
theorem dX1_finishJournal_52 : decode cX1_finishJournal 52 = .ok (.iconst 0, 1) := by decide +kernel
theorem dX1_finishJournal_53 : decode cX1_finishJournal 53 = .ok (.ireturn, 1) := by decide +kernel
theorem dX1_finishJournal_54 : decode cX1_finishJournal 54 = .ok (.iinc 3 1, 3) := by decide +kernel
theorem dX1_finishJournal_57 : decode cX1_finishJournal 57 = .ok (.goto (-34), 3) := by decide +kernel
theorem dX1_finishJournal_60 : decode cX1_finishJournal 60 = .ok (.aload_n 0, 1) := by decide +kernel
theorem dX1_finishJournal_61 : decode cX1_finishJournal 61 = .ok (.bipush 36, 2) := by decide +kernel
theorem dX1_finishJournal_63 : decode cX1_finishJournal 63 = .ok (.iconst 0, 1) := by decide +kernel
theorem dX1_finishJournal_64 : decode cX1_finishJournal 64 = .ok (.invokevirtual 20, 3) := by decide +kernel
theorem dX1_finishJournal_67 : decode cX1_finishJournal 67 = .ok (.ifCond .eq 14, 3) := by decide +kernel
theorem dX1_finishJournal_70 : decode cX1_finishJournal 70 = .ok (.aload_n 0, 1) := by decide +kernel
theorem dX1_finishJournal_71 : decode cX1_finishJournal 71 = .ok (.invokevirtual 32, 3) := by decide +kernel
theorem dX1_finishJournal_74 : decode cX1_finishJournal 74 = .ok (.ifCond .eq 7, 3) := by decide +kernel
theorem dX1_finishJournal_77 : decode cX1_finishJournal 77 = .ok (.iconst 1, 1) := by decide +kernel
theorem dX1_finishJournal_78 : decode cX1_finishJournal 78 = .ok (.goto 4, 3) := by decide +kernel
theorem dX1_finishJournal_81 : decode cX1_finishJournal 81 = .ok (.iconst 0, 1) := by decide +kernel
theorem dX1_finishJournal_82 : decode cX1_finishJournal 82 = .ok (.ireturn, 1) := by decide +kernel
theorem dX1_clearJournal_0 : decode cX1_clearJournal 0 = .ok (.bipush 37, 2) := by decide +kernel
theorem dX1_clearJournal_2 : decode cX1_clearJournal 2 = .ok (.istore_n 1, 1) := by decide +kernel
theorem dX1_clearJournal_3 : decode cX1_clearJournal 3 = .ok (.iload_n 1, 1) := by decide +kernel
theorem dX1_clearJournal_4 : decode cX1_clearJournal 4 = .ok (.bipush 45, 2) := by decide +kernel
theorem dX1_clearJournal_6 : decode cX1_clearJournal 6 = .ok (.if_icmp .gt 28, 3) := by decide +kernel
theorem dX1_clearJournal_9 : decode cX1_clearJournal 9 = .ok (.aload_n 0, 1) := by decide +kernel
theorem dX1_clearJournal_10 : decode cX1_clearJournal 10 = .ok (.iload_n 1, 1) := by decide +kernel
theorem dX1_clearJournal_11 : decode cX1_clearJournal 11 = .ok (.invokevirtual 28, 3) := by decide +kernel
theorem dX1_clearJournal_14 : decode cX1_clearJournal 14 = .ok (.ifCond .eq 14, 3) := by decide +kernel
theorem dX1_clearJournal_17 : decode cX1_clearJournal 17 = .ok (.aload_n 0, 1) := by decide +kernel
theorem dX1_clearJournal_18 : decode cX1_clearJournal 18 = .ok (.iload_n 1, 1) := by decide +kernel
theorem dX1_clearJournal_19 : decode cX1_clearJournal 19 = .ok (.iconst 0, 1) := by decide +kernel
theorem dX1_clearJournal_20 : decode cX1_clearJournal 20 = .ok (.invokevirtual 20, 3) := by decide +kernel
theorem dX1_clearJournal_23 : decode cX1_clearJournal 23 = .ok (.ifCond .ne 5, 3) := by decide +kernel
theorem dX1_clearJournal_26 : decode cX1_clearJournal 26 = .ok (.iconst 0, 1) := by decide +kernel
theorem dX1_clearJournal_27 : decode cX1_clearJournal 27 = .ok (.ireturn, 1) := by decide +kernel
theorem dX1_clearJournal_28 : decode cX1_clearJournal 28 = .ok (.iinc 1 1, 3) := by decide +kernel
theorem dX1_clearJournal_31 : decode cX1_clearJournal 31 = .ok (.goto (-28), 3) := by decide +kernel
theorem dX1_clearJournal_34 : decode cX1_clearJournal 34 = .ok (.iconst 1, 1) := by decide +kernel
theorem dX1_clearJournal_35 : decode cX1_clearJournal 35 = .ok (.ireturn, 1) := by decide +kernel
theorem dX2_workOut_0 : decode cX2_workOut 0 = .ok (.iload_n 1, 1) := by decide +kernel
theorem dX2_workOut_1 : decode cX2_workOut 1 = .ok (.ifCond .lt 12, 3) := by decide +kernel
theorem dX2_workOut_4 : decode cX2_workOut 4 = .ok (.iload_n 1, 1) := by decide +kernel
theorem dX2_workOut_5 : decode cX2_workOut 5 = .ok (.aload_n 0, 1) := by decide +kernel
theorem dX2_workOut_6 : decode cX2_workOut 6 = .ok (.arraylength, 1) := by decide +kernel
theorem dX2_workOut_7 : decode cX2_workOut 7 = .ok (.bipush 8, 2) := by decide +kernel
theorem dX2_workOut_9 : decode cX2_workOut 9 = .ok (.isub, 1) := by decide +kernel
theorem dX2_workOut_10 : decode cX2_workOut 10 = .ok (.if_icmp .le 4, 3) := by decide +kernel
theorem dX2_workOut_13 : decode cX2_workOut 13 = .ok (.return_, 1) := by decide +kernel
theorem dX2_workOut_14 : decode cX2_workOut 14 = .ok (.aload_n 0, 1) := by decide +kernel
theorem dX2_workOut_15 : decode cX2_workOut 15 = .ok (.iload_n 1, 1) := by decide +kernel
theorem dX2_workOut_16 : decode cX2_workOut 16 = .ok (.iconst 1, 1) := by decide +kernel
theorem dX2_workOut_17 : decode cX2_workOut 17 = .ok (.iastore, 1) := by decide +kernel
theorem dX2_workOut_18 : decode cX2_workOut 18 = .ok (.aload_n 0, 1) := by decide +kernel
theorem dX2_workOut_19 : decode cX2_workOut 19 = .ok (.iload_n 1, 1) := by decide +kernel
theorem dX2_workOut_20 : decode cX2_workOut 20 = .ok (.iconst 1, 1) := by decide +kernel
theorem dX2_workOut_21 : decode cX2_workOut 21 = .ok (.iadd, 1) := by decide +kernel
theorem dX2_workOut_22 : decode cX2_workOut 22 = .ok (.iload 5, 2) := by decide +kernel
theorem dX2_workOut_24 : decode cX2_workOut 24 = .ok (.iconst 0, 1) := by decide +kernel
theorem dX2_workOut_25 : decode cX2_workOut 25 = .ok (.invokestatic 11, 3) := by decide +kernel
theorem dX2_workOut_28 : decode cX2_workOut 28 = .ok (.iastore, 1) := by decide +kernel
theorem dX2_workOut_29 : decode cX2_workOut 29 = .ok (.aload_n 0, 1) := by decide +kernel
theorem dX2_workOut_30 : decode cX2_workOut 30 = .ok (.iload_n 1, 1) := by decide +kernel
theorem dX2_workOut_31 : decode cX2_workOut 31 = .ok (.iconst 0, 1) := by decide +kernel
theorem dX2_workOut_32 : decode cX2_workOut 32 = .ok (.iload_n 2, 1) := by decide +kernel
theorem dX2_workOut_33 : decode cX2_workOut 33 = .ok (.iload 4, 2) := by decide +kernel
theorem dX2_workOut_35 : decode cX2_workOut 35 = .ok (.iload 5, 2) := by decide +kernel
theorem dX2_workOut_37 : decode cX2_workOut 37 = .ok (.invokestatic 17, 3) := by decide +kernel
theorem dX2_workOut_40 : decode cX2_workOut 40 = .ok (.aload_n 0, 1) := by decide +kernel
theorem dX2_workOut_41 : decode cX2_workOut 41 = .ok (.iload_n 1, 1) := by decide +kernel
theorem dX2_workOut_42 : decode cX2_workOut 42 = .ok (.iconst 1, 1) := by decide +kernel
theorem dX2_workOut_43 : decode cX2_workOut 43 = .ok (.iload_n 3, 1) := by decide +kernel
theorem dX2_workOut_44 : decode cX2_workOut 44 = .ok (.iload 4, 2) := by decide +kernel
theorem dX2_workOut_46 : decode cX2_workOut 46 = .ok (.iload 5, 2) := by decide +kernel
theorem dX2_workOut_48 : decode cX2_workOut 48 = .ok (.invokestatic 17, 3) := by decide +kernel
theorem dX2_workOut_51 : decode cX2_workOut 51 = .ok (.return_, 1) := by decide +kernel
theorem dX2_workOutHalf_0 : decode cX2_workOutHalf 0 = .ok (.iload 4, 2) := by decide +kernel
theorem dX2_workOutHalf_2 : decode cX2_workOutHalf 2 = .ok (.aload_n 0, 1) := by decide +kernel
theorem dX2_workOutHalf_3 : decode cX2_workOutHalf 3 = .ok (.iload_n 1, 1) := by decide +kernel
theorem dX2_workOutHalf_4 : decode cX2_workOutHalf 4 = .ok (.iconst 1, 1) := by decide +kernel
theorem dX2_workOutHalf_5 : decode cX2_workOutHalf 5 = .ok (.iadd, 1) := by decide +kernel
theorem dX2_workOutHalf_6 : decode cX2_workOutHalf 6 = .ok (.iaload, 1) := by decide +kernel
theorem dX2_workOutHalf_7 : decode cX2_workOutHalf 7 = .ok (.iload_n 2, 1) := by decide +kernel
theorem dX2_workOutHalf_8 : decode cX2_workOutHalf 8 = .ok (.invokestatic 21, 3) := by decide +kernel
theorem dX2_workOutHalf_11 : decode cX2_workOutHalf 11 = .ok (.istore 6, 2) := by decide +kernel
theorem dX2_workOutHalf_13 : decode cX2_workOutHalf 13 = .ok (.iload 5, 2) := by decide +kernel
theorem dX2_workOutHalf_15 : decode cX2_workOutHalf 15 = .ok (.iload_n 2, 1) := by decide +kernel
theorem dX2_workOutHalf_16 : decode cX2_workOutHalf 16 = .ok (.iconst 1, 1) := by decide +kernel
theorem dX2_workOutHalf_17 : decode cX2_workOutHalf 17 = .ok (.iadd, 1) := by decide +kernel
theorem dX2_workOutHalf_18 : decode cX2_workOutHalf 18 = .ok (.invokestatic 11, 3) := by decide +kernel
theorem dX2_workOutHalf_21 : decode cX2_workOutHalf 21 = .ok (.istore 7, 2) := by decide +kernel
theorem dX2_workOutHalf_23 : decode cX2_workOutHalf 23 = .ok (.iload 5, 2) := by decide +kernel
theorem dX2_workOutHalf_25 : decode cX2_workOutHalf 25 = .ok (.iload_n 2, 1) := by decide +kernel
theorem dX2_workOutHalf_26 : decode cX2_workOutHalf 26 = .ok (.iconst 3, 1) := by decide +kernel
theorem dX2_workOutHalf_27 : decode cX2_workOutHalf 27 = .ok (.iadd, 1) := by decide +kernel
theorem dX2_workOutHalf_28 : decode cX2_workOutHalf 28 = .ok (.invokestatic 11, 3) := by decide +kernel
theorem dX2_workOutHalf_31 : decode cX2_workOutHalf 31 = .ok (.istore 8, 2) := by decide +kernel
theorem dX2_workOutHalf_33 : decode cX2_workOutHalf 33 = .ok (.iload 7, 2) := by decide +kernel
theorem dX2_workOutHalf_35 : decode cX2_workOutHalf 35 = .ok (.iload 8, 2) := by decide +kernel
theorem dX2_workOutHalf_37 : decode cX2_workOutHalf 37 = .ok (.iload_n 2, 1) := by decide +kernel
theorem dX2_workOutHalf_38 : decode cX2_workOutHalf 38 = .ok (.invokestatic 25, 3) := by decide +kernel
theorem dX2_workOutHalf_41 : decode cX2_workOutHalf 41 = .ok (.iload_n 3, 1) := by decide +kernel
theorem dX2_workOutHalf_42 : decode cX2_workOutHalf 42 = .ok (.ixor, 1) := by decide +kernel
theorem dX2_workOutHalf_43 : decode cX2_workOutHalf 43 = .ok (.istore 9, 2) := by decide +kernel
theorem dX2_workOutHalf_45 : decode cX2_workOutHalf 45 = .ok (.iload_n 1, 1) := by decide +kernel
theorem dX2_workOutHalf_46 : decode cX2_workOutHalf 46 = .ok (.iconst 2, 1) := by decide +kernel
theorem dX2_workOutHalf_47 : decode cX2_workOutHalf 47 = .ok (.iadd, 1) := by decide +kernel
theorem dX2_workOutHalf_48 : decode cX2_workOutHalf 48 = .ok (.iload_n 2, 1) := by decide +kernel
theorem dX2_workOutHalf_49 : decode cX2_workOutHalf 49 = .ok (.iadd, 1) := by decide +kernel
theorem dX2_workOutHalf_50 : decode cX2_workOutHalf 50 = .ok (.istore 10, 2) := by decide +kernel
theorem dX2_workOutHalf_52 : decode cX2_workOutHalf 52 = .ok (.aload_n 0, 1) := by decide +kernel
theorem dX2_workOutHalf_53 : decode cX2_workOutHalf 53 = .ok (.iload 10, 2) := by decide +kernel
theorem dX2_workOutHalf_55 : decode cX2_workOutHalf 55 = .ok (.iload 6, 2) := by decide +kernel
theorem dX2_workOutHalf_57 : decode cX2_workOutHalf 57 = .ok (.iload 7, 2) := by decide +kernel
theorem dX2_workOutHalf_59 : decode cX2_workOutHalf 59 = .ok (.invokestatic 28, 3) := by decide +kernel
theorem dX2_workOutHalf_62 : decode cX2_workOutHalf 62 = .ok (.iastore, 1) := by decide +kernel
theorem dX2_workOutHalf_63 : decode cX2_workOutHalf 63 = .ok (.aload_n 0, 1) := by decide +kernel
theorem dX2_workOutHalf_64 : decode cX2_workOutHalf 64 = .ok (.iload 10, 2) := by decide +kernel
theorem dX2_workOutHalf_66 : decode cX2_workOutHalf 66 = .ok (.iconst 2, 1) := by decide +kernel
theorem dX2_workOutHalf_67 : decode cX2_workOutHalf 67 = .ok (.iadd, 1) := by decide +kernel
theorem dX2_workOutHalf_68 : decode cX2_workOutHalf 68 = .ok (.iload 6, 2) := by decide +kernel
theorem dX2_workOutHalf_70 : decode cX2_workOutHalf 70 = .ok (.iload 8, 2) := by decide +kernel
theorem dX2_workOutHalf_72 : decode cX2_workOutHalf 72 = .ok (.invokestatic 28, 3) := by decide +kernel
theorem dX2_workOutHalf_75 : decode cX2_workOutHalf 75 = .ok (.iastore, 1) := by decide +kernel
theorem dX2_workOutHalf_76 : decode cX2_workOutHalf 76 = .ok (.aload_n 0, 1) := by decide +kernel
theorem dX2_workOutHalf_77 : decode cX2_workOutHalf 77 = .ok (.iload 10, 2) := by decide +kernel
theorem dX2_workOutHalf_79 : decode cX2_workOutHalf 79 = .ok (.iconst 4, 1) := by decide +kernel
theorem dX2_workOutHalf_80 : decode cX2_workOutHalf 80 = .ok (.iadd, 1) := by decide +kernel
theorem dX2_workOutHalf_81 : decode cX2_workOutHalf 81 = .ok (.iload 6, 2) := by decide +kernel
theorem dX2_workOutHalf_83 : decode cX2_workOutHalf 83 = .ok (.iload 9, 2) := by decide +kernel
theorem dX2_workOutHalf_85 : decode cX2_workOutHalf 85 = .ok (.invokestatic 28, 3) := by decide +kernel
theorem dX2_workOutHalf_88 : decode cX2_workOutHalf 88 = .ok (.iastore, 1) := by decide +kernel
theorem dX2_workOutHalf_89 : decode cX2_workOutHalf 89 = .ok (.return_, 1) := by decide +kernel
theorem dX2_openHalf_0 : decode cX2_openHalf 0 = .ok (.iload_n 3, 1) := by decide +kernel
theorem dX2_openHalf_1 : decode cX2_openHalf 1 = .ok (.aload_n 0, 1) := by decide +kernel
theorem dX2_openHalf_2 : decode cX2_openHalf 2 = .ok (.iload_n 1, 1) := by decide +kernel
theorem dX2_openHalf_3 : decode cX2_openHalf 3 = .ok (.iconst 1, 1) := by decide +kernel
theorem dX2_openHalf_4 : decode cX2_openHalf 4 = .ok (.iadd, 1) := by decide +kernel
theorem dX2_openHalf_5 : decode cX2_openHalf 5 = .ok (.invokevirtual 31, 3) := by decide +kernel
theorem dX2_openHalf_8 : decode cX2_openHalf 8 = .ok (.iload_n 2, 1) := by decide +kernel
theorem dX2_openHalf_9 : decode cX2_openHalf 9 = .ok (.invokestatic 21, 3) := by decide +kernel
theorem dX2_openHalf_12 : decode cX2_openHalf 12 = .ok (.istore 4, 2) := by decide +kernel
theorem dX2_openHalf_14 : decode cX2_openHalf 14 = .ok (.iload_n 1, 1) := by decide +kernel
theorem dX2_openHalf_15 : decode cX2_openHalf 15 = .ok (.iconst 2, 1) := by decide +kernel
theorem dX2_openHalf_16 : decode cX2_openHalf 16 = .ok (.iadd, 1) := by decide +kernel
theorem dX2_openHalf_17 : decode cX2_openHalf 17 = .ok (.iload_n 2, 1) := by decide +kernel
theorem dX2_openHalf_18 : decode cX2_openHalf 18 = .ok (.iadd, 1) := by decide +kernel
theorem dX2_openHalf_19 : decode cX2_openHalf 19 = .ok (.istore 5, 2) := by decide +kernel
theorem dX2_openHalf_21 : decode cX2_openHalf 21 = .ok (.iload 4, 2) := by decide +kernel
theorem dX2_openHalf_23 : decode cX2_openHalf 23 = .ok (.aload_n 0, 1) := by decide +kernel
theorem dX2_openHalf_24 : decode cX2_openHalf 24 = .ok (.iload 5, 2) := by decide +kernel
theorem dX2_openHalf_26 : decode cX2_openHalf 26 = .ok (.invokevirtual 31, 3) := by decide +kernel
theorem dX2_openHalf_29 : decode cX2_openHalf 29 = .ok (.invokestatic 37, 3) := by decide +kernel
theorem dX2_openHalf_32 : decode cX2_openHalf 32 = .ok (.istore 6, 2) := by decide +kernel
theorem dX2_openHalf_34 : decode cX2_openHalf 34 = .ok (.iload 4, 2) := by decide +kernel
theorem dX2_openHalf_36 : decode cX2_openHalf 36 = .ok (.aload_n 0, 1) := by decide +kernel
theorem dX2_openHalf_37 : decode cX2_openHalf 37 = .ok (.iload 5, 2) := by decide +kernel
theorem dX2_openHalf_39 : decode cX2_openHalf 39 = .ok (.iconst 2, 1) := by decide +kernel
theorem dX2_openHalf_40 : decode cX2_openHalf 40 = .ok (.iadd, 1) := by decide +kernel
theorem dX2_openHalf_41 : decode cX2_openHalf 41 = .ok (.invokevirtual 31, 3) := by decide +kernel
theorem dX2_openHalf_44 : decode cX2_openHalf 44 = .ok (.invokestatic 37, 3) := by decide +kernel
theorem dX2_openHalf_47 : decode cX2_openHalf 47 = .ok (.istore 7, 2) := by decide +kernel
theorem dX2_openHalf_49 : decode cX2_openHalf 49 = .ok (.iload 4, 2) := by decide +kernel
theorem dX2_openHalf_51 : decode cX2_openHalf 51 = .ok (.aload_n 0, 1) := by decide +kernel
theorem dX2_openHalf_52 : decode cX2_openHalf 52 = .ok (.iload 5, 2) := by decide +kernel
theorem dX2_openHalf_54 : decode cX2_openHalf 54 = .ok (.iconst 4, 1) := by decide +kernel
theorem dX2_openHalf_55 : decode cX2_openHalf 55 = .ok (.iadd, 1) := by decide +kernel
theorem dX2_openHalf_56 : decode cX2_openHalf 56 = .ok (.invokevirtual 31, 3) := by decide +kernel
theorem dX2_openHalf_59 : decode cX2_openHalf 59 = .ok (.invokestatic 37, 3) := by decide +kernel
theorem dX2_openHalf_62 : decode cX2_openHalf 62 = .ok (.istore 8, 2) := by decide +kernel
theorem dX2_openHalf_64 : decode cX2_openHalf 64 = .ok (.iload 6, 2) := by decide +kernel
theorem dX2_openHalf_66 : decode cX2_openHalf 66 = .ok (.iload 7, 2) := by decide +kernel
theorem dX2_openHalf_68 : decode cX2_openHalf 68 = .ok (.iload_n 2, 1) := by decide +kernel
theorem dX2_openHalf_69 : decode cX2_openHalf 69 = .ok (.invokestatic 25, 3) := by decide +kernel
theorem dX2_openHalf_72 : decode cX2_openHalf 72 = .ok (.iload 8, 2) := by decide +kernel
theorem dX2_openHalf_74 : decode cX2_openHalf 74 = .ok (.ixor, 1) := by decide +kernel
theorem dX2_openHalf_75 : decode cX2_openHalf 75 = .ok (.ireturn, 1) := by decide +kernel
theorem dX2_mask_0 : decode cX2_mask 0 = .ok (.iload_n 0, 1) := by decide +kernel
theorem dX2_mask_1 : decode cX2_mask 1 = .ok (.iload_n 2, 1) := by decide +kernel
theorem dX2_mask_2 : decode cX2_mask 2 = .ok (.iconst 1, 1) := by decide +kernel
theorem dX2_mask_3 : decode cX2_mask 3 = .ok (.iadd, 1) := by decide +kernel
theorem dX2_mask_4 : decode cX2_mask 4 = .ok (.invokestatic 11, 3) := by decide +kernel
theorem dX2_mask_7 : decode cX2_mask 7 = .ok (.iload_n 1, 1) := by decide +kernel
theorem dX2_mask_8 : decode cX2_mask 8 = .ok (.ixor, 1) := by decide +kernel
theorem dX2_mask_9 : decode cX2_mask 9 = .ok (.iload_n 2, 1) := by decide +kernel
theorem dX2_mask_10 : decode cX2_mask 10 = .ok (.iconst 1, 1) := by decide +kernel
theorem dX2_mask_11 : decode cX2_mask 11 = .ok (.iadd, 1) := by decide +kernel
theorem dX2_mask_12 : decode cX2_mask 12 = .ok (.invokestatic 11, 3) := by decide +kernel
theorem dX2_mask_15 : decode cX2_mask 15 = .ok (.ireturn, 1) := by decide +kernel
theorem dJ6_bitCount_0 : decode cJ6_bitCount 0 = .ok (.iload_n 0, 1) := by decide +kernel
theorem dJ6_bitCount_1 : decode cJ6_bitCount 1 = .ok (.iload_n 0, 1) := by decide +kernel
theorem dJ6_bitCount_2 : decode cJ6_bitCount 2 = .ok (.iconst 1, 1) := by decide +kernel
theorem dJ6_bitCount_3 : decode cJ6_bitCount 3 = .ok (.iushr, 1) := by decide +kernel
theorem dJ6_bitCount_4 : decode cJ6_bitCount 4 = .ok (.ldc_w 265, 3) := by decide +kernel
theorem dJ6_bitCount_7 : decode cJ6_bitCount 7 = .ok (.iand, 1) := by decide +kernel
theorem dJ6_bitCount_8 : decode cJ6_bitCount 8 = .ok (.isub, 1) := by decide +kernel
theorem dJ6_bitCount_9 : decode cJ6_bitCount 9 = .ok (.istore_n 0, 1) := by decide +kernel
theorem dJ6_bitCount_10 : decode cJ6_bitCount 10 = .ok (.iload_n 0, 1) := by decide +kernel
theorem dJ6_bitCount_11 : decode cJ6_bitCount 11 = .ok (.ldc_w 266, 3) := by decide +kernel
theorem dJ6_bitCount_14 : decode cJ6_bitCount 14 = .ok (.iand, 1) := by decide +kernel
theorem dJ6_bitCount_15 : decode cJ6_bitCount 15 = .ok (.iload_n 0, 1) := by decide +kernel
theorem dJ6_bitCount_16 : decode cJ6_bitCount 16 = .ok (.iconst 2, 1) := by decide +kernel
theorem dJ6_bitCount_17 : decode cJ6_bitCount 17 = .ok (.iushr, 1) := by decide +kernel
theorem dJ6_bitCount_18 : decode cJ6_bitCount 18 = .ok (.ldc_w 266, 3) := by decide +kernel
theorem dJ6_bitCount_21 : decode cJ6_bitCount 21 = .ok (.iand, 1) := by decide +kernel
theorem dJ6_bitCount_22 : decode cJ6_bitCount 22 = .ok (.iadd, 1) := by decide +kernel
theorem dJ6_bitCount_23 : decode cJ6_bitCount 23 = .ok (.istore_n 0, 1) := by decide +kernel
theorem dJ6_bitCount_24 : decode cJ6_bitCount 24 = .ok (.iload_n 0, 1) := by decide +kernel
theorem dJ6_bitCount_25 : decode cJ6_bitCount 25 = .ok (.iload_n 0, 1) := by decide +kernel
theorem dJ6_bitCount_26 : decode cJ6_bitCount 26 = .ok (.iconst 4, 1) := by decide +kernel
theorem dJ6_bitCount_27 : decode cJ6_bitCount 27 = .ok (.iushr, 1) := by decide +kernel
theorem dJ6_bitCount_28 : decode cJ6_bitCount 28 = .ok (.iadd, 1) := by decide +kernel
theorem dJ6_bitCount_29 : decode cJ6_bitCount 29 = .ok (.ldc_w 267, 3) := by decide +kernel
theorem dJ6_bitCount_32 : decode cJ6_bitCount 32 = .ok (.iand, 1) := by decide +kernel
theorem dJ6_bitCount_33 : decode cJ6_bitCount 33 = .ok (.istore_n 0, 1) := by decide +kernel
theorem dJ6_bitCount_34 : decode cJ6_bitCount 34 = .ok (.iload_n 0, 1) := by decide +kernel
theorem dJ6_bitCount_35 : decode cJ6_bitCount 35 = .ok (.iload_n 0, 1) := by decide +kernel
theorem dJ6_bitCount_36 : decode cJ6_bitCount 36 = .ok (.bipush 8, 2) := by decide +kernel
theorem dJ6_bitCount_38 : decode cJ6_bitCount 38 = .ok (.iushr, 1) := by decide +kernel
theorem dJ6_bitCount_39 : decode cJ6_bitCount 39 = .ok (.iadd, 1) := by decide +kernel
theorem dJ6_bitCount_40 : decode cJ6_bitCount 40 = .ok (.istore_n 0, 1) := by decide +kernel
theorem dJ6_bitCount_41 : decode cJ6_bitCount 41 = .ok (.iload_n 0, 1) := by decide +kernel
theorem dJ6_bitCount_42 : decode cJ6_bitCount 42 = .ok (.iload_n 0, 1) := by decide +kernel
theorem dJ6_bitCount_43 : decode cJ6_bitCount 43 = .ok (.bipush 16, 2) := by decide +kernel
theorem dJ6_bitCount_45 : decode cJ6_bitCount 45 = .ok (.iushr, 1) := by decide +kernel
theorem dJ6_bitCount_46 : decode cJ6_bitCount 46 = .ok (.iadd, 1) := by decide +kernel
theorem dJ6_bitCount_47 : decode cJ6_bitCount 47 = .ok (.istore_n 0, 1) := by decide +kernel
theorem dJ6_bitCount_48 : decode cJ6_bitCount 48 = .ok (.iload_n 0, 1) := by decide +kernel
theorem dJ6_bitCount_49 : decode cJ6_bitCount 49 = .ok (.bipush 63, 2) := by decide +kernel
theorem dJ6_bitCount_51 : decode cJ6_bitCount 51 = .ok (.iand, 1) := by decide +kernel
theorem dJ6_bitCount_52 : decode cJ6_bitCount 52 = .ok (.ireturn, 1) := by decide +kernel
theorem dJ7_fill_0 : decode cJ7_fill 0 = .ok (.iconst 0, 1) := by decide +kernel
theorem dJ7_fill_1 : decode cJ7_fill 1 = .ok (.istore_n 2, 1) := by decide +kernel
theorem dJ7_fill_2 : decode cJ7_fill 2 = .ok (.aload_n 0, 1) := by decide +kernel
theorem dJ7_fill_3 : decode cJ7_fill 3 = .ok (.arraylength, 1) := by decide +kernel
theorem dJ7_fill_4 : decode cJ7_fill 4 = .ok (.istore_n 3, 1) := by decide +kernel
theorem dJ7_fill_5 : decode cJ7_fill 5 = .ok (.iload_n 2, 1) := by decide +kernel
theorem dJ7_fill_6 : decode cJ7_fill 6 = .ok (.iload_n 3, 1) := by decide +kernel
theorem dJ7_fill_7 : decode cJ7_fill 7 = .ok (.if_icmp .ge 13, 3) := by decide +kernel
theorem dJ7_fill_10 : decode cJ7_fill 10 = .ok (.aload_n 0, 1) := by decide +kernel
theorem dJ7_fill_11 : decode cJ7_fill 11 = .ok (.iload_n 2, 1) := by decide +kernel
theorem dJ7_fill_12 : decode cJ7_fill 12 = .ok (.iload_n 1, 1) := by decide +kernel
theorem dJ7_fill_13 : decode cJ7_fill 13 = .ok (.iastore, 1) := by decide +kernel
theorem dJ7_fill_14 : decode cJ7_fill 14 = .ok (.iinc 2 1, 3) := by decide +kernel
theorem dJ7_fill_17 : decode cJ7_fill 17 = .ok (.goto (-12), 3) := by decide +kernel
theorem dJ7_fill_20 : decode cJ7_fill 20 = .ok (.return_, 1) := by decide +kernel
end
section
theorem dX3_init_0 : decode cX3_init 0 = .ok (.aload_n 0, 1) := by decide +kernel
theorem dX3_init_1 : decode cX3_init 1 = .ok (.invokespecial 1, 3) := by decide +kernel
theorem dX3_init_4 : decode cX3_init 4 = .ok (.aload_n 0, 1) := by decide +kernel
theorem dX3_init_5 : decode cX3_init 5 = .ok (.new 7, 3) := by decide +kernel
theorem dX3_init_8 : decode cX3_init 8 = .ok (.dup, 1) := by decide +kernel
theorem dX3_init_9 : decode cX3_init 9 = .ok (.invokespecial 9, 3) := by decide +kernel
theorem dX3_init_12 : decode cX3_init 12 = .ok (.putfield 10, 3) := by decide +kernel
theorem dX3_init_15 : decode cX3_init 15 = .ok (.aload_n 0, 1) := by decide +kernel
theorem dX3_init_16 : decode cX3_init 16 = .ok (.bipush 80, 2) := by decide +kernel
theorem dX3_init_18 : decode cX3_init 18 = .ok (.newarray .int, 2) := by decide +kernel
theorem dX3_init_20 : decode cX3_init 20 = .ok (.putfield 16, 3) := by decide +kernel
theorem dX3_init_23 : decode cX3_init 23 = .ok (.aload_n 0, 1) := by decide +kernel
theorem dX3_init_24 : decode cX3_init 24 = .ok (.iconst 0, 1) := by decide +kernel
theorem dX3_init_25 : decode cX3_init 25 = .ok (.putfield 20, 3) := by decide +kernel
theorem dX3_init_28 : decode cX3_init 28 = .ok (.return_, 1) := by decide +kernel
theorem dX3_cut_0 : decode cX3_cut 0 = .ok (.iload_n 1, 1) := by decide +kernel
theorem dX3_cut_1 : decode cX3_cut 1 = .ok (.iconst (-1), 1) := by decide +kernel
theorem dX3_cut_2 : decode cX3_cut 2 = .ok (.if_icmp .ge 5, 3) := by decide +kernel
theorem dX3_cut_5 : decode cX3_cut 5 = .ok (.iconst 0, 1) := by decide +kernel
theorem dX3_cut_6 : decode cX3_cut 6 = .ok (.ireturn, 1) := by decide +kernel
theorem dX3_cut_7 : decode cX3_cut 7 = .ok (.aload_n 0, 1) := by decide +kernel
theorem dX3_cut_8 : decode cX3_cut 8 = .ok (.getfield 10, 3) := by decide +kernel
theorem dX3_cut_11 : decode cX3_cut 11 = .ok (.iload_n 1, 1) := by decide +kernel
theorem dX3_cut_12 : decode cX3_cut 12 = .ok (.putfield 24, 3) := by decide +kernel
theorem dX3_cut_15 : decode cX3_cut 15 = .ok (.iconst 1, 1) := by decide +kernel
theorem dX3_cut_16 : decode cX3_cut 16 = .ok (.ireturn, 1) := by decide +kernel
theorem dX3_format_0 : decode cX3_format 0 = .ok (.aload_n 0, 1) := by decide +kernel
theorem dX3_format_1 : decode cX3_format 1 = .ok (.iload_n 1, 1) := by decide +kernel
theorem dX3_format_2 : decode cX3_format 2 = .ok (.iload_n 2, 1) := by decide +kernel
theorem dX3_format_3 : decode cX3_format 3 = .ok (.iload_n 3, 1) := by decide +kernel
theorem dX3_format_4 : decode cX3_format 4 = .ok (.iload 4, 2) := by decide +kernel
theorem dX3_format_6 : decode cX3_format 6 = .ok (.invokevirtual 27, 3) := by decide +kernel
theorem dX3_format_9 : decode cX3_format 9 = .ok (.aload_n 0, 1) := by decide +kernel
theorem dX3_format_10 : decode cX3_format 10 = .ok (.invokevirtual 31, 3) := by decide +kernel
theorem dX3_format_13 : decode cX3_format 13 = .ok (.ifCond .ne 8, 3) := by decide +kernel
theorem dX3_format_16 : decode cX3_format 16 = .ok (.aload_n 0, 1) := by decide +kernel
theorem dX3_format_17 : decode cX3_format 17 = .ok (.invokevirtual 35, 3) := by decide +kernel
theorem dX3_format_20 : decode cX3_format 20 = .ok (.ireturn, 1) := by decide +kernel
theorem dX3_format_21 : decode cX3_format 21 = .ok (.aload_n 0, 1) := by decide +kernel
theorem dX3_format_22 : decode cX3_format 22 = .ok (.iconst 1, 1) := by decide +kernel
theorem dX3_format_23 : decode cX3_format 23 = .ok (.invokevirtual 39, 3) := by decide +kernel
theorem dX3_format_26 : decode cX3_format 26 = .ok (.iconst 0, 1) := by decide +kernel
theorem dX3_format_27 : decode cX3_format 27 = .ok (.ireturn, 1) := by decide +kernel
theorem dX3_mount_0 : decode cX3_mount 0 = .ok (.aload_n 0, 1) := by decide +kernel
theorem dX3_mount_1 : decode cX3_mount 1 = .ok (.getfield 10, 3) := by decide +kernel
theorem dX3_mount_4 : decode cX3_mount 4 = .ok (.iconst 0, 1) := by decide +kernel
theorem dX3_mount_5 : decode cX3_mount 5 = .ok (.invokevirtual 43, 3) := by decide +kernel
theorem dX3_mount_8 : decode cX3_mount 8 = .ok (.ldc 47, 2) := by decide +kernel
theorem dX3_mount_10 : decode cX3_mount 10 = .ok (.if_icmp .eq 11, 3) := by decide +kernel
theorem dX3_mount_13 : decode cX3_mount 13 = .ok (.aload_n 0, 1) := by decide +kernel
theorem dX3_mount_14 : decode cX3_mount 14 = .ok (.iconst 0, 1) := by decide +kernel
theorem dX3_mount_15 : decode cX3_mount 15 = .ok (.invokevirtual 39, 3) := by decide +kernel
theorem dX3_mount_18 : decode cX3_mount 18 = .ok (.bipush (-3), 2) := by decide +kernel
theorem dX3_mount_20 : decode cX3_mount 20 = .ok (.ireturn, 1) := by decide +kernel
theorem dX3_mount_21 : decode cX3_mount 21 = .ok (.aload_n 0, 1) := by decide +kernel
theorem dX3_mount_22 : decode cX3_mount 22 = .ok (.getfield 10, 3) := by decide +kernel
theorem dX3_mount_25 : decode cX3_mount 25 = .ok (.invokevirtual 48, 3) := by decide +kernel
theorem dX3_mount_28 : decode cX3_mount 28 = .ok (.ifCond .ne 8, 3) := by decide +kernel
theorem dX3_mount_31 : decode cX3_mount 31 = .ok (.aload_n 0, 1) := by decide +kernel
theorem dX3_mount_32 : decode cX3_mount 32 = .ok (.invokevirtual 35, 3) := by decide +kernel
theorem dX3_mount_35 : decode cX3_mount 35 = .ok (.ireturn, 1) := by decide +kernel
theorem dX3_mount_36 : decode cX3_mount 36 = .ok (.aload_n 0, 1) := by decide +kernel
theorem dX3_mount_37 : decode cX3_mount 37 = .ok (.iconst 1, 1) := by decide +kernel
theorem dX3_mount_38 : decode cX3_mount 38 = .ok (.invokevirtual 39, 3) := by decide +kernel
theorem dX3_mount_41 : decode cX3_mount 41 = .ok (.aload_n 0, 1) := by decide +kernel
theorem dX3_mount_42 : decode cX3_mount 42 = .ok (.invokevirtual 51, 3) := by decide +kernel
theorem dX3_mount_45 : decode cX3_mount 45 = .ok (.ireturn, 1) := by decide +kernel
theorem dX3_unlock_0 : decode cX3_unlock 0 = .ok (.aload_n 0, 1) := by decide +kernel
theorem dX3_unlock_1 : decode cX3_unlock 1 = .ok (.getfield 20, 3) := by decide +kernel
theorem dX3_unlock_4 : decode cX3_unlock 4 = .ok (.ifCond .ne 6, 3) := by decide +kernel
theorem dX3_unlock_7 : decode cX3_unlock 7 = .ok (.bipush (-2), 2) := by decide +kernel
theorem dX3_unlock_9 : decode cX3_unlock 9 = .ok (.ireturn, 1) := by decide +kernel
theorem dX3_unlock_10 : decode cX3_unlock 10 = .ok (.iconst 0, 1) := by decide +kernel
theorem dX3_unlock_11 : decode cX3_unlock 11 = .ok (.istore_n 2, 1) := by decide +kernel
theorem dX3_unlock_12 : decode cX3_unlock 12 = .ok (.iload_n 2, 1) := by decide +kernel
theorem dX3_unlock_13 : decode cX3_unlock 13 = .ok (.iconst 4, 1) := by decide +kernel
theorem dX3_unlock_14 : decode cX3_unlock 14 = .ok (.if_icmp .ge 28, 3) := by decide +kernel
theorem dX3_unlock_17 : decode cX3_unlock 17 = .ok (.aload_n 0, 1) := by decide +kernel
theorem dX3_unlock_18 : decode cX3_unlock 18 = .ok (.iload_n 2, 1) := by decide +kernel
theorem dX3_unlock_19 : decode cX3_unlock 19 = .ok (.invokevirtual 54, 3) := by decide +kernel
theorem dX3_unlock_22 : decode cX3_unlock 22 = .ok (.ifCond .eq 14, 3) := by decide +kernel
theorem dX3_unlock_25 : decode cX3_unlock 25 = .ok (.aload_n 0, 1) := by decide +kernel
theorem dX3_unlock_26 : decode cX3_unlock 26 = .ok (.iload_n 2, 1) := by decide +kernel
theorem dX3_unlock_27 : decode cX3_unlock 27 = .ok (.iload_n 1, 1) := by decide +kernel
theorem dX3_unlock_28 : decode cX3_unlock 28 = .ok (.invokevirtual 58, 3) := by decide +kernel
theorem dX3_unlock_31 : decode cX3_unlock 31 = .ok (.ifCond .eq 5, 3) := by decide +kernel
theorem dX3_unlock_34 : decode cX3_unlock 34 = .ok (.iload_n 2, 1) := by decide +kernel
theorem dX3_unlock_35 : decode cX3_unlock 35 = .ok (.ireturn, 1) := by decide +kernel
theorem dX3_unlock_36 : decode cX3_unlock 36 = .ok (.iinc 2 1, 3) := by decide +kernel
theorem dX3_unlock_39 : decode cX3_unlock 39 = .ok (.goto (-27), 3) := by decide +kernel
theorem dX3_unlock_42 : decode cX3_unlock 42 = .ok (.bipush (-9), 2) := by decide +kernel
theorem dX3_unlock_44 : decode cX3_unlock 44 = .ok (.ireturn, 1) := by decide +kernel
theorem dX3_lock_0 : decode cX3_lock 0 = .ok (.aload_n 0, 1) := by decide +kernel
theorem dX3_lock_1 : decode cX3_lock 1 = .ok (.getfield 20, 3) := by decide +kernel
theorem dX3_lock_4 : decode cX3_lock 4 = .ok (.ifCond .ne 6, 3) := by decide +kernel
theorem dX3_lock_7 : decode cX3_lock 7 = .ok (.bipush (-2), 2) := by decide +kernel
theorem dX3_lock_9 : decode cX3_lock 9 = .ok (.ireturn, 1) := by decide +kernel
theorem dX3_lock_10 : decode cX3_lock 10 = .ok (.aload_n 0, 1) := by decide +kernel
theorem dX3_lock_11 : decode cX3_lock 11 = .ok (.getfield 20, 3) := by decide +kernel
theorem dX3_lock_14 : decode cX3_lock 14 = .ok (.iconst 2, 1) := by decide +kernel
theorem dX3_lock_15 : decode cX3_lock 15 = .ok (.if_icmp .ne 7, 3) := by decide +kernel
theorem dX3_lock_18 : decode cX3_lock 18 = .ok (.iconst 1, 1) := by decide +kernel
theorem dX3_lock_19 : decode cX3_lock 19 = .ok (.goto 4, 3) := by decide +kernel
theorem dX3_lock_22 : decode cX3_lock 22 = .ok (.iconst 0, 1) := by decide +kernel
theorem dX3_lock_23 : decode cX3_lock 23 = .ok (.istore_n 1, 1) := by decide +kernel
theorem dX3_lock_24 : decode cX3_lock 24 = .ok (.aload_n 0, 1) := by decide +kernel
theorem dX3_lock_25 : decode cX3_lock 25 = .ok (.iconst 1, 1) := by decide +kernel
theorem dX3_lock_26 : decode cX3_lock 26 = .ok (.invokevirtual 39, 3) := by decide +kernel
theorem dX3_lock_29 : decode cX3_lock 29 = .ok (.iload_n 1, 1) := by decide +kernel
theorem dX3_lock_30 : decode cX3_lock 30 = .ok (.ireturn, 1) := by decide +kernel
theorem dX3_add_0 : decode cX3_add 0 = .ok (.aload_n 0, 1) := by decide +kernel
theorem dX3_add_1 : decode cX3_add 1 = .ok (.invokevirtual 62, 3) := by decide +kernel
theorem dX3_add_4 : decode cX3_add 4 = .ok (.istore_n 3, 1) := by decide +kernel
theorem dX3_add_5 : decode cX3_add 5 = .ok (.iload_n 3, 1) := by decide +kernel
theorem dX3_add_6 : decode cX3_add 6 = .ok (.ifCond .eq 5, 3) := by decide +kernel
theorem dX3_add_9 : decode cX3_add 9 = .ok (.iload_n 3, 1) := by decide +kernel
theorem dX3_add_10 : decode cX3_add 10 = .ok (.ireturn, 1) := by decide +kernel
theorem dX3_add_11 : decode cX3_add 11 = .ok (.aload_n 0, 1) := by decide +kernel
theorem dX3_add_12 : decode cX3_add 12 = .ok (.invokevirtual 65, 3) := by decide +kernel
theorem dX3_add_15 : decode cX3_add 15 = .ok (.istore 4, 2) := by decide +kernel
theorem dX3_add_17 : decode cX3_add 17 = .ok (.iload 4, 2) := by decide +kernel
theorem dX3_add_19 : decode cX3_add 19 = .ok (.iconst 4, 1) := by decide +kernel
theorem dX3_add_20 : decode cX3_add 20 = .ok (.if_icmp .ne 6, 3) := by decide +kernel
theorem dX3_add_23 : decode cX3_add 23 = .ok (.bipush (-7), 2) := by decide +kernel
theorem dX3_add_25 : decode cX3_add 25 = .ok (.ireturn, 1) := by decide +kernel
theorem dX3_add_26 : decode cX3_add 26 = .ok (.aload_n 0, 1) := by decide +kernel
theorem dX3_add_27 : decode cX3_add 27 = .ok (.iload 4, 2) := by decide +kernel
theorem dX3_add_29 : decode cX3_add 29 = .ok (.iload_n 1, 1) := by decide +kernel
theorem dX3_add_30 : decode cX3_add 30 = .ok (.iload_n 2, 1) := by decide +kernel
theorem dX3_add_31 : decode cX3_add 31 = .ok (.invokevirtual 68, 3) := by decide +kernel
theorem dX3_add_34 : decode cX3_add 34 = .ok (.ifCond .eq 8, 3) := by decide +kernel
theorem dX3_add_37 : decode cX3_add 37 = .ok (.iload 4, 2) := by decide +kernel
theorem dX3_add_39 : decode cX3_add 39 = .ok (.goto 7, 3) := by decide +kernel
theorem dX3_add_42 : decode cX3_add 42 = .ok (.aload_n 0, 1) := by decide +kernel
theorem dX3_add_43 : decode cX3_add 43 = .ok (.invokevirtual 35, 3) := by decide +kernel
theorem dX3_add_46 : decode cX3_add 46 = .ok (.ireturn, 1) := by decide +kernel
theorem dX3_change_0 : decode cX3_change 0 = .ok (.aload_n 0, 1) := by decide +kernel
theorem dX3_change_1 : decode cX3_change 1 = .ok (.iload_n 1, 1) := by decide +kernel
theorem dX3_change_2 : decode cX3_change 2 = .ok (.invokevirtual 72, 3) := by decide +kernel
theorem dX3_change_5 : decode cX3_change 5 = .ok (.istore 4, 2) := by decide +kernel
theorem dX3_change_7 : decode cX3_change 7 = .ok (.iload 4, 2) := by decide +kernel
theorem dX3_change_9 : decode cX3_change 9 = .ok (.ifCond .eq 6, 3) := by decide +kernel
theorem dX3_change_12 : decode cX3_change 12 = .ok (.iload 4, 2) := by decide +kernel
theorem dX3_change_14 : decode cX3_change 14 = .ok (.ireturn, 1) := by decide +kernel
theorem dX3_change_15 : decode cX3_change 15 = .ok (.aload_n 0, 1) := by decide +kernel
theorem dX3_change_16 : decode cX3_change 16 = .ok (.iload_n 1, 1) := by decide +kernel
theorem dX3_change_17 : decode cX3_change 17 = .ok (.iload_n 2, 1) := by decide +kernel
theorem dX3_change_18 : decode cX3_change 18 = .ok (.iload_n 3, 1) := by decide +kernel
theorem dX3_change_19 : decode cX3_change 19 = .ok (.invokevirtual 68, 3) := by decide +kernel
theorem dX3_change_22 : decode cX3_change 22 = .ok (.ifCond .eq 7, 3) := by decide +kernel
theorem dX3_change_25 : decode cX3_change 25 = .ok (.iconst 0, 1) := by decide +kernel
theorem dX3_change_26 : decode cX3_change 26 = .ok (.goto 7, 3) := by decide +kernel
theorem dX3_change_29 : decode cX3_change 29 = .ok (.aload_n 0, 1) := by decide +kernel
theorem dX3_change_30 : decode cX3_change 30 = .ok (.invokevirtual 35, 3) := by decide +kernel
theorem dX3_change_33 : decode cX3_change 33 = .ok (.ireturn, 1) := by decide +kernel
theorem dX3_revoke_0 : decode cX3_revoke 0 = .ok (.aload_n 0, 1) := by decide +kernel
theorem dX3_revoke_1 : decode cX3_revoke 1 = .ok (.iload_n 1, 1) := by decide +kernel
theorem dX3_revoke_2 : decode cX3_revoke 2 = .ok (.invokevirtual 72, 3) := by decide +kernel
theorem dX3_revoke_5 : decode cX3_revoke 5 = .ok (.istore_n 2, 1) := by decide +kernel
theorem dX3_revoke_6 : decode cX3_revoke 6 = .ok (.iload_n 2, 1) := by decide +kernel
theorem dX3_revoke_7 : decode cX3_revoke 7 = .ok (.ifCond .eq 5, 3) := by decide +kernel
theorem dX3_revoke_10 : decode cX3_revoke 10 = .ok (.iload_n 2, 1) := by decide +kernel
theorem dX3_revoke_11 : decode cX3_revoke 11 = .ok (.ireturn, 1) := by decide +kernel
theorem dX3_revoke_12 : decode cX3_revoke 12 = .ok (.aload_n 0, 1) := by decide +kernel
theorem dX3_revoke_13 : decode cX3_revoke 13 = .ok (.invokevirtual 51, 3) := by decide +kernel
theorem dX3_revoke_16 : decode cX3_revoke 16 = .ok (.iconst 1, 1) := by decide +kernel
theorem dX3_revoke_17 : decode cX3_revoke 17 = .ok (.if_icmp .ne 6, 3) := by decide +kernel
theorem dX3_revoke_20 : decode cX3_revoke 20 = .ok (.bipush (-8), 2) := by decide +kernel
theorem dX3_revoke_22 : decode cX3_revoke 22 = .ok (.ireturn, 1) := by decide +kernel
theorem dX3_revoke_23 : decode cX3_revoke 23 = .ok (.aload_n 0, 1) := by decide +kernel
theorem dX3_revoke_24 : decode cX3_revoke 24 = .ok (.iload_n 1, 1) := by decide +kernel
theorem dX3_revoke_25 : decode cX3_revoke 25 = .ok (.invokevirtual 75, 3) := by decide +kernel
theorem dX3_revoke_28 : decode cX3_revoke 28 = .ok (.ifCond .eq 7, 3) := by decide +kernel
theorem dX3_revoke_31 : decode cX3_revoke 31 = .ok (.iconst 0, 1) := by decide +kernel
theorem dX3_revoke_32 : decode cX3_revoke 32 = .ok (.goto 7, 3) := by decide +kernel
theorem dX3_revoke_35 : decode cX3_revoke 35 = .ok (.aload_n 0, 1) := by decide +kernel
theorem dX3_revoke_36 : decode cX3_revoke 36 = .ok (.invokevirtual 35, 3) := by decide +kernel
theorem dX3_revoke_39 : decode cX3_revoke 39 = .ok (.ireturn, 1) := by decide +kernel
theorem dX3_write_0 : decode cX3_write 0 = .ok (.aload_n 0, 1) := by decide +kernel
theorem dX3_write_1 : decode cX3_write 1 = .ok (.iload_n 1, 1) := by decide +kernel
theorem dX3_write_2 : decode cX3_write 2 = .ok (.iload_n 2, 1) := by decide +kernel
theorem dX3_write_3 : decode cX3_write 3 = .ok (.invokevirtual 78, 3) := by decide +kernel
theorem dX3_write_6 : decode cX3_write 6 = .ok (.istore 4, 2) := by decide +kernel
theorem dX3_write_8 : decode cX3_write 8 = .ok (.iload 4, 2) := by decide +kernel
theorem dX3_write_10 : decode cX3_write 10 = .ok (.ifCond .eq 6, 3) := by decide +kernel
theorem dX3_write_13 : decode cX3_write 13 = .ok (.iload 4, 2) := by decide +kernel
theorem dX3_write_15 : decode cX3_write 15 = .ok (.ireturn, 1) := by decide +kernel
theorem dX3_write_16 : decode cX3_write 16 = .ok (.iconst 0, 1) := by decide +kernel
theorem dX3_write_17 : decode cX3_write 17 = .ok (.istore 5, 2) := by decide +kernel
theorem dX3_write_19 : decode cX3_write 19 = .ok (.iload 5, 2) := by decide +kernel
theorem dX3_write_21 : decode cX3_write 21 = .ok (.iconst 4, 1) := by decide +kernel
theorem dX3_write_22 : decode cX3_write 22 = .ok (.if_icmp .ge 51, 3) := by decide +kernel
theorem dX3_write_25 : decode cX3_write 25 = .ok (.iload 5, 2) := by decide +kernel
theorem dX3_write_27 : decode cX3_write 27 = .ok (.iload_n 2, 1) := by decide +kernel
theorem dX3_write_28 : decode cX3_write 28 = .ok (.if_icmp .ne 7, 3) := by decide +kernel
theorem dX3_write_31 : decode cX3_write 31 = .ok (.iload_n 3, 1) := by decide +kernel
theorem dX3_write_32 : decode cX3_write 32 = .ok (.goto 10, 3) := by decide +kernel
theorem dX3_write_35 : decode cX3_write 35 = .ok (.aload_n 0, 1) := by decide +kernel
theorem dX3_write_36 : decode cX3_write 36 = .ok (.iload_n 1, 1) := by decide +kernel
theorem dX3_write_37 : decode cX3_write 37 = .ok (.iload 5, 2) := by decide +kernel
theorem dX3_write_39 : decode cX3_write 39 = .ok (.invokevirtual 82, 3) := by decide +kernel
theorem dX3_write_42 : decode cX3_write 42 = .ok (.istore 6, 2) := by decide +kernel
theorem dX3_write_44 : decode cX3_write 44 = .ok (.aload_n 0, 1) := by decide +kernel
theorem dX3_write_45 : decode cX3_write 45 = .ok (.getfield 16, 3) := by decide +kernel
theorem dX3_write_48 : decode cX3_write 48 = .ok (.iload 5, 2) := by decide +kernel
theorem dX3_write_50 : decode cX3_write 50 = .ok (.aload_n 0, 1) := by decide +kernel
theorem dX3_write_51 : decode cX3_write 51 = .ok (.getfield 85, 3) := by decide +kernel
theorem dX3_write_54 : decode cX3_write 54 = .ok (.aload_n 0, 1) := by decide +kernel
theorem dX3_write_55 : decode cX3_write 55 = .ok (.getfield 88, 3) := by decide +kernel
theorem dX3_write_58 : decode cX3_write 58 = .ok (.iload_n 1, 1) := by decide +kernel
theorem dX3_write_59 : decode cX3_write 59 = .ok (.iload 5, 2) := by decide +kernel
theorem dX3_write_61 : decode cX3_write 61 = .ok (.iload 6, 2) := by decide +kernel
theorem dX3_write_63 : decode cX3_write 63 = .ok (.invokestatic 91, 3) := by decide +kernel
theorem dX3_write_66 : decode cX3_write 66 = .ok (.iastore, 1) := by decide +kernel
theorem dX3_write_67 : decode cX3_write 67 = .ok (.iinc 5 1, 3) := by decide +kernel
theorem dX3_write_70 : decode cX3_write 70 = .ok (.goto (-51), 3) := by decide +kernel
theorem dX3_write_73 : decode cX3_write 73 = .ok (.aload_n 0, 1) := by decide +kernel
theorem dX3_write_74 : decode cX3_write 74 = .ok (.getfield 10, 3) := by decide +kernel
theorem dX3_write_77 : decode cX3_write 77 = .ok (.iload_n 1, 1) := by decide +kernel
theorem dX3_write_78 : decode cX3_write 78 = .ok (.invokestatic 97, 3) := by decide +kernel
theorem dX3_write_81 : decode cX3_write 81 = .ok (.iconst 4, 1) := by decide +kernel
theorem dX3_write_82 : decode cX3_write 82 = .ok (.aload_n 0, 1) := by decide +kernel
theorem dX3_write_83 : decode cX3_write 83 = .ok (.getfield 16, 3) := by decide +kernel
theorem dX3_write_86 : decode cX3_write 86 = .ok (.invokevirtual 100, 3) := by decide +kernel
theorem dX3_write_89 : decode cX3_write 89 = .ok (.ifCond .eq 7, 3) := by decide +kernel
theorem dX3_write_92 : decode cX3_write 92 = .ok (.iconst 0, 1) := by decide +kernel
theorem dX3_write_93 : decode cX3_write 93 = .ok (.goto 7, 3) := by decide +kernel
theorem dX3_write_96 : decode cX3_write 96 = .ok (.aload_n 0, 1) := by decide +kernel
theorem dX3_write_97 : decode cX3_write 97 = .ok (.invokevirtual 35, 3) := by decide +kernel
theorem dX3_write_100 : decode cX3_write 100 = .ok (.ireturn, 1) := by decide +kernel
theorem dX3_read_0 : decode cX3_read 0 = .ok (.aload_n 0, 1) := by decide +kernel
theorem dX3_read_1 : decode cX3_read 1 = .ok (.iload_n 1, 1) := by decide +kernel
theorem dX3_read_2 : decode cX3_read 2 = .ok (.iload_n 2, 1) := by decide +kernel
theorem dX3_read_3 : decode cX3_read 3 = .ok (.invokevirtual 78, 3) := by decide +kernel
theorem dX3_read_6 : decode cX3_read 6 = .ok (.istore_n 3, 1) := by decide +kernel
theorem dX3_read_7 : decode cX3_read 7 = .ok (.iload_n 3, 1) := by decide +kernel
theorem dX3_read_8 : decode cX3_read 8 = .ok (.ifCond .eq 6, 3) := by decide +kernel
theorem dX3_read_11 : decode cX3_read 11 = .ok (.iload_n 3, 1) := by decide +kernel
theorem dX3_read_12 : decode cX3_read 12 = .ok (.i2l, 1) := by decide +kernel
theorem dX3_read_13 : decode cX3_read 13 = .ok (.lreturn, 1) := by decide +kernel
theorem dX3_read_14 : decode cX3_read 14 = .ok (.aload_n 0, 1) := by decide +kernel
theorem dX3_read_15 : decode cX3_read 15 = .ok (.iload_n 1, 1) := by decide +kernel
theorem dX3_read_16 : decode cX3_read 16 = .ok (.iload_n 2, 1) := by decide +kernel
theorem dX3_read_17 : decode cX3_read 17 = .ok (.invokevirtual 82, 3) := by decide +kernel
theorem dX3_read_20 : decode cX3_read 20 = .ok (.i2l, 1) := by decide +kernel
theorem dX3_read_21 : decode cX3_read 21 = .ok (.ldc2_w 104, 3) := by decide +kernel
theorem dX3_read_24 : decode cX3_read 24 = .ok (.land, 1) := by decide +kernel
theorem dX3_read_25 : decode cX3_read 25 = .ok (.lreturn, 1) := by decide +kernel
theorem dX3_state_0 : decode cX3_state 0 = .ok (.aload_n 0, 1) := by decide +kernel
theorem dX3_state_1 : decode cX3_state 1 = .ok (.getfield 20, 3) := by decide +kernel
theorem dX3_state_4 : decode cX3_state 4 = .ok (.ireturn, 1) := by decide +kernel
theorem dX3_slots_0 : decode cX3_slots 0 = .ok (.iconst 0, 1) := by decide +kernel
theorem dX3_slots_1 : decode cX3_slots 1 = .ok (.istore_n 1, 1) := by decide +kernel
theorem dX3_slots_2 : decode cX3_slots 2 = .ok (.iconst 0, 1) := by decide +kernel
theorem dX3_slots_3 : decode cX3_slots 3 = .ok (.istore_n 2, 1) := by decide +kernel
theorem dX3_slots_4 : decode cX3_slots 4 = .ok (.iload_n 2, 1) := by decide +kernel
theorem dX3_slots_5 : decode cX3_slots 5 = .ok (.iconst 4, 1) := by decide +kernel
theorem dX3_slots_6 : decode cX3_slots 6 = .ok (.if_icmp .ge 23, 3) := by decide +kernel
theorem dX3_slots_9 : decode cX3_slots 9 = .ok (.aload_n 0, 1) := by decide +kernel
theorem dX3_slots_10 : decode cX3_slots 10 = .ok (.iload_n 2, 1) := by decide +kernel
theorem dX3_slots_11 : decode cX3_slots 11 = .ok (.invokevirtual 54, 3) := by decide +kernel
theorem dX3_slots_14 : decode cX3_slots 14 = .ok (.ifCond .eq 9, 3) := by decide +kernel
theorem dX3_slots_17 : decode cX3_slots 17 = .ok (.iload_n 1, 1) := by decide +kernel
theorem dX3_slots_18 : decode cX3_slots 18 = .ok (.iconst 1, 1) := by decide +kernel
theorem dX3_slots_19 : decode cX3_slots 19 = .ok (.iload_n 2, 1) := by decide +kernel
theorem dX3_slots_20 : decode cX3_slots 20 = .ok (.ishl, 1) := by decide +kernel
theorem dX3_slots_21 : decode cX3_slots 21 = .ok (.iadd, 1) := by decide +kernel
theorem dX3_slots_22 : decode cX3_slots 22 = .ok (.istore_n 1, 1) := by decide +kernel
theorem dX3_slots_23 : decode cX3_slots 23 = .ok (.iinc 2 1, 3) := by decide +kernel
theorem dX3_slots_26 : decode cX3_slots 26 = .ok (.goto (-22), 3) := by decide +kernel
theorem dX3_slots_29 : decode cX3_slots 29 = .ok (.iload_n 1, 1) := by decide +kernel
theorem dX3_slots_30 : decode cX3_slots 30 = .ok (.ireturn, 1) := by decide +kernel
theorem dX3_peek_0 : decode cX3_peek 0 = .ok (.aload_n 0, 1) := by decide +kernel
theorem dX3_peek_1 : decode cX3_peek 1 = .ok (.getfield 10, 3) := by decide +kernel
theorem dX3_peek_4 : decode cX3_peek 4 = .ok (.iload_n 1, 1) := by decide +kernel
theorem dX3_peek_5 : decode cX3_peek 5 = .ok (.invokevirtual 43, 3) := by decide +kernel
theorem dX3_peek_8 : decode cX3_peek 8 = .ok (.ireturn, 1) := by decide +kernel
theorem dX3_writes_0 : decode cX3_writes 0 = .ok (.aload_n 0, 1) := by decide +kernel
theorem dX3_writes_1 : decode cX3_writes 1 = .ok (.getfield 10, 3) := by decide +kernel
theorem dX3_writes_4 : decode cX3_writes 4 = .ok (.getfield 106, 3) := by decide +kernel
theorem dX3_writes_7 : decode cX3_writes 7 = .ok (.ireturn, 1) := by decide +kernel
theorem dX3_powerLost_0 : decode cX3_powerLost 0 = .ok (.aload_n 0, 1) := by decide +kernel
theorem dX3_powerLost_1 : decode cX3_powerLost 1 = .ok (.iconst 0, 1) := by decide +kernel
theorem dX3_powerLost_2 : decode cX3_powerLost 2 = .ok (.invokevirtual 39, 3) := by decide +kernel
theorem dX3_powerLost_5 : decode cX3_powerLost 5 = .ok (.iconst (-1), 1) := by decide +kernel
theorem dX3_powerLost_6 : decode cX3_powerLost 6 = .ok (.ireturn, 1) := by decide +kernel
theorem dX3_holdNoKeys_0 : decode cX3_holdNoKeys 0 = .ok (.aload_n 0, 1) := by decide +kernel
theorem dX3_holdNoKeys_1 : decode cX3_holdNoKeys 1 = .ok (.iload_n 1, 1) := by decide +kernel
theorem dX3_holdNoKeys_2 : decode cX3_holdNoKeys 2 = .ok (.putfield 20, 3) := by decide +kernel
theorem dX3_holdNoKeys_5 : decode cX3_holdNoKeys 5 = .ok (.aload_n 0, 1) := by decide +kernel
theorem dX3_holdNoKeys_6 : decode cX3_holdNoKeys 6 = .ok (.iconst 0, 1) := by decide +kernel
theorem dX3_holdNoKeys_7 : decode cX3_holdNoKeys 7 = .ok (.putfield 85, 3) := by decide +kernel
theorem dX3_holdNoKeys_10 : decode cX3_holdNoKeys 10 = .ok (.aload_n 0, 1) := by decide +kernel
theorem dX3_holdNoKeys_11 : decode cX3_holdNoKeys 11 = .ok (.iconst 0, 1) := by decide +kernel
theorem dX3_holdNoKeys_12 : decode cX3_holdNoKeys 12 = .ok (.putfield 88, 3) := by decide +kernel
theorem dX3_holdNoKeys_15 : decode cX3_holdNoKeys 15 = .ok (.return_, 1) := by decide +kernel
theorem dX3_refusalUnlessOpen_0 : decode cX3_refusalUnlessOpen 0 = .ok (.aload_n 0, 1) := by decide +kernel
theorem dX3_refusalUnlessOpen_1 : decode cX3_refusalUnlessOpen 1 = .ok (.getfield 20, 3) := by decide +kernel
theorem dX3_refusalUnlessOpen_4 : decode cX3_refusalUnlessOpen 4 = .ok (.ifCond .ne 6, 3) := by decide +kernel
theorem dX3_refusalUnlessOpen_7 : decode cX3_refusalUnlessOpen 7 = .ok (.bipush (-2), 2) := by decide +kernel
theorem dX3_refusalUnlessOpen_9 : decode cX3_refusalUnlessOpen 9 = .ok (.ireturn, 1) := by decide +kernel
theorem dX3_refusalUnlessOpen_10 : decode cX3_refusalUnlessOpen 10 = .ok (.aload_n 0, 1) := by decide +kernel
theorem dX3_refusalUnlessOpen_11 : decode cX3_refusalUnlessOpen 11 = .ok (.getfield 20, 3) := by decide +kernel
theorem dX3_refusalUnlessOpen_14 : decode cX3_refusalUnlessOpen 14 = .ok (.iconst 1, 1) := by decide +kernel
theorem dX3_refusalUnlessOpen_15 : decode cX3_refusalUnlessOpen 15 = .ok (.if_icmp .ne 8, 3) := by decide +kernel
theorem dX3_refusalUnlessOpen_18 : decode cX3_refusalUnlessOpen 18 = .ok (.bipush (-4), 2) := by decide +kernel
theorem dX3_refusalUnlessOpen_20 : decode cX3_refusalUnlessOpen 20 = .ok (.goto 4, 3) := by decide +kernel
theorem dX3_refusalUnlessOpen_23 : decode cX3_refusalUnlessOpen 23 = .ok (.iconst 0, 1) := by decide +kernel
theorem dX3_refusalUnlessOpen_24 : decode cX3_refusalUnlessOpen 24 = .ok (.ireturn, 1) := by decide +kernel
theorem dX3_refusalOfSlot_0 : decode cX3_refusalOfSlot 0 = .ok (.aload_n 0, 1) := by decide +kernel
theorem dX3_refusalOfSlot_1 : decode cX3_refusalOfSlot 1 = .ok (.invokevirtual 62, 3) := by decide +kernel
theorem dX3_refusalOfSlot_4 : decode cX3_refusalOfSlot 4 = .ok (.istore_n 2, 1) := by decide +kernel
theorem dX3_refusalOfSlot_5 : decode cX3_refusalOfSlot 5 = .ok (.iload_n 2, 1) := by decide +kernel
theorem dX3_refusalOfSlot_6 : decode cX3_refusalOfSlot 6 = .ok (.ifCond .eq 5, 3) := by decide +kernel
theorem dX3_refusalOfSlot_9 : decode cX3_refusalOfSlot 9 = .ok (.iload_n 2, 1) := by decide +kernel
theorem dX3_refusalOfSlot_10 : decode cX3_refusalOfSlot 10 = .ok (.ireturn, 1) := by decide +kernel
theorem dX3_refusalOfSlot_11 : decode cX3_refusalOfSlot 11 = .ok (.iload_n 1, 1) := by decide +kernel
theorem dX3_refusalOfSlot_12 : decode cX3_refusalOfSlot 12 = .ok (.ifCond .lt 8, 3) := by decide +kernel
theorem dX3_refusalOfSlot_15 : decode cX3_refusalOfSlot 15 = .ok (.iload_n 1, 1) := by decide +kernel
theorem dX3_refusalOfSlot_16 : decode cX3_refusalOfSlot 16 = .ok (.iconst 4, 1) := by decide +kernel
theorem dX3_refusalOfSlot_17 : decode cX3_refusalOfSlot 17 = .ok (.if_icmp .lt 6, 3) := by decide +kernel
theorem dX3_refusalOfSlot_20 : decode cX3_refusalOfSlot 20 = .ok (.bipush (-5), 2) := by decide +kernel
theorem dX3_refusalOfSlot_22 : decode cX3_refusalOfSlot 22 = .ok (.ireturn, 1) := by decide +kernel
theorem dX3_refusalOfSlot_23 : decode cX3_refusalOfSlot 23 = .ok (.aload_n 0, 1) := by decide +kernel
theorem dX3_refusalOfSlot_24 : decode cX3_refusalOfSlot 24 = .ok (.iload_n 1, 1) := by decide +kernel
theorem dX3_refusalOfSlot_25 : decode cX3_refusalOfSlot 25 = .ok (.invokevirtual 54, 3) := by decide +kernel
theorem dX3_refusalOfSlot_28 : decode cX3_refusalOfSlot 28 = .ok (.ifCond .eq 7, 3) := by decide +kernel
theorem dX3_refusalOfSlot_31 : decode cX3_refusalOfSlot 31 = .ok (.iconst 0, 1) := by decide +kernel
theorem dX3_refusalOfSlot_32 : decode cX3_refusalOfSlot 32 = .ok (.goto 5, 3) := by decide +kernel
theorem dX3_refusalOfSlot_35 : decode cX3_refusalOfSlot 35 = .ok (.bipush (-6), 2) := by decide +kernel
theorem dX3_refusalOfSlot_37 : decode cX3_refusalOfSlot 37 = .ok (.ireturn, 1) := by decide +kernel
theorem dX3_refusalOfWord_0 : decode cX3_refusalOfWord 0 = .ok (.aload_n 0, 1) := by decide +kernel
theorem dX3_refusalOfWord_1 : decode cX3_refusalOfWord 1 = .ok (.invokevirtual 62, 3) := by decide +kernel
theorem dX3_refusalOfWord_4 : decode cX3_refusalOfWord 4 = .ok (.istore_n 3, 1) := by decide +kernel
theorem dX3_refusalOfWord_5 : decode cX3_refusalOfWord 5 = .ok (.iload_n 3, 1) := by decide +kernel
theorem dX3_refusalOfWord_6 : decode cX3_refusalOfWord 6 = .ok (.ifCond .eq 5, 3) := by decide +kernel
theorem dX3_refusalOfWord_9 : decode cX3_refusalOfWord 9 = .ok (.iload_n 3, 1) := by decide +kernel
theorem dX3_refusalOfWord_10 : decode cX3_refusalOfWord 10 = .ok (.ireturn, 1) := by decide +kernel
theorem dX3_refusalOfWord_11 : decode cX3_refusalOfWord 11 = .ok (.iload_n 1, 1) := by decide +kernel
theorem dX3_refusalOfWord_12 : decode cX3_refusalOfWord 12 = .ok (.ifCond .lt 22, 3) := by decide +kernel
theorem dX3_refusalOfWord_15 : decode cX3_refusalOfWord 15 = .ok (.iload_n 1, 1) := by decide +kernel
theorem dX3_refusalOfWord_16 : decode cX3_refusalOfWord 16 = .ok (.bipush 8, 2) := by decide +kernel
theorem dX3_refusalOfWord_18 : decode cX3_refusalOfWord 18 = .ok (.if_icmp .ge 16, 3) := by decide +kernel
theorem dX3_refusalOfWord_21 : decode cX3_refusalOfWord 21 = .ok (.iload_n 2, 1) := by decide +kernel
theorem dX3_refusalOfWord_22 : decode cX3_refusalOfWord 22 = .ok (.ifCond .lt 12, 3) := by decide +kernel
theorem dX3_refusalOfWord_25 : decode cX3_refusalOfWord 25 = .ok (.iload_n 2, 1) := by decide +kernel
theorem dX3_refusalOfWord_26 : decode cX3_refusalOfWord 26 = .ok (.iconst 4, 1) := by decide +kernel
theorem dX3_refusalOfWord_27 : decode cX3_refusalOfWord 27 = .ok (.if_icmp .ge 7, 3) := by decide +kernel
theorem dX3_refusalOfWord_30 : decode cX3_refusalOfWord 30 = .ok (.iconst 1, 1) := by decide +kernel
theorem dX3_refusalOfWord_31 : decode cX3_refusalOfWord 31 = .ok (.goto 4, 3) := by decide +kernel
theorem dX3_refusalOfWord_34 : decode cX3_refusalOfWord 34 = .ok (.iconst 0, 1) := by decide +kernel
theorem dX3_refusalOfWord_35 : decode cX3_refusalOfWord 35 = .ok (.istore 4, 2) := by decide +kernel
theorem dX3_refusalOfWord_37 : decode cX3_refusalOfWord 37 = .ok (.iload 4, 2) := by decide +kernel
theorem dX3_refusalOfWord_39 : decode cX3_refusalOfWord 39 = .ok (.ifCond .eq 7, 3) := by decide +kernel
theorem dX3_refusalOfWord_42 : decode cX3_refusalOfWord 42 = .ok (.iconst 0, 1) := by decide +kernel
theorem dX3_refusalOfWord_43 : decode cX3_refusalOfWord 43 = .ok (.goto 5, 3) := by decide +kernel
theorem dX3_refusalOfWord_46 : decode cX3_refusalOfWord 46 = .ok (.bipush (-5), 2) := by decide +kernel
theorem dX3_refusalOfWord_48 : decode cX3_refusalOfWord 48 = .ok (.ireturn, 1) := by decide +kernel
theorem dX3_workOutVolume_0 : decode cX3_workOutVolume 0 = .ok (.aload_n 0, 1) := by decide +kernel
theorem dX3_workOutVolume_1 : decode cX3_workOutVolume 1 = .ok (.getfield 16, 3) := by decide +kernel
theorem dX3_workOutVolume_4 : decode cX3_workOutVolume 4 = .ok (.iconst 0, 1) := by decide +kernel
theorem dX3_workOutVolume_5 : decode cX3_workOutVolume 5 = .ok (.invokestatic 109, 3) := by decide +kernel
theorem dX3_workOutVolume_8 : decode cX3_workOutVolume 8 = .ok (.iload 4, 2) := by decide +kernel
theorem dX3_workOutVolume_10 : decode cX3_workOutVolume 10 = .ok (.iconst 5, 1) := by decide +kernel
theorem dX3_workOutVolume_11 : decode cX3_workOutVolume 11 = .ok (.invokestatic 115, 3) := by decide +kernel
theorem dX3_workOutVolume_14 : decode cX3_workOutVolume 14 = .ok (.istore 5, 2) := by decide +kernel
theorem dX3_workOutVolume_16 : decode cX3_workOutVolume 16 = .ok (.aload_n 0, 1) := by decide +kernel
theorem dX3_workOutVolume_17 : decode cX3_workOutVolume 17 = .ok (.getfield 16, 3) := by decide +kernel
theorem dX3_workOutVolume_20 : decode cX3_workOutVolume 20 = .ok (.iconst 2, 1) := by decide +kernel
theorem dX3_workOutVolume_21 : decode cX3_workOutVolume 21 = .ok (.iload 5, 2) := by decide +kernel
theorem dX3_workOutVolume_23 : decode cX3_workOutVolume 23 = .ok (.iastore, 1) := by decide +kernel
theorem dX3_workOutVolume_24 : decode cX3_workOutVolume 24 = .ok (.aload_n 0, 1) := by decide +kernel
theorem dX3_workOutVolume_25 : decode cX3_workOutVolume 25 = .ok (.getfield 16, 3) := by decide +kernel
theorem dX3_workOutVolume_28 : decode cX3_workOutVolume 28 = .ok (.iconst 1, 1) := by decide +kernel
theorem dX3_workOutVolume_29 : decode cX3_workOutVolume 29 = .ok (.iload_n 1, 1) := by decide +kernel
theorem dX3_workOutVolume_30 : decode cX3_workOutVolume 30 = .ok (.iload_n 2, 1) := by decide +kernel
theorem dX3_workOutVolume_31 : decode cX3_workOutVolume 31 = .ok (.iload 5, 2) := by decide +kernel
theorem dX3_workOutVolume_33 : decode cX3_workOutVolume 33 = .ok (.invokestatic 118, 3) := by decide +kernel
theorem dX3_workOutVolume_36 : decode cX3_workOutVolume 36 = .ok (.iastore, 1) := by decide +kernel
theorem dX3_workOutVolume_37 : decode cX3_workOutVolume 37 = .ok (.aload_n 0, 1) := by decide +kernel
theorem dX3_workOutVolume_38 : decode cX3_workOutVolume 38 = .ok (.getfield 16, 3) := by decide +kernel
theorem dX3_workOutVolume_41 : decode cX3_workOutVolume 41 = .ok (.iconst 0, 1) := by decide +kernel
theorem dX3_workOutVolume_42 : decode cX3_workOutVolume 42 = .ok (.invokestatic 122, 3) := by decide +kernel
theorem dX3_workOutVolume_45 : decode cX3_workOutVolume 45 = .ok (.iload_n 1, 1) := by decide +kernel
theorem dX3_workOutVolume_46 : decode cX3_workOutVolume 46 = .ok (.iload_n 2, 1) := by decide +kernel
theorem dX3_workOutVolume_47 : decode cX3_workOutVolume 47 = .ok (.iload_n 3, 1) := by decide +kernel
theorem dX3_workOutVolume_48 : decode cX3_workOutVolume 48 = .ok (.iload 4, 2) := by decide +kernel
theorem dX3_workOutVolume_50 : decode cX3_workOutVolume 50 = .ok (.invokestatic 125, 3) := by decide +kernel
theorem dX3_workOutVolume_53 : decode cX3_workOutVolume 53 = .ok (.iconst 0, 1) := by decide +kernel
theorem dX3_workOutVolume_54 : decode cX3_workOutVolume 54 = .ok (.istore 6, 2) := by decide +kernel
theorem dX3_workOutVolume_56 : decode cX3_workOutVolume 56 = .ok (.iload 6, 2) := by decide +kernel
theorem dX3_workOutVolume_58 : decode cX3_workOutVolume 58 = .ok (.bipush 8, 2) := by decide +kernel
theorem dX3_workOutVolume_60 : decode cX3_workOutVolume 60 = .ok (.if_icmp .ge 47, 3) := by decide +kernel
theorem dX3_workOutVolume_63 : decode cX3_workOutVolume 63 = .ok (.iconst 0, 1) := by decide +kernel
theorem dX3_workOutVolume_64 : decode cX3_workOutVolume 64 = .ok (.istore 7, 2) := by decide +kernel
theorem dX3_workOutVolume_66 : decode cX3_workOutVolume 66 = .ok (.iload 7, 2) := by decide +kernel
theorem dX3_workOutVolume_68 : decode cX3_workOutVolume 68 = .ok (.iconst 4, 1) := by decide +kernel
theorem dX3_workOutVolume_69 : decode cX3_workOutVolume 69 = .ok (.if_icmp .ge 32, 3) := by decide +kernel
theorem dX3_workOutVolume_72 : decode cX3_workOutVolume 72 = .ok (.aload_n 0, 1) := by decide +kernel
theorem dX3_workOutVolume_73 : decode cX3_workOutVolume 73 = .ok (.getfield 16, 3) := by decide +kernel
theorem dX3_workOutVolume_76 : decode cX3_workOutVolume 76 = .ok (.iload 6, 2) := by decide +kernel
theorem dX3_workOutVolume_78 : decode cX3_workOutVolume 78 = .ok (.invokestatic 97, 3) := by decide +kernel
theorem dX3_workOutVolume_81 : decode cX3_workOutVolume 81 = .ok (.iload 7, 2) := by decide +kernel
theorem dX3_workOutVolume_83 : decode cX3_workOutVolume 83 = .ok (.iadd, 1) := by decide +kernel
theorem dX3_workOutVolume_84 : decode cX3_workOutVolume 84 = .ok (.iload_n 1, 1) := by decide +kernel
theorem dX3_workOutVolume_85 : decode cX3_workOutVolume 85 = .ok (.iload_n 2, 1) := by decide +kernel
theorem dX3_workOutVolume_86 : decode cX3_workOutVolume 86 = .ok (.iload 6, 2) := by decide +kernel
theorem dX3_workOutVolume_88 : decode cX3_workOutVolume 88 = .ok (.iload 7, 2) := by decide +kernel
theorem dX3_workOutVolume_90 : decode cX3_workOutVolume 90 = .ok (.iconst 0, 1) := by decide +kernel
theorem dX3_workOutVolume_91 : decode cX3_workOutVolume 91 = .ok (.invokestatic 91, 3) := by decide +kernel
theorem dX3_workOutVolume_94 : decode cX3_workOutVolume 94 = .ok (.iastore, 1) := by decide +kernel
theorem dX3_workOutVolume_95 : decode cX3_workOutVolume 95 = .ok (.iinc 7 1, 3) := by decide +kernel
theorem dX3_workOutVolume_98 : decode cX3_workOutVolume 98 = .ok (.goto (-32), 3) := by decide +kernel
theorem dX3_workOutVolume_101 : decode cX3_workOutVolume 101 = .ok (.iinc 6 1, 3) := by decide +kernel
theorem dX3_workOutVolume_104 : decode cX3_workOutVolume 104 = .ok (.goto (-48), 3) := by decide +kernel
theorem dX3_workOutVolume_107 : decode cX3_workOutVolume 107 = .ok (.return_, 1) := by decide +kernel
theorem dX3_putVolume_0 : decode cX3_putVolume 0 = .ok (.aload_n 0, 1) := by decide +kernel
theorem dX3_putVolume_1 : decode cX3_putVolume 1 = .ok (.getfield 10, 3) := by decide +kernel
theorem dX3_putVolume_4 : decode cX3_putVolume 4 = .ok (.iconst 0, 1) := by decide +kernel
theorem dX3_putVolume_5 : decode cX3_putVolume 5 = .ok (.iconst 0, 1) := by decide +kernel
theorem dX3_putVolume_6 : decode cX3_putVolume 6 = .ok (.invokevirtual 131, 3) := by decide +kernel
theorem dX3_putVolume_9 : decode cX3_putVolume 9 = .ok (.ifCond .ne 5, 3) := by decide +kernel
theorem dX3_putVolume_12 : decode cX3_putVolume 12 = .ok (.iconst 0, 1) := by decide +kernel
theorem dX3_putVolume_13 : decode cX3_putVolume 13 = .ok (.ireturn, 1) := by decide +kernel
theorem dX3_putVolume_14 : decode cX3_putVolume 14 = .ok (.iconst 1, 1) := by decide +kernel
theorem dX3_putVolume_15 : decode cX3_putVolume 15 = .ok (.istore_n 1, 1) := by decide +kernel
theorem dX3_putVolume_16 : decode cX3_putVolume 16 = .ok (.iload_n 1, 1) := by decide +kernel
theorem dX3_putVolume_17 : decode cX3_putVolume 17 = .ok (.bipush 80, 2) := by decide +kernel
theorem dX3_putVolume_19 : decode cX3_putVolume 19 = .ok (.if_icmp .ge 28, 3) := by decide +kernel
theorem dX3_putVolume_22 : decode cX3_putVolume 22 = .ok (.aload_n 0, 1) := by decide +kernel
theorem dX3_putVolume_23 : decode cX3_putVolume 23 = .ok (.getfield 10, 3) := by decide +kernel
theorem dX3_putVolume_26 : decode cX3_putVolume 26 = .ok (.iload_n 1, 1) := by decide +kernel
theorem dX3_putVolume_27 : decode cX3_putVolume 27 = .ok (.aload_n 0, 1) := by decide +kernel
theorem dX3_putVolume_28 : decode cX3_putVolume 28 = .ok (.getfield 16, 3) := by decide +kernel
theorem dX3_putVolume_31 : decode cX3_putVolume 31 = .ok (.iload_n 1, 1) := by decide +kernel
theorem dX3_putVolume_32 : decode cX3_putVolume 32 = .ok (.iaload, 1) := by decide +kernel
theorem dX3_putVolume_33 : decode cX3_putVolume 33 = .ok (.invokevirtual 131, 3) := by decide +kernel
theorem dX3_putVolume_36 : decode cX3_putVolume 36 = .ok (.ifCond .ne 5, 3) := by decide +kernel
theorem dX3_putVolume_39 : decode cX3_putVolume 39 = .ok (.iconst 0, 1) := by decide +kernel
theorem dX3_putVolume_40 : decode cX3_putVolume 40 = .ok (.ireturn, 1) := by decide +kernel
theorem dX3_putVolume_41 : decode cX3_putVolume 41 = .ok (.iinc 1 1, 3) := by decide +kernel
theorem dX3_putVolume_44 : decode cX3_putVolume 44 = .ok (.goto (-28), 3) := by decide +kernel
theorem dX3_putVolume_47 : decode cX3_putVolume 47 = .ok (.aload_n 0, 1) := by decide +kernel
theorem dX3_putVolume_48 : decode cX3_putVolume 48 = .ok (.getfield 10, 3) := by decide +kernel
theorem dX3_putVolume_51 : decode cX3_putVolume 51 = .ok (.iconst 0, 1) := by decide +kernel
theorem dX3_putVolume_52 : decode cX3_putVolume 52 = .ok (.ldc 47, 2) := by decide +kernel
theorem dX3_putVolume_54 : decode cX3_putVolume 54 = .ok (.invokevirtual 131, 3) := by decide +kernel
theorem dX3_putVolume_57 : decode cX3_putVolume 57 = .ok (.ireturn, 1) := by decide +kernel
theorem dX3_opensWith_0 : decode cX3_opensWith 0 = .ok (.aload_n 0, 1) := by decide +kernel
theorem dX3_opensWith_1 : decode cX3_opensWith 1 = .ok (.getfield 10, 3) := by decide +kernel
theorem dX3_opensWith_4 : decode cX3_opensWith 4 = .ok (.iload_n 1, 1) := by decide +kernel
theorem dX3_opensWith_5 : decode cX3_opensWith 5 = .ok (.invokestatic 122, 3) := by decide +kernel
theorem dX3_opensWith_8 : decode cX3_opensWith 8 = .ok (.iconst 0, 1) := by decide +kernel
theorem dX3_opensWith_9 : decode cX3_opensWith 9 = .ok (.iload_n 2, 1) := by decide +kernel
theorem dX3_opensWith_10 : decode cX3_opensWith 10 = .ok (.invokestatic 134, 3) := by decide +kernel
theorem dX3_opensWith_13 : decode cX3_opensWith 13 = .ok (.istore_n 3, 1) := by decide +kernel
theorem dX3_opensWith_14 : decode cX3_opensWith 14 = .ok (.aload_n 0, 1) := by decide +kernel
theorem dX3_opensWith_15 : decode cX3_opensWith 15 = .ok (.getfield 10, 3) := by decide +kernel
theorem dX3_opensWith_18 : decode cX3_opensWith 18 = .ok (.iload_n 1, 1) := by decide +kernel
theorem dX3_opensWith_19 : decode cX3_opensWith 19 = .ok (.invokestatic 122, 3) := by decide +kernel
theorem dX3_opensWith_22 : decode cX3_opensWith 22 = .ok (.iconst 1, 1) := by decide +kernel
theorem dX3_opensWith_23 : decode cX3_opensWith 23 = .ok (.iload_n 2, 1) := by decide +kernel
theorem dX3_opensWith_24 : decode cX3_opensWith 24 = .ok (.invokestatic 134, 3) := by decide +kernel
theorem dX3_opensWith_27 : decode cX3_opensWith 27 = .ok (.istore 4, 2) := by decide +kernel
theorem dX3_opensWith_29 : decode cX3_opensWith 29 = .ok (.aload_n 0, 1) := by decide +kernel
theorem dX3_opensWith_30 : decode cX3_opensWith 30 = .ok (.getfield 10, 3) := by decide +kernel
theorem dX3_opensWith_33 : decode cX3_opensWith 33 = .ok (.iconst 2, 1) := by decide +kernel
theorem dX3_opensWith_34 : decode cX3_opensWith 34 = .ok (.invokevirtual 43, 3) := by decide +kernel
theorem dX3_opensWith_37 : decode cX3_opensWith 37 = .ok (.istore 5, 2) := by decide +kernel
theorem dX3_opensWith_39 : decode cX3_opensWith 39 = .ok (.iload_n 3, 1) := by decide +kernel
theorem dX3_opensWith_40 : decode cX3_opensWith 40 = .ok (.iload 4, 2) := by decide +kernel
theorem dX3_opensWith_42 : decode cX3_opensWith 42 = .ok (.iload 5, 2) := by decide +kernel
theorem dX3_opensWith_44 : decode cX3_opensWith 44 = .ok (.invokestatic 118, 3) := by decide +kernel
theorem dX3_opensWith_47 : decode cX3_opensWith 47 = .ok (.aload_n 0, 1) := by decide +kernel
theorem dX3_opensWith_48 : decode cX3_opensWith 48 = .ok (.getfield 10, 3) := by decide +kernel
theorem dX3_opensWith_51 : decode cX3_opensWith 51 = .ok (.iconst 1, 1) := by decide +kernel
theorem dX3_opensWith_52 : decode cX3_opensWith 52 = .ok (.invokevirtual 43, 3) := by decide +kernel
theorem dX3_opensWith_55 : decode cX3_opensWith 55 = .ok (.if_icmp .eq 5, 3) := by decide +kernel
theorem dX3_opensWith_58 : decode cX3_opensWith 58 = .ok (.iconst 0, 1) := by decide +kernel
theorem dX3_opensWith_59 : decode cX3_opensWith 59 = .ok (.ireturn, 1) := by decide +kernel
theorem dX3_opensWith_60 : decode cX3_opensWith 60 = .ok (.aload_n 0, 1) := by decide +kernel
theorem dX3_opensWith_61 : decode cX3_opensWith 61 = .ok (.iconst 2, 1) := by decide +kernel
theorem dX3_opensWith_62 : decode cX3_opensWith 62 = .ok (.putfield 20, 3) := by decide +kernel
theorem dX3_opensWith_65 : decode cX3_opensWith 65 = .ok (.aload_n 0, 1) := by decide +kernel
theorem dX3_opensWith_66 : decode cX3_opensWith 66 = .ok (.iload_n 3, 1) := by decide +kernel
theorem dX3_opensWith_67 : decode cX3_opensWith 67 = .ok (.putfield 85, 3) := by decide +kernel
theorem dX3_opensWith_70 : decode cX3_opensWith 70 = .ok (.aload_n 0, 1) := by decide +kernel
theorem dX3_opensWith_71 : decode cX3_opensWith 71 = .ok (.iload 4, 2) := by decide +kernel
theorem dX3_opensWith_73 : decode cX3_opensWith 73 = .ok (.putfield 88, 3) := by decide +kernel
theorem dX3_opensWith_76 : decode cX3_opensWith 76 = .ok (.iconst 1, 1) := by decide +kernel
theorem dX3_opensWith_77 : decode cX3_opensWith 77 = .ok (.ireturn, 1) := by decide +kernel
theorem dX3_fillSlot_0 : decode cX3_fillSlot 0 = .ok (.aload_n 0, 1) := by decide +kernel
theorem dX3_fillSlot_1 : decode cX3_fillSlot 1 = .ok (.getfield 16, 3) := by decide +kernel
theorem dX3_fillSlot_4 : decode cX3_fillSlot 4 = .ok (.iconst 0, 1) := by decide +kernel
theorem dX3_fillSlot_5 : decode cX3_fillSlot 5 = .ok (.aload_n 0, 1) := by decide +kernel
theorem dX3_fillSlot_6 : decode cX3_fillSlot 6 = .ok (.getfield 85, 3) := by decide +kernel
theorem dX3_fillSlot_9 : decode cX3_fillSlot 9 = .ok (.aload_n 0, 1) := by decide +kernel
theorem dX3_fillSlot_10 : decode cX3_fillSlot 10 = .ok (.getfield 88, 3) := by decide +kernel
theorem dX3_fillSlot_13 : decode cX3_fillSlot 13 = .ok (.iload_n 2, 1) := by decide +kernel
theorem dX3_fillSlot_14 : decode cX3_fillSlot 14 = .ok (.iload_n 3, 1) := by decide +kernel
theorem dX3_fillSlot_15 : decode cX3_fillSlot 15 = .ok (.invokestatic 125, 3) := by decide +kernel
theorem dX3_fillSlot_18 : decode cX3_fillSlot 18 = .ok (.aload_n 0, 1) := by decide +kernel
theorem dX3_fillSlot_19 : decode cX3_fillSlot 19 = .ok (.getfield 10, 3) := by decide +kernel
theorem dX3_fillSlot_22 : decode cX3_fillSlot 22 = .ok (.iload_n 1, 1) := by decide +kernel
theorem dX3_fillSlot_23 : decode cX3_fillSlot 23 = .ok (.invokestatic 122, 3) := by decide +kernel
theorem dX3_fillSlot_26 : decode cX3_fillSlot 26 = .ok (.bipush 8, 2) := by decide +kernel
theorem dX3_fillSlot_28 : decode cX3_fillSlot 28 = .ok (.aload_n 0, 1) := by decide +kernel
theorem dX3_fillSlot_29 : decode cX3_fillSlot 29 = .ok (.getfield 16, 3) := by decide +kernel
theorem dX3_fillSlot_32 : decode cX3_fillSlot 32 = .ok (.invokevirtual 100, 3) := by decide +kernel
theorem dX3_fillSlot_35 : decode cX3_fillSlot 35 = .ok (.ireturn, 1) := by decide +kernel
theorem dX3_clearSlot_0 : decode cX3_clearSlot 0 = .ok (.aload_n 0, 1) := by decide +kernel
theorem dX3_clearSlot_1 : decode cX3_clearSlot 1 = .ok (.getfield 16, 3) := by decide +kernel
theorem dX3_clearSlot_4 : decode cX3_clearSlot 4 = .ok (.iconst 0, 1) := by decide +kernel
theorem dX3_clearSlot_5 : decode cX3_clearSlot 5 = .ok (.invokestatic 109, 3) := by decide +kernel
theorem dX3_clearSlot_8 : decode cX3_clearSlot 8 = .ok (.aload_n 0, 1) := by decide +kernel
theorem dX3_clearSlot_9 : decode cX3_clearSlot 9 = .ok (.getfield 10, 3) := by decide +kernel
theorem dX3_clearSlot_12 : decode cX3_clearSlot 12 = .ok (.iload_n 1, 1) := by decide +kernel
theorem dX3_clearSlot_13 : decode cX3_clearSlot 13 = .ok (.invokestatic 122, 3) := by decide +kernel
theorem dX3_clearSlot_16 : decode cX3_clearSlot 16 = .ok (.bipush 8, 2) := by decide +kernel
theorem dX3_clearSlot_18 : decode cX3_clearSlot 18 = .ok (.aload_n 0, 1) := by decide +kernel
theorem dX3_clearSlot_19 : decode cX3_clearSlot 19 = .ok (.getfield 16, 3) := by decide +kernel
theorem dX3_clearSlot_22 : decode cX3_clearSlot 22 = .ok (.invokevirtual 100, 3) := by decide +kernel
theorem dX3_clearSlot_25 : decode cX3_clearSlot 25 = .ok (.ireturn, 1) := by decide +kernel
theorem dX3_isActive_0 : decode cX3_isActive 0 = .ok (.aload_n 0, 1) := by decide +kernel
theorem dX3_isActive_1 : decode cX3_isActive 1 = .ok (.getfield 10, 3) := by decide +kernel
theorem dX3_isActive_4 : decode cX3_isActive 4 = .ok (.iload_n 1, 1) := by decide +kernel
theorem dX3_isActive_5 : decode cX3_isActive 5 = .ok (.invokestatic 122, 3) := by decide +kernel
theorem dX3_isActive_8 : decode cX3_isActive 8 = .ok (.invokevirtual 43, 3) := by decide +kernel
theorem dX3_isActive_11 : decode cX3_isActive 11 = .ok (.iconst 1, 1) := by decide +kernel
theorem dX3_isActive_12 : decode cX3_isActive 12 = .ok (.if_icmp .ne 7, 3) := by decide +kernel
theorem dX3_isActive_15 : decode cX3_isActive 15 = .ok (.iconst 1, 1) := by decide +kernel
theorem dX3_isActive_16 : decode cX3_isActive 16 = .ok (.goto 4, 3) := by decide +kernel
theorem dX3_isActive_19 : decode cX3_isActive 19 = .ok (.iconst 0, 1) := by decide +kernel
theorem dX3_isActive_20 : decode cX3_isActive 20 = .ok (.ireturn, 1) := by decide +kernel
theorem dX3_activeSlots_0 : decode cX3_activeSlots 0 = .ok (.aload_n 0, 1) := by decide +kernel
theorem dX3_activeSlots_1 : decode cX3_activeSlots 1 = .ok (.invokevirtual 138, 3) := by decide +kernel
theorem dX3_activeSlots_4 : decode cX3_activeSlots 4 = .ok (.invokestatic 141, 3) := by decide +kernel
theorem dX3_activeSlots_7 : decode cX3_activeSlots 7 = .ok (.ireturn, 1) := by decide +kernel
theorem dX3_leastFreeSlot_0 : decode cX3_leastFreeSlot 0 = .ok (.iconst 0, 1) := by decide +kernel
theorem dX3_leastFreeSlot_1 : decode cX3_leastFreeSlot 1 = .ok (.istore_n 1, 1) := by decide +kernel
theorem dX3_leastFreeSlot_2 : decode cX3_leastFreeSlot 2 = .ok (.iload_n 1, 1) := by decide +kernel
theorem dX3_leastFreeSlot_3 : decode cX3_leastFreeSlot 3 = .ok (.iconst 4, 1) := by decide +kernel
theorem dX3_leastFreeSlot_4 : decode cX3_leastFreeSlot 4 = .ok (.if_icmp .ge 17, 3) := by decide +kernel
theorem dX3_leastFreeSlot_7 : decode cX3_leastFreeSlot 7 = .ok (.aload_n 0, 1) := by decide +kernel
theorem dX3_leastFreeSlot_8 : decode cX3_leastFreeSlot 8 = .ok (.iload_n 1, 1) := by decide +kernel
theorem dX3_leastFreeSlot_9 : decode cX3_leastFreeSlot 9 = .ok (.invokevirtual 54, 3) := by decide +kernel
theorem dX3_leastFreeSlot_12 : decode cX3_leastFreeSlot 12 = .ok (.ifCond .eq 9, 3) := by decide +kernel
theorem dX3_leastFreeSlot_15 : decode cX3_leastFreeSlot 15 = .ok (.iinc 1 1, 3) := by decide +kernel
theorem dX3_leastFreeSlot_18 : decode cX3_leastFreeSlot 18 = .ok (.goto (-16), 3) := by decide +kernel
theorem dX3_leastFreeSlot_21 : decode cX3_leastFreeSlot 21 = .ok (.iload_n 1, 1) := by decide +kernel
theorem dX3_leastFreeSlot_22 : decode cX3_leastFreeSlot 22 = .ok (.ireturn, 1) := by decide +kernel
theorem dX3_plainWord_0 : decode cX3_plainWord 0 = .ok (.aload_n 0, 1) := by decide +kernel
theorem dX3_plainWord_1 : decode cX3_plainWord 1 = .ok (.getfield 10, 3) := by decide +kernel
theorem dX3_plainWord_4 : decode cX3_plainWord 4 = .ok (.iload_n 1, 1) := by decide +kernel
theorem dX3_plainWord_5 : decode cX3_plainWord 5 = .ok (.invokestatic 97, 3) := by decide +kernel
theorem dX3_plainWord_8 : decode cX3_plainWord 8 = .ok (.iload_n 2, 1) := by decide +kernel
theorem dX3_plainWord_9 : decode cX3_plainWord 9 = .ok (.iadd, 1) := by decide +kernel
theorem dX3_plainWord_10 : decode cX3_plainWord 10 = .ok (.invokevirtual 43, 3) := by decide +kernel
theorem dX3_plainWord_13 : decode cX3_plainWord 13 = .ok (.istore_n 3, 1) := by decide +kernel
theorem dX3_plainWord_14 : decode cX3_plainWord 14 = .ok (.aload_n 0, 1) := by decide +kernel
theorem dX3_plainWord_15 : decode cX3_plainWord 15 = .ok (.getfield 85, 3) := by decide +kernel
theorem dX3_plainWord_18 : decode cX3_plainWord 18 = .ok (.aload_n 0, 1) := by decide +kernel
theorem dX3_plainWord_19 : decode cX3_plainWord 19 = .ok (.getfield 88, 3) := by decide +kernel
theorem dX3_plainWord_22 : decode cX3_plainWord 22 = .ok (.iload_n 1, 1) := by decide +kernel
theorem dX3_plainWord_23 : decode cX3_plainWord 23 = .ok (.iload_n 2, 1) := by decide +kernel
theorem dX3_plainWord_24 : decode cX3_plainWord 24 = .ok (.iload_n 3, 1) := by decide +kernel
theorem dX3_plainWord_25 : decode cX3_plainWord 25 = .ok (.invokestatic 146, 3) := by decide +kernel
theorem dX3_plainWord_28 : decode cX3_plainWord 28 = .ok (.ireturn, 1) := by decide +kernel
theorem dX3_slotPlace_0 : decode cX3_slotPlace 0 = .ok (.iconst 4, 1) := by decide +kernel
theorem dX3_slotPlace_1 : decode cX3_slotPlace 1 = .ok (.bipush 8, 2) := by decide +kernel
theorem dX3_slotPlace_3 : decode cX3_slotPlace 3 = .ok (.iload_n 0, 1) := by decide +kernel
theorem dX3_slotPlace_4 : decode cX3_slotPlace 4 = .ok (.imul, 1) := by decide +kernel
theorem dX3_slotPlace_5 : decode cX3_slotPlace 5 = .ok (.iadd, 1) := by decide +kernel
theorem dX3_slotPlace_6 : decode cX3_slotPlace 6 = .ok (.ireturn, 1) := by decide +kernel
theorem dX3_sectorPlace_0 : decode cX3_sectorPlace 0 = .ok (.bipush 48, 2) := by decide +kernel
theorem dX3_sectorPlace_2 : decode cX3_sectorPlace 2 = .ok (.iconst 4, 1) := by decide +kernel
theorem dX3_sectorPlace_3 : decode cX3_sectorPlace 3 = .ok (.iload_n 0, 1) := by decide +kernel
theorem dX3_sectorPlace_4 : decode cX3_sectorPlace 4 = .ok (.imul, 1) := by decide +kernel
theorem dX3_sectorPlace_5 : decode cX3_sectorPlace 5 = .ok (.iadd, 1) := by decide +kernel
theorem dX3_sectorPlace_6 : decode cX3_sectorPlace 6 = .ok (.ireturn, 1) := by decide +kernel
end
section
theorem dX4_init_0 : decode cX4_init 0 = .ok (.aload_n 0, 1) := by decide +kernel
theorem dX4_init_1 : decode cX4_init 1 = .ok (.invokespecial 1, 3) := by decide +kernel
theorem dX4_init_4 : decode cX4_init 4 = .ok (.aload_n 0, 1) := by decide +kernel
theorem dX4_init_5 : decode cX4_init 5 = .ok (.bipush 80, 2) := by decide +kernel
theorem dX4_init_7 : decode cX4_init 7 = .ok (.newarray .int, 2) := by decide +kernel
theorem dX4_init_9 : decode cX4_init 9 = .ok (.putfield 7, 3) := by decide +kernel
theorem dX4_init_12 : decode cX4_init 12 = .ok (.aload_n 0, 1) := by decide +kernel
theorem dX4_init_13 : decode cX4_init 13 = .ok (.iconst (-1), 1) := by decide +kernel
theorem dX4_init_14 : decode cX4_init 14 = .ok (.putfield 13, 3) := by decide +kernel
theorem dX4_init_17 : decode cX4_init 17 = .ok (.aload_n 0, 1) := by decide +kernel
theorem dX4_init_18 : decode cX4_init 18 = .ok (.bipush 100, 2) := by decide +kernel
theorem dX4_init_20 : decode cX4_init 20 = .ok (.newarray .int, 2) := by decide +kernel
theorem dX4_init_22 : decode cX4_init 22 = .ok (.putfield 17, 3) := by decide +kernel
theorem dX4_init_25 : decode cX4_init 25 = .ok (.aload_n 0, 1) := by decide +kernel
theorem dX4_init_26 : decode cX4_init 26 = .ok (.bipush 100, 2) := by decide +kernel
theorem dX4_init_28 : decode cX4_init 28 = .ok (.newarray .int, 2) := by decide +kernel
theorem dX4_init_30 : decode cX4_init 30 = .ok (.putfield 20, 3) := by decide +kernel
theorem dX4_init_33 : decode cX4_init 33 = .ok (.aload_n 0, 1) := by decide +kernel
theorem dX4_init_34 : decode cX4_init 34 = .ok (.bipush 80, 2) := by decide +kernel
theorem dX4_init_36 : decode cX4_init 36 = .ok (.newarray .int, 2) := by decide +kernel
theorem dX4_init_38 : decode cX4_init 38 = .ok (.putfield 23, 3) := by decide +kernel
theorem dX4_init_41 : decode cX4_init 41 = .ok (.aload_n 0, 1) := by decide +kernel
theorem dX4_init_42 : decode cX4_init 42 = .ok (.bipush 8, 2) := by decide +kernel
theorem dX4_init_44 : decode cX4_init 44 = .ok (.newarray .int, 2) := by decide +kernel
theorem dX4_init_46 : decode cX4_init 46 = .ok (.putfield 26, 3) := by decide +kernel
theorem dX4_init_49 : decode cX4_init 49 = .ok (.aload_n 0, 1) := by decide +kernel
theorem dX4_init_50 : decode cX4_init 50 = .ok (.bipush 6, 2) := by decide +kernel
theorem dX4_init_52 : decode cX4_init 52 = .ok (.newarray .int, 2) := by decide +kernel
theorem dX4_init_54 : decode cX4_init 54 = .ok (.putfield 29, 3) := by decide +kernel
theorem dX4_init_57 : decode cX4_init 57 = .ok (.return_, 1) := by decide +kernel
theorem dX4_h_0 : decode cX4_h 0 = .ok (.iload_n 0, 1) := by decide +kernel
theorem dX4_h_1 : decode cX4_h 1 = .ok (.ldc 32, 2) := by decide +kernel
theorem dX4_h_3 : decode cX4_h 3 = .ok (.ixor, 1) := by decide +kernel
theorem dX4_h_4 : decode cX4_h 4 = .ok (.ldc 33, 2) := by decide +kernel
theorem dX4_h_6 : decode cX4_h 6 = .ok (.imul, 1) := by decide +kernel
theorem dX4_h_7 : decode cX4_h 7 = .ok (.iload_n 1, 1) := by decide +kernel
theorem dX4_h_8 : decode cX4_h 8 = .ok (.iadd, 1) := by decide +kernel
theorem dX4_h_9 : decode cX4_h 9 = .ok (.istore_n 2, 1) := by decide +kernel
theorem dX4_h_10 : decode cX4_h 10 = .ok (.iload_n 2, 1) := by decide +kernel
theorem dX4_h_11 : decode cX4_h 11 = .ok (.iload_n 2, 1) := by decide +kernel
theorem dX4_h_12 : decode cX4_h 12 = .ok (.bipush 15, 2) := by decide +kernel
theorem dX4_h_14 : decode cX4_h 14 = .ok (.iushr, 1) := by decide +kernel
theorem dX4_h_15 : decode cX4_h 15 = .ok (.ixor, 1) := by decide +kernel
theorem dX4_h_16 : decode cX4_h 16 = .ok (.istore_n 2, 1) := by decide +kernel
theorem dX4_h_17 : decode cX4_h 17 = .ok (.iload_n 2, 1) := by decide +kernel
theorem dX4_h_18 : decode cX4_h 18 = .ok (.ldc 34, 2) := by decide +kernel
theorem dX4_h_20 : decode cX4_h 20 = .ok (.imul, 1) := by decide +kernel
theorem dX4_h_21 : decode cX4_h 21 = .ok (.istore_n 2, 1) := by decide +kernel
theorem dX4_h_22 : decode cX4_h 22 = .ok (.iload_n 2, 1) := by decide +kernel
theorem dX4_h_23 : decode cX4_h 23 = .ok (.iload_n 2, 1) := by decide +kernel
theorem dX4_h_24 : decode cX4_h 24 = .ok (.bipush 13, 2) := by decide +kernel
theorem dX4_h_26 : decode cX4_h 26 = .ok (.iushr, 1) := by decide +kernel
theorem dX4_h_27 : decode cX4_h 27 = .ok (.ixor, 1) := by decide +kernel
theorem dX4_h_28 : decode cX4_h 28 = .ok (.ireturn, 1) := by decide +kernel
theorem dX4_round_0 : decode cX4_round 0 = .ok (.iload_n 0, 1) := by decide +kernel
theorem dX4_round_1 : decode cX4_round 1 = .ok (.iload_n 1, 1) := by decide +kernel
theorem dX4_round_2 : decode cX4_round 2 = .ok (.invokestatic 35, 3) := by decide +kernel
theorem dX4_round_5 : decode cX4_round 5 = .ok (.istore_n 3, 1) := by decide +kernel
theorem dX4_round_6 : decode cX4_round 6 = .ok (.iload_n 3, 1) := by decide +kernel
theorem dX4_round_7 : decode cX4_round 7 = .ok (.iload_n 2, 1) := by decide +kernel
theorem dX4_round_8 : decode cX4_round 8 = .ok (.invokestatic 35, 3) := by decide +kernel
theorem dX4_round_11 : decode cX4_round 11 = .ok (.ldc 39, 2) := by decide +kernel
theorem dX4_round_13 : decode cX4_round 13 = .ok (.iand, 1) := by decide +kernel
theorem dX4_round_14 : decode cX4_round 14 = .ok (.ireturn, 1) := by decide +kernel
theorem dX4_enc_0 : decode cX4_enc 0 = .ok (.iload_n 1, 1) := by decide +kernel
theorem dX4_enc_1 : decode cX4_enc 1 = .ok (.bipush 16, 2) := by decide +kernel
theorem dX4_enc_3 : decode cX4_enc 3 = .ok (.iushr, 1) := by decide +kernel
theorem dX4_enc_4 : decode cX4_enc 4 = .ok (.istore_n 2, 1) := by decide +kernel
theorem dX4_enc_5 : decode cX4_enc 5 = .ok (.iload_n 1, 1) := by decide +kernel
theorem dX4_enc_6 : decode cX4_enc 6 = .ok (.ldc 39, 2) := by decide +kernel
theorem dX4_enc_8 : decode cX4_enc 8 = .ok (.iand, 1) := by decide +kernel
theorem dX4_enc_9 : decode cX4_enc 9 = .ok (.istore_n 3, 1) := by decide +kernel
theorem dX4_enc_10 : decode cX4_enc 10 = .ok (.iconst 0, 1) := by decide +kernel
theorem dX4_enc_11 : decode cX4_enc 11 = .ok (.istore 4, 2) := by decide +kernel
theorem dX4_enc_13 : decode cX4_enc 13 = .ok (.iload 4, 2) := by decide +kernel
theorem dX4_enc_15 : decode cX4_enc 15 = .ok (.iconst 4, 1) := by decide +kernel
theorem dX4_enc_16 : decode cX4_enc 16 = .ok (.if_icmp .ge 25, 3) := by decide +kernel
theorem dX4_enc_19 : decode cX4_enc 19 = .ok (.iload_n 2, 1) := by decide +kernel
theorem dX4_enc_20 : decode cX4_enc 20 = .ok (.iload_n 0, 1) := by decide +kernel
theorem dX4_enc_21 : decode cX4_enc 21 = .ok (.iload 4, 2) := by decide +kernel
theorem dX4_enc_23 : decode cX4_enc 23 = .ok (.iload_n 3, 1) := by decide +kernel
theorem dX4_enc_24 : decode cX4_enc 24 = .ok (.invokestatic 40, 3) := by decide +kernel
theorem dX4_enc_27 : decode cX4_enc 27 = .ok (.ixor, 1) := by decide +kernel
theorem dX4_enc_28 : decode cX4_enc 28 = .ok (.istore 5, 2) := by decide +kernel
theorem dX4_enc_30 : decode cX4_enc 30 = .ok (.iload_n 3, 1) := by decide +kernel
theorem dX4_enc_31 : decode cX4_enc 31 = .ok (.istore_n 2, 1) := by decide +kernel
theorem dX4_enc_32 : decode cX4_enc 32 = .ok (.iload 5, 2) := by decide +kernel
theorem dX4_enc_34 : decode cX4_enc 34 = .ok (.istore_n 3, 1) := by decide +kernel
theorem dX4_enc_35 : decode cX4_enc 35 = .ok (.iinc 4 1, 3) := by decide +kernel
theorem dX4_enc_38 : decode cX4_enc 38 = .ok (.goto (-25), 3) := by decide +kernel
theorem dX4_enc_41 : decode cX4_enc 41 = .ok (.iload_n 2, 1) := by decide +kernel
theorem dX4_enc_42 : decode cX4_enc 42 = .ok (.bipush 16, 2) := by decide +kernel
theorem dX4_enc_44 : decode cX4_enc 44 = .ok (.ishl, 1) := by decide +kernel
theorem dX4_enc_45 : decode cX4_enc 45 = .ok (.iload_n 3, 1) := by decide +kernel
theorem dX4_enc_46 : decode cX4_enc 46 = .ok (.ior, 1) := by decide +kernel
theorem dX4_enc_47 : decode cX4_enc 47 = .ok (.ireturn, 1) := by decide +kernel
theorem dX4_dec_0 : decode cX4_dec 0 = .ok (.iload_n 1, 1) := by decide +kernel
theorem dX4_dec_1 : decode cX4_dec 1 = .ok (.bipush 16, 2) := by decide +kernel
theorem dX4_dec_3 : decode cX4_dec 3 = .ok (.iushr, 1) := by decide +kernel
theorem dX4_dec_4 : decode cX4_dec 4 = .ok (.istore_n 2, 1) := by decide +kernel
theorem dX4_dec_5 : decode cX4_dec 5 = .ok (.iload_n 1, 1) := by decide +kernel
theorem dX4_dec_6 : decode cX4_dec 6 = .ok (.ldc 39, 2) := by decide +kernel
theorem dX4_dec_8 : decode cX4_dec 8 = .ok (.iand, 1) := by decide +kernel
theorem dX4_dec_9 : decode cX4_dec 9 = .ok (.istore_n 3, 1) := by decide +kernel
theorem dX4_dec_10 : decode cX4_dec 10 = .ok (.iconst 3, 1) := by decide +kernel
theorem dX4_dec_11 : decode cX4_dec 11 = .ok (.istore 4, 2) := by decide +kernel
theorem dX4_dec_13 : decode cX4_dec 13 = .ok (.iload 4, 2) := by decide +kernel
theorem dX4_dec_15 : decode cX4_dec 15 = .ok (.ifCond .lt 25, 3) := by decide +kernel
theorem dX4_dec_18 : decode cX4_dec 18 = .ok (.iload_n 3, 1) := by decide +kernel
theorem dX4_dec_19 : decode cX4_dec 19 = .ok (.iload_n 0, 1) := by decide +kernel
theorem dX4_dec_20 : decode cX4_dec 20 = .ok (.iload 4, 2) := by decide +kernel
theorem dX4_dec_22 : decode cX4_dec 22 = .ok (.iload_n 2, 1) := by decide +kernel
theorem dX4_dec_23 : decode cX4_dec 23 = .ok (.invokestatic 40, 3) := by decide +kernel
theorem dX4_dec_26 : decode cX4_dec 26 = .ok (.ixor, 1) := by decide +kernel
theorem dX4_dec_27 : decode cX4_dec 27 = .ok (.istore 5, 2) := by decide +kernel
theorem dX4_dec_29 : decode cX4_dec 29 = .ok (.iload_n 2, 1) := by decide +kernel
theorem dX4_dec_30 : decode cX4_dec 30 = .ok (.istore_n 3, 1) := by decide +kernel
theorem dX4_dec_31 : decode cX4_dec 31 = .ok (.iload 5, 2) := by decide +kernel
theorem dX4_dec_33 : decode cX4_dec 33 = .ok (.istore_n 2, 1) := by decide +kernel
theorem dX4_dec_34 : decode cX4_dec 34 = .ok (.iinc 4 (-1), 3) := by decide +kernel
theorem dX4_dec_37 : decode cX4_dec 37 = .ok (.goto (-24), 3) := by decide +kernel
theorem dX4_dec_40 : decode cX4_dec 40 = .ok (.iload_n 2, 1) := by decide +kernel
theorem dX4_dec_41 : decode cX4_dec 41 = .ok (.bipush 16, 2) := by decide +kernel
theorem dX4_dec_43 : decode cX4_dec 43 = .ok (.ishl, 1) := by decide +kernel
theorem dX4_dec_44 : decode cX4_dec 44 = .ok (.iload_n 3, 1) := by decide +kernel
theorem dX4_dec_45 : decode cX4_dec 45 = .ok (.ior, 1) := by decide +kernel
theorem dX4_dec_46 : decode cX4_dec 46 = .ok (.ireturn, 1) := by decide +kernel
theorem dX4_slotKey_0 : decode cX4_slotKey 0 = .ok (.iload_n 0, 1) := by decide +kernel
theorem dX4_slotKey_1 : decode cX4_slotKey 1 = .ok (.iload_n 1, 1) := by decide +kernel
theorem dX4_slotKey_2 : decode cX4_slotKey 2 = .ok (.invokestatic 35, 3) := by decide +kernel
theorem dX4_slotKey_5 : decode cX4_slotKey 5 = .ok (.istore_n 3, 1) := by decide +kernel
theorem dX4_slotKey_6 : decode cX4_slotKey 6 = .ok (.iload_n 3, 1) := by decide +kernel
theorem dX4_slotKey_7 : decode cX4_slotKey 7 = .ok (.iload_n 2, 1) := by decide +kernel
theorem dX4_slotKey_8 : decode cX4_slotKey 8 = .ok (.invokestatic 35, 3) := by decide +kernel
theorem dX4_slotKey_11 : decode cX4_slotKey 11 = .ok (.istore_n 3, 1) := by decide +kernel
theorem dX4_slotKey_12 : decode cX4_slotKey 12 = .ok (.iload_n 3, 1) := by decide +kernel
theorem dX4_slotKey_13 : decode cX4_slotKey 13 = .ok (.istore 4, 2) := by decide +kernel
theorem dX4_slotKey_15 : decode cX4_slotKey 15 = .ok (.iconst 0, 1) := by decide +kernel
theorem dX4_slotKey_16 : decode cX4_slotKey 16 = .ok (.istore 5, 2) := by decide +kernel
theorem dX4_slotKey_18 : decode cX4_slotKey 18 = .ok (.iload 5, 2) := by decide +kernel
theorem dX4_slotKey_20 : decode cX4_slotKey 20 = .ok (.bipush 7, 2) := by decide +kernel
theorem dX4_slotKey_22 : decode cX4_slotKey 22 = .ok (.if_icmp .ge 21, 3) := by decide +kernel
theorem dX4_slotKey_25 : decode cX4_slotKey 25 = .ok (.iload_n 0, 1) := by decide +kernel
theorem dX4_slotKey_26 : decode cX4_slotKey 26 = .ok (.iload_n 3, 1) := by decide +kernel
theorem dX4_slotKey_27 : decode cX4_slotKey 27 = .ok (.invokestatic 35, 3) := by decide +kernel
theorem dX4_slotKey_30 : decode cX4_slotKey 30 = .ok (.istore_n 3, 1) := by decide +kernel
theorem dX4_slotKey_31 : decode cX4_slotKey 31 = .ok (.iload 4, 2) := by decide +kernel
theorem dX4_slotKey_33 : decode cX4_slotKey 33 = .ok (.iload_n 3, 1) := by decide +kernel
theorem dX4_slotKey_34 : decode cX4_slotKey 34 = .ok (.ixor, 1) := by decide +kernel
theorem dX4_slotKey_35 : decode cX4_slotKey 35 = .ok (.istore 4, 2) := by decide +kernel
theorem dX4_slotKey_37 : decode cX4_slotKey 37 = .ok (.iinc 5 1, 3) := by decide +kernel
theorem dX4_slotKey_40 : decode cX4_slotKey 40 = .ok (.goto (-22), 3) := by decide +kernel
theorem dX4_slotKey_43 : decode cX4_slotKey 43 = .ok (.iload 4, 2) := by decide +kernel
theorem dX4_slotKey_45 : decode cX4_slotKey 45 = .ok (.ireturn, 1) := by decide +kernel
theorem dX4_mask_0 : decode cX4_mask 0 = .ok (.iload_n 0, 1) := by decide +kernel
theorem dX4_mask_1 : decode cX4_mask 1 = .ok (.iload_n 1, 1) := by decide +kernel
theorem dX4_mask_2 : decode cX4_mask 2 = .ok (.invokestatic 44, 3) := by decide +kernel
theorem dX4_mask_5 : decode cX4_mask 5 = .ok (.istore_n 3, 1) := by decide +kernel
theorem dX4_mask_6 : decode cX4_mask 6 = .ok (.iconst 0, 1) := by decide +kernel
theorem dX4_mask_7 : decode cX4_mask 7 = .ok (.istore 4, 2) := by decide +kernel
theorem dX4_mask_9 : decode cX4_mask 9 = .ok (.iload 4, 2) := by decide +kernel
theorem dX4_mask_11 : decode cX4_mask 11 = .ok (.iload_n 2, 1) := by decide +kernel
theorem dX4_mask_12 : decode cX4_mask 12 = .ok (.if_icmp .ge 25, 3) := by decide +kernel
theorem dX4_mask_15 : decode cX4_mask 15 = .ok (.iload_n 3, 1) := by decide +kernel
theorem dX4_mask_16 : decode cX4_mask 16 = .ok (.iconst 1, 1) := by decide +kernel
theorem dX4_mask_17 : decode cX4_mask 17 = .ok (.ishl, 1) := by decide +kernel
theorem dX4_mask_18 : decode cX4_mask 18 = .ok (.iload_n 3, 1) := by decide +kernel
theorem dX4_mask_19 : decode cX4_mask 19 = .ok (.ifCond .ge 9, 3) := by decide +kernel
theorem dX4_mask_22 : decode cX4_mask 22 = .ok (.sipush 141, 3) := by decide +kernel
theorem dX4_mask_25 : decode cX4_mask 25 = .ok (.goto 4, 3) := by decide +kernel
theorem dX4_mask_28 : decode cX4_mask 28 = .ok (.iconst 0, 1) := by decide +kernel
theorem dX4_mask_29 : decode cX4_mask 29 = .ok (.ixor, 1) := by decide +kernel
theorem dX4_mask_30 : decode cX4_mask 30 = .ok (.istore_n 3, 1) := by decide +kernel
theorem dX4_mask_31 : decode cX4_mask 31 = .ok (.iinc 4 1, 3) := by decide +kernel
theorem dX4_mask_34 : decode cX4_mask 34 = .ok (.goto (-25), 3) := by decide +kernel
theorem dX4_mask_37 : decode cX4_mask 37 = .ok (.iload_n 3, 1) := by decide +kernel
theorem dX4_mask_38 : decode cX4_mask 38 = .ok (.ireturn, 1) := by decide +kernel
theorem dX4_hide_0 : decode cX4_hide 0 = .ok (.iload_n 1, 1) := by decide +kernel
theorem dX4_hide_1 : decode cX4_hide 1 = .ok (.iload_n 2, 1) := by decide +kernel
theorem dX4_hide_2 : decode cX4_hide 2 = .ok (.iload_n 3, 1) := by decide +kernel
theorem dX4_hide_3 : decode cX4_hide 3 = .ok (.invokestatic 47, 3) := by decide +kernel
theorem dX4_hide_6 : decode cX4_hide 6 = .ok (.istore 5, 2) := by decide +kernel
theorem dX4_hide_8 : decode cX4_hide 8 = .ok (.iload_n 0, 1) := by decide +kernel
theorem dX4_hide_9 : decode cX4_hide 9 = .ok (.iload 4, 2) := by decide +kernel
theorem dX4_hide_11 : decode cX4_hide 11 = .ok (.iload 5, 2) := by decide +kernel
theorem dX4_hide_13 : decode cX4_hide 13 = .ok (.ixor, 1) := by decide +kernel
theorem dX4_hide_14 : decode cX4_hide 14 = .ok (.invokestatic 44, 3) := by decide +kernel
theorem dX4_hide_17 : decode cX4_hide 17 = .ok (.iload 5, 2) := by decide +kernel
theorem dX4_hide_19 : decode cX4_hide 19 = .ok (.ixor, 1) := by decide +kernel
theorem dX4_hide_20 : decode cX4_hide 20 = .ok (.ireturn, 1) := by decide +kernel
theorem dX4_show_0 : decode cX4_show 0 = .ok (.iload_n 1, 1) := by decide +kernel
theorem dX4_show_1 : decode cX4_show 1 = .ok (.iload_n 2, 1) := by decide +kernel
theorem dX4_show_2 : decode cX4_show 2 = .ok (.iload_n 3, 1) := by decide +kernel
theorem dX4_show_3 : decode cX4_show 3 = .ok (.invokestatic 47, 3) := by decide +kernel
theorem dX4_show_6 : decode cX4_show 6 = .ok (.istore 5, 2) := by decide +kernel
theorem dX4_show_8 : decode cX4_show 8 = .ok (.iload_n 0, 1) := by decide +kernel
theorem dX4_show_9 : decode cX4_show 9 = .ok (.iload 4, 2) := by decide +kernel
theorem dX4_show_11 : decode cX4_show 11 = .ok (.iload 5, 2) := by decide +kernel
theorem dX4_show_13 : decode cX4_show 13 = .ok (.ixor, 1) := by decide +kernel
theorem dX4_show_14 : decode cX4_show 14 = .ok (.invokestatic 50, 3) := by decide +kernel
theorem dX4_show_17 : decode cX4_show 17 = .ok (.iload 5, 2) := by decide +kernel
theorem dX4_show_19 : decode cX4_show 19 = .ok (.ixor, 1) := by decide +kernel
theorem dX4_show_20 : decode cX4_show 20 = .ok (.ireturn, 1) := by decide +kernel
theorem dX4_digest_0 : decode cX4_digest 0 = .ok (.iload_n 0, 1) := by decide +kernel
theorem dX4_digest_1 : decode cX4_digest 1 = .ok (.iload_n 2, 1) := by decide +kernel
theorem dX4_digest_2 : decode cX4_digest 2 = .ok (.invokestatic 35, 3) := by decide +kernel
theorem dX4_digest_5 : decode cX4_digest 5 = .ok (.istore_n 3, 1) := by decide +kernel
theorem dX4_digest_6 : decode cX4_digest 6 = .ok (.iload_n 3, 1) := by decide +kernel
theorem dX4_digest_7 : decode cX4_digest 7 = .ok (.iload_n 1, 1) := by decide +kernel
theorem dX4_digest_8 : decode cX4_digest 8 = .ok (.invokestatic 35, 3) := by decide +kernel
theorem dX4_digest_11 : decode cX4_digest 11 = .ok (.ireturn, 1) := by decide +kernel
theorem dX4_cover_0 : decode cX4_cover 0 = .ok (.aload_n 0, 1) := by decide +kernel
theorem dX4_cover_1 : decode cX4_cover 1 = .ok (.getfield 29, 3) := by decide +kernel
theorem dX4_cover_4 : decode cX4_cover 4 = .ok (.iload_n 1, 1) := by decide +kernel
theorem dX4_cover_5 : decode cX4_cover 5 = .ok (.iaload, 1) := by decide +kernel
theorem dX4_cover_6 : decode cX4_cover 6 = .ok (.iload_n 1, 1) := by decide +kernel
theorem dX4_cover_7 : decode cX4_cover 7 = .ok (.iconst 1, 1) := by decide +kernel
theorem dX4_cover_8 : decode cX4_cover 8 = .ok (.iadd, 1) := by decide +kernel
theorem dX4_cover_9 : decode cX4_cover 9 = .ok (.invokestatic 35, 3) := by decide +kernel
theorem dX4_cover_12 : decode cX4_cover 12 = .ok (.istore_n 2, 1) := by decide +kernel
theorem dX4_cover_13 : decode cX4_cover 13 = .ok (.iload_n 2, 1) := by decide +kernel
theorem dX4_cover_14 : decode cX4_cover 14 = .ok (.aload_n 0, 1) := by decide +kernel
theorem dX4_cover_15 : decode cX4_cover 15 = .ok (.getfield 29, 3) := by decide +kernel
theorem dX4_cover_18 : decode cX4_cover 18 = .ok (.iload_n 1, 1) := by decide +kernel
theorem dX4_cover_19 : decode cX4_cover 19 = .ok (.iconst 2, 1) := by decide +kernel
theorem dX4_cover_20 : decode cX4_cover 20 = .ok (.iadd, 1) := by decide +kernel
theorem dX4_cover_21 : decode cX4_cover 21 = .ok (.iaload, 1) := by decide +kernel
theorem dX4_cover_22 : decode cX4_cover 22 = .ok (.ixor, 1) := by decide +kernel
theorem dX4_cover_23 : decode cX4_cover 23 = .ok (.iload_n 1, 1) := by decide +kernel
theorem dX4_cover_24 : decode cX4_cover 24 = .ok (.iconst 1, 1) := by decide +kernel
theorem dX4_cover_25 : decode cX4_cover 25 = .ok (.iadd, 1) := by decide +kernel
theorem dX4_cover_26 : decode cX4_cover 26 = .ok (.invokestatic 35, 3) := by decide +kernel
theorem dX4_cover_29 : decode cX4_cover 29 = .ok (.ireturn, 1) := by decide +kernel
theorem dX4_makeSlot_0 : decode cX4_makeSlot 0 = .ok (.iconst 0, 1) := by decide +kernel
theorem dX4_makeSlot_1 : decode cX4_makeSlot 1 = .ok (.istore 5, 2) := by decide +kernel
theorem dX4_makeSlot_3 : decode cX4_makeSlot 3 = .ok (.iload 5, 2) := by decide +kernel
theorem dX4_makeSlot_5 : decode cX4_makeSlot 5 = .ok (.iconst 4, 1) := by decide +kernel
theorem dX4_makeSlot_6 : decode cX4_makeSlot 6 = .ok (.if_icmp .ge 24, 3) := by decide +kernel
theorem dX4_makeSlot_9 : decode cX4_makeSlot 9 = .ok (.aload_n 0, 1) := by decide +kernel
theorem dX4_makeSlot_10 : decode cX4_makeSlot 10 = .ok (.getfield 29, 3) := by decide +kernel
theorem dX4_makeSlot_13 : decode cX4_makeSlot 13 = .ok (.iload 5, 2) := by decide +kernel
theorem dX4_makeSlot_15 : decode cX4_makeSlot 15 = .ok (.iload_n 2, 1) := by decide +kernel
theorem dX4_makeSlot_16 : decode cX4_makeSlot 16 = .ok (.iload 5, 2) := by decide +kernel
theorem dX4_makeSlot_18 : decode cX4_makeSlot 18 = .ok (.iconst 1, 1) := by decide +kernel
theorem dX4_makeSlot_19 : decode cX4_makeSlot 19 = .ok (.iadd, 1) := by decide +kernel
theorem dX4_makeSlot_20 : decode cX4_makeSlot 20 = .ok (.invokestatic 35, 3) := by decide +kernel
theorem dX4_makeSlot_23 : decode cX4_makeSlot 23 = .ok (.iastore, 1) := by decide +kernel
theorem dX4_makeSlot_24 : decode cX4_makeSlot 24 = .ok (.iinc 5 1, 3) := by decide +kernel
theorem dX4_makeSlot_27 : decode cX4_makeSlot 27 = .ok (.goto (-24), 3) := by decide +kernel
theorem dX4_makeSlot_30 : decode cX4_makeSlot 30 = .ok (.aload_n 0, 1) := by decide +kernel
theorem dX4_makeSlot_31 : decode cX4_makeSlot 31 = .ok (.getfield 29, 3) := by decide +kernel
theorem dX4_makeSlot_34 : decode cX4_makeSlot 34 = .ok (.iconst 4, 1) := by decide +kernel
theorem dX4_makeSlot_35 : decode cX4_makeSlot 35 = .ok (.aload_n 0, 1) := by decide +kernel
theorem dX4_makeSlot_36 : decode cX4_makeSlot 36 = .ok (.iconst 0, 1) := by decide +kernel
theorem dX4_makeSlot_37 : decode cX4_makeSlot 37 = .ok (.invokevirtual 53, 3) := by decide +kernel
theorem dX4_makeSlot_40 : decode cX4_makeSlot 40 = .ok (.iload_n 3, 1) := by decide +kernel
theorem dX4_makeSlot_41 : decode cX4_makeSlot 41 = .ok (.ixor, 1) := by decide +kernel
theorem dX4_makeSlot_42 : decode cX4_makeSlot 42 = .ok (.iastore, 1) := by decide +kernel
theorem dX4_makeSlot_43 : decode cX4_makeSlot 43 = .ok (.aload_n 0, 1) := by decide +kernel
theorem dX4_makeSlot_44 : decode cX4_makeSlot 44 = .ok (.getfield 29, 3) := by decide +kernel
theorem dX4_makeSlot_47 : decode cX4_makeSlot 47 = .ok (.iconst 5, 1) := by decide +kernel
theorem dX4_makeSlot_48 : decode cX4_makeSlot 48 = .ok (.aload_n 0, 1) := by decide +kernel
theorem dX4_makeSlot_49 : decode cX4_makeSlot 49 = .ok (.iconst 1, 1) := by decide +kernel
theorem dX4_makeSlot_50 : decode cX4_makeSlot 50 = .ok (.invokevirtual 53, 3) := by decide +kernel
theorem dX4_makeSlot_53 : decode cX4_makeSlot 53 = .ok (.iload 4, 2) := by decide +kernel
theorem dX4_makeSlot_55 : decode cX4_makeSlot 55 = .ok (.ixor, 1) := by decide +kernel
theorem dX4_makeSlot_56 : decode cX4_makeSlot 56 = .ok (.iastore, 1) := by decide +kernel
theorem dX4_makeSlot_57 : decode cX4_makeSlot 57 = .ok (.iload_n 2, 1) := by decide +kernel
theorem dX4_makeSlot_58 : decode cX4_makeSlot 58 = .ok (.iconst 0, 1) := by decide +kernel
theorem dX4_makeSlot_59 : decode cX4_makeSlot 59 = .ok (.invokestatic 35, 3) := by decide +kernel
theorem dX4_makeSlot_62 : decode cX4_makeSlot 62 = .ok (.istore 5, 2) := by decide +kernel
theorem dX4_makeSlot_64 : decode cX4_makeSlot 64 = .ok (.aload_n 0, 1) := by decide +kernel
theorem dX4_makeSlot_65 : decode cX4_makeSlot 65 = .ok (.getfield 26, 3) := by decide +kernel
theorem dX4_makeSlot_68 : decode cX4_makeSlot 68 = .ok (.iconst 0, 1) := by decide +kernel
theorem dX4_makeSlot_69 : decode cX4_makeSlot 69 = .ok (.iconst 1, 1) := by decide +kernel
theorem dX4_makeSlot_70 : decode cX4_makeSlot 70 = .ok (.iastore, 1) := by decide +kernel
theorem dX4_makeSlot_71 : decode cX4_makeSlot 71 = .ok (.aload_n 0, 1) := by decide +kernel
theorem dX4_makeSlot_72 : decode cX4_makeSlot 72 = .ok (.getfield 26, 3) := by decide +kernel
theorem dX4_makeSlot_75 : decode cX4_makeSlot 75 = .ok (.iconst 1, 1) := by decide +kernel
theorem dX4_makeSlot_76 : decode cX4_makeSlot 76 = .ok (.iload 5, 2) := by decide +kernel
theorem dX4_makeSlot_78 : decode cX4_makeSlot 78 = .ok (.iastore, 1) := by decide +kernel
theorem dX4_makeSlot_79 : decode cX4_makeSlot 79 = .ok (.iconst 0, 1) := by decide +kernel
theorem dX4_makeSlot_80 : decode cX4_makeSlot 80 = .ok (.istore 6, 2) := by decide +kernel
theorem dX4_makeSlot_82 : decode cX4_makeSlot 82 = .ok (.iload 6, 2) := by decide +kernel
theorem dX4_makeSlot_84 : decode cX4_makeSlot 84 = .ok (.bipush 6, 2) := by decide +kernel
theorem dX4_makeSlot_86 : decode cX4_makeSlot 86 = .ok (.if_icmp .ge 42, 3) := by decide +kernel
theorem dX4_makeSlot_89 : decode cX4_makeSlot 89 = .ok (.iload_n 1, 1) := by decide +kernel
theorem dX4_makeSlot_90 : decode cX4_makeSlot 90 = .ok (.iload 5, 2) := by decide +kernel
theorem dX4_makeSlot_92 : decode cX4_makeSlot 92 = .ok (.iload 6, 2) := by decide +kernel
theorem dX4_makeSlot_94 : decode cX4_makeSlot 94 = .ok (.iconst 2, 1) := by decide +kernel
theorem dX4_makeSlot_95 : decode cX4_makeSlot 95 = .ok (.irem, 1) := by decide +kernel
theorem dX4_makeSlot_96 : decode cX4_makeSlot 96 = .ok (.invokestatic 57, 3) := by decide +kernel
theorem dX4_makeSlot_99 : decode cX4_makeSlot 99 = .ok (.istore 7, 2) := by decide +kernel
theorem dX4_makeSlot_101 : decode cX4_makeSlot 101 = .ok (.aload_n 0, 1) := by decide +kernel
theorem dX4_makeSlot_102 : decode cX4_makeSlot 102 = .ok (.getfield 26, 3) := by decide +kernel
theorem dX4_makeSlot_105 : decode cX4_makeSlot 105 = .ok (.iconst 2, 1) := by decide +kernel
theorem dX4_makeSlot_106 : decode cX4_makeSlot 106 = .ok (.iload 6, 2) := by decide +kernel
theorem dX4_makeSlot_108 : decode cX4_makeSlot 108 = .ok (.iadd, 1) := by decide +kernel
theorem dX4_makeSlot_109 : decode cX4_makeSlot 109 = .ok (.iload 7, 2) := by decide +kernel
theorem dX4_makeSlot_111 : decode cX4_makeSlot 111 = .ok (.aload_n 0, 1) := by decide +kernel
theorem dX4_makeSlot_112 : decode cX4_makeSlot 112 = .ok (.getfield 29, 3) := by decide +kernel
theorem dX4_makeSlot_115 : decode cX4_makeSlot 115 = .ok (.iload 6, 2) := by decide +kernel
theorem dX4_makeSlot_117 : decode cX4_makeSlot 117 = .ok (.iaload, 1) := by decide +kernel
theorem dX4_makeSlot_118 : decode cX4_makeSlot 118 = .ok (.invokestatic 44, 3) := by decide +kernel
theorem dX4_makeSlot_121 : decode cX4_makeSlot 121 = .ok (.iastore, 1) := by decide +kernel
theorem dX4_makeSlot_122 : decode cX4_makeSlot 122 = .ok (.iinc 6 1, 3) := by decide +kernel
theorem dX4_makeSlot_125 : decode cX4_makeSlot 125 = .ok (.goto (-43), 3) := by decide +kernel
theorem dX4_makeSlot_128 : decode cX4_makeSlot 128 = .ok (.return_, 1) := by decide +kernel
theorem dX4_active_0 : decode cX4_active 0 = .ok (.aload_n 0, 1) := by decide +kernel
theorem dX4_active_1 : decode cX4_active 1 = .ok (.getfield 7, 3) := by decide +kernel
theorem dX4_active_4 : decode cX4_active 4 = .ok (.iconst 4, 1) := by decide +kernel
theorem dX4_active_5 : decode cX4_active 5 = .ok (.bipush 8, 2) := by decide +kernel
theorem dX4_active_7 : decode cX4_active 7 = .ok (.iload_n 1, 1) := by decide +kernel
theorem dX4_active_8 : decode cX4_active 8 = .ok (.imul, 1) := by decide +kernel
theorem dX4_active_9 : decode cX4_active 9 = .ok (.iadd, 1) := by decide +kernel
theorem dX4_active_10 : decode cX4_active 10 = .ok (.iaload, 1) := by decide +kernel
theorem dX4_active_11 : decode cX4_active 11 = .ok (.iconst 1, 1) := by decide +kernel
theorem dX4_active_12 : decode cX4_active 12 = .ok (.if_icmp .ne 7, 3) := by decide +kernel
theorem dX4_active_15 : decode cX4_active 15 = .ok (.iconst 1, 1) := by decide +kernel
theorem dX4_active_16 : decode cX4_active 16 = .ok (.goto 4, 3) := by decide +kernel
theorem dX4_active_19 : decode cX4_active 19 = .ok (.iconst 0, 1) := by decide +kernel
theorem dX4_active_20 : decode cX4_active 20 = .ok (.ireturn, 1) := by decide +kernel
theorem dX4_opens_0 : decode cX4_opens 0 = .ok (.iconst 4, 1) := by decide +kernel
theorem dX4_opens_1 : decode cX4_opens 1 = .ok (.bipush 8, 2) := by decide +kernel
theorem dX4_opens_3 : decode cX4_opens 3 = .ok (.iload_n 1, 1) := by decide +kernel
theorem dX4_opens_4 : decode cX4_opens 4 = .ok (.imul, 1) := by decide +kernel
theorem dX4_opens_5 : decode cX4_opens 5 = .ok (.iadd, 1) := by decide +kernel
theorem dX4_opens_6 : decode cX4_opens 6 = .ok (.istore_n 3, 1) := by decide +kernel
theorem dX4_opens_7 : decode cX4_opens 7 = .ok (.iconst 0, 1) := by decide +kernel
theorem dX4_opens_8 : decode cX4_opens 8 = .ok (.istore 4, 2) := by decide +kernel
theorem dX4_opens_10 : decode cX4_opens 10 = .ok (.iload 4, 2) := by decide +kernel
theorem dX4_opens_12 : decode cX4_opens 12 = .ok (.bipush 6, 2) := by decide +kernel
theorem dX4_opens_14 : decode cX4_opens 14 = .ok (.if_icmp .ge 50, 3) := by decide +kernel
theorem dX4_opens_17 : decode cX4_opens 17 = .ok (.iload_n 2, 1) := by decide +kernel
theorem dX4_opens_18 : decode cX4_opens 18 = .ok (.aload_n 0, 1) := by decide +kernel
theorem dX4_opens_19 : decode cX4_opens 19 = .ok (.getfield 7, 3) := by decide +kernel
theorem dX4_opens_22 : decode cX4_opens 22 = .ok (.iload_n 3, 1) := by decide +kernel
theorem dX4_opens_23 : decode cX4_opens 23 = .ok (.iconst 1, 1) := by decide +kernel
theorem dX4_opens_24 : decode cX4_opens 24 = .ok (.iadd, 1) := by decide +kernel
theorem dX4_opens_25 : decode cX4_opens 25 = .ok (.iaload, 1) := by decide +kernel
theorem dX4_opens_26 : decode cX4_opens 26 = .ok (.iload 4, 2) := by decide +kernel
theorem dX4_opens_28 : decode cX4_opens 28 = .ok (.iconst 2, 1) := by decide +kernel
theorem dX4_opens_29 : decode cX4_opens 29 = .ok (.irem, 1) := by decide +kernel
theorem dX4_opens_30 : decode cX4_opens 30 = .ok (.invokestatic 57, 3) := by decide +kernel
theorem dX4_opens_33 : decode cX4_opens 33 = .ok (.istore 5, 2) := by decide +kernel
theorem dX4_opens_35 : decode cX4_opens 35 = .ok (.aload_n 0, 1) := by decide +kernel
theorem dX4_opens_36 : decode cX4_opens 36 = .ok (.getfield 29, 3) := by decide +kernel
theorem dX4_opens_39 : decode cX4_opens 39 = .ok (.iload 4, 2) := by decide +kernel
theorem dX4_opens_41 : decode cX4_opens 41 = .ok (.iload 5, 2) := by decide +kernel
theorem dX4_opens_43 : decode cX4_opens 43 = .ok (.aload_n 0, 1) := by decide +kernel
theorem dX4_opens_44 : decode cX4_opens 44 = .ok (.getfield 7, 3) := by decide +kernel
theorem dX4_opens_47 : decode cX4_opens 47 = .ok (.iload_n 3, 1) := by decide +kernel
theorem dX4_opens_48 : decode cX4_opens 48 = .ok (.iconst 2, 1) := by decide +kernel
theorem dX4_opens_49 : decode cX4_opens 49 = .ok (.iadd, 1) := by decide +kernel
theorem dX4_opens_50 : decode cX4_opens 50 = .ok (.iload 4, 2) := by decide +kernel
theorem dX4_opens_52 : decode cX4_opens 52 = .ok (.iadd, 1) := by decide +kernel
theorem dX4_opens_53 : decode cX4_opens 53 = .ok (.iaload, 1) := by decide +kernel
theorem dX4_opens_54 : decode cX4_opens 54 = .ok (.invokestatic 50, 3) := by decide +kernel
theorem dX4_opens_57 : decode cX4_opens 57 = .ok (.iastore, 1) := by decide +kernel
theorem dX4_opens_58 : decode cX4_opens 58 = .ok (.iinc 4 1, 3) := by decide +kernel
theorem dX4_opens_61 : decode cX4_opens 61 = .ok (.goto (-51), 3) := by decide +kernel
theorem dX4_opens_64 : decode cX4_opens 64 = .ok (.aload_n 0, 1) := by decide +kernel
theorem dX4_opens_65 : decode cX4_opens 65 = .ok (.aload_n 0, 1) := by decide +kernel
theorem dX4_opens_66 : decode cX4_opens 66 = .ok (.iconst 0, 1) := by decide +kernel
theorem dX4_opens_67 : decode cX4_opens 67 = .ok (.invokevirtual 53, 3) := by decide +kernel
theorem dX4_opens_70 : decode cX4_opens 70 = .ok (.aload_n 0, 1) := by decide +kernel
theorem dX4_opens_71 : decode cX4_opens 71 = .ok (.getfield 29, 3) := by decide +kernel
theorem dX4_opens_74 : decode cX4_opens 74 = .ok (.iconst 4, 1) := by decide +kernel
theorem dX4_opens_75 : decode cX4_opens 75 = .ok (.iaload, 1) := by decide +kernel
theorem dX4_opens_76 : decode cX4_opens 76 = .ok (.ixor, 1) := by decide +kernel
theorem dX4_opens_77 : decode cX4_opens 77 = .ok (.putfield 60, 3) := by decide +kernel
theorem dX4_opens_80 : decode cX4_opens 80 = .ok (.aload_n 0, 1) := by decide +kernel
theorem dX4_opens_81 : decode cX4_opens 81 = .ok (.aload_n 0, 1) := by decide +kernel
theorem dX4_opens_82 : decode cX4_opens 82 = .ok (.iconst 1, 1) := by decide +kernel
theorem dX4_opens_83 : decode cX4_opens 83 = .ok (.invokevirtual 53, 3) := by decide +kernel
theorem dX4_opens_86 : decode cX4_opens 86 = .ok (.aload_n 0, 1) := by decide +kernel
theorem dX4_opens_87 : decode cX4_opens 87 = .ok (.getfield 29, 3) := by decide +kernel
theorem dX4_opens_90 : decode cX4_opens 90 = .ok (.iconst 5, 1) := by decide +kernel
theorem dX4_opens_91 : decode cX4_opens 91 = .ok (.iaload, 1) := by decide +kernel
theorem dX4_opens_92 : decode cX4_opens 92 = .ok (.ixor, 1) := by decide +kernel
theorem dX4_opens_93 : decode cX4_opens 93 = .ok (.putfield 63, 3) := by decide +kernel
theorem dX4_opens_96 : decode cX4_opens 96 = .ok (.aload_n 0, 1) := by decide +kernel
theorem dX4_opens_97 : decode cX4_opens 97 = .ok (.iload_n 1, 1) := by decide +kernel
theorem dX4_opens_98 : decode cX4_opens 98 = .ok (.invokevirtual 66, 3) := by decide +kernel
theorem dX4_opens_101 : decode cX4_opens 101 = .ok (.ifCond .eq 33, 3) := by decide +kernel
theorem dX4_opens_104 : decode cX4_opens 104 = .ok (.aload_n 0, 1) := by decide +kernel
theorem dX4_opens_105 : decode cX4_opens 105 = .ok (.getfield 60, 3) := by decide +kernel
theorem dX4_opens_108 : decode cX4_opens 108 = .ok (.aload_n 0, 1) := by decide +kernel
theorem dX4_opens_109 : decode cX4_opens 109 = .ok (.getfield 63, 3) := by decide +kernel
theorem dX4_opens_112 : decode cX4_opens 112 = .ok (.aload_n 0, 1) := by decide +kernel
theorem dX4_opens_113 : decode cX4_opens 113 = .ok (.getfield 7, 3) := by decide +kernel
theorem dX4_opens_116 : decode cX4_opens 116 = .ok (.iconst 2, 1) := by decide +kernel
theorem dX4_opens_117 : decode cX4_opens 117 = .ok (.iaload, 1) := by decide +kernel
theorem dX4_opens_118 : decode cX4_opens 118 = .ok (.invokestatic 70, 3) := by decide +kernel
theorem dX4_opens_121 : decode cX4_opens 121 = .ok (.aload_n 0, 1) := by decide +kernel
theorem dX4_opens_122 : decode cX4_opens 122 = .ok (.getfield 7, 3) := by decide +kernel
theorem dX4_opens_125 : decode cX4_opens 125 = .ok (.iconst 1, 1) := by decide +kernel
theorem dX4_opens_126 : decode cX4_opens 126 = .ok (.iaload, 1) := by decide +kernel
theorem dX4_opens_127 : decode cX4_opens 127 = .ok (.if_icmp .ne 7, 3) := by decide +kernel
theorem dX4_opens_130 : decode cX4_opens 130 = .ok (.iconst 1, 1) := by decide +kernel
theorem dX4_opens_131 : decode cX4_opens 131 = .ok (.goto 4, 3) := by decide +kernel
theorem dX4_opens_134 : decode cX4_opens 134 = .ok (.iconst 0, 1) := by decide +kernel
theorem dX4_opens_135 : decode cX4_opens 135 = .ok (.ireturn, 1) := by decide +kernel
theorem dX4_count_0 : decode cX4_count 0 = .ok (.iconst 0, 1) := by decide +kernel
theorem dX4_count_1 : decode cX4_count 1 = .ok (.istore_n 1, 1) := by decide +kernel
theorem dX4_count_2 : decode cX4_count 2 = .ok (.iconst 0, 1) := by decide +kernel
theorem dX4_count_3 : decode cX4_count 3 = .ok (.istore_n 2, 1) := by decide +kernel
theorem dX4_count_4 : decode cX4_count 4 = .ok (.iload_n 2, 1) := by decide +kernel
theorem dX4_count_5 : decode cX4_count 5 = .ok (.iconst 4, 1) := by decide +kernel
theorem dX4_count_6 : decode cX4_count 6 = .ok (.if_icmp .ge 25, 3) := by decide +kernel
theorem dX4_count_9 : decode cX4_count 9 = .ok (.iload_n 1, 1) := by decide +kernel
theorem dX4_count_10 : decode cX4_count 10 = .ok (.aload_n 0, 1) := by decide +kernel
theorem dX4_count_11 : decode cX4_count 11 = .ok (.iload_n 2, 1) := by decide +kernel
theorem dX4_count_12 : decode cX4_count 12 = .ok (.invokevirtual 66, 3) := by decide +kernel
theorem dX4_count_15 : decode cX4_count 15 = .ok (.ifCond .eq 7, 3) := by decide +kernel
theorem dX4_count_18 : decode cX4_count 18 = .ok (.iconst 1, 1) := by decide +kernel
theorem dX4_count_19 : decode cX4_count 19 = .ok (.goto 4, 3) := by decide +kernel
theorem dX4_count_22 : decode cX4_count 22 = .ok (.iconst 0, 1) := by decide +kernel
theorem dX4_count_23 : decode cX4_count 23 = .ok (.iadd, 1) := by decide +kernel
theorem dX4_count_24 : decode cX4_count 24 = .ok (.istore_n 1, 1) := by decide +kernel
theorem dX4_count_25 : decode cX4_count 25 = .ok (.iinc 2 1, 3) := by decide +kernel
theorem dX4_count_28 : decode cX4_count 28 = .ok (.goto (-24), 3) := by decide +kernel
theorem dX4_count_31 : decode cX4_count 31 = .ok (.iload_n 1, 1) := by decide +kernel
theorem dX4_count_32 : decode cX4_count 32 = .ok (.ireturn, 1) := by decide +kernel
theorem dX4_begin_0 : decode cX4_begin 0 = .ok (.aload_n 0, 1) := by decide +kernel
theorem dX4_begin_1 : decode cX4_begin 1 = .ok (.iconst 0, 1) := by decide +kernel
theorem dX4_begin_2 : decode cX4_begin 2 = .ok (.putfield 73, 3) := by decide +kernel
theorem dX4_begin_5 : decode cX4_begin 5 = .ok (.iconst 0, 1) := by decide +kernel
theorem dX4_begin_6 : decode cX4_begin 6 = .ok (.istore_n 1, 1) := by decide +kernel
theorem dX4_begin_7 : decode cX4_begin 7 = .ok (.iload_n 1, 1) := by decide +kernel
theorem dX4_begin_8 : decode cX4_begin 8 = .ok (.bipush 80, 2) := by decide +kernel
theorem dX4_begin_10 : decode cX4_begin 10 = .ok (.if_icmp .ge 21, 3) := by decide +kernel
theorem dX4_begin_13 : decode cX4_begin 13 = .ok (.aload_n 0, 1) := by decide +kernel
theorem dX4_begin_14 : decode cX4_begin 14 = .ok (.getfield 23, 3) := by decide +kernel
theorem dX4_begin_17 : decode cX4_begin 17 = .ok (.iload_n 1, 1) := by decide +kernel
theorem dX4_begin_18 : decode cX4_begin 18 = .ok (.aload_n 0, 1) := by decide +kernel
theorem dX4_begin_19 : decode cX4_begin 19 = .ok (.getfield 7, 3) := by decide +kernel
theorem dX4_begin_22 : decode cX4_begin 22 = .ok (.iload_n 1, 1) := by decide +kernel
theorem dX4_begin_23 : decode cX4_begin 23 = .ok (.iaload, 1) := by decide +kernel
theorem dX4_begin_24 : decode cX4_begin 24 = .ok (.iastore, 1) := by decide +kernel
theorem dX4_begin_25 : decode cX4_begin 25 = .ok (.iinc 1 1, 3) := by decide +kernel
theorem dX4_begin_28 : decode cX4_begin 28 = .ok (.goto (-21), 3) := by decide +kernel
theorem dX4_begin_31 : decode cX4_begin 31 = .ok (.return_, 1) := by decide +kernel
theorem dX4_plan_0 : decode cX4_plan 0 = .ok (.aload_n 0, 1) := by decide +kernel
theorem dX4_plan_1 : decode cX4_plan 1 = .ok (.getfield 17, 3) := by decide +kernel
theorem dX4_plan_4 : decode cX4_plan 4 = .ok (.aload_n 0, 1) := by decide +kernel
theorem dX4_plan_5 : decode cX4_plan 5 = .ok (.getfield 73, 3) := by decide +kernel
theorem dX4_plan_8 : decode cX4_plan 8 = .ok (.iload_n 1, 1) := by decide +kernel
theorem dX4_plan_9 : decode cX4_plan 9 = .ok (.iastore, 1) := by decide +kernel
theorem dX4_plan_10 : decode cX4_plan 10 = .ok (.aload_n 0, 1) := by decide +kernel
theorem dX4_plan_11 : decode cX4_plan 11 = .ok (.getfield 20, 3) := by decide +kernel
theorem dX4_plan_14 : decode cX4_plan 14 = .ok (.aload_n 0, 1) := by decide +kernel
theorem dX4_plan_15 : decode cX4_plan 15 = .ok (.getfield 73, 3) := by decide +kernel
theorem dX4_plan_18 : decode cX4_plan 18 = .ok (.iload_n 2, 1) := by decide +kernel
theorem dX4_plan_19 : decode cX4_plan 19 = .ok (.iastore, 1) := by decide +kernel
theorem dX4_plan_20 : decode cX4_plan 20 = .ok (.aload_n 0, 1) := by decide +kernel
theorem dX4_plan_21 : decode cX4_plan 21 = .ok (.dup, 1) := by decide +kernel
theorem dX4_plan_22 : decode cX4_plan 22 = .ok (.getfield 73, 3) := by decide +kernel
theorem dX4_plan_25 : decode cX4_plan 25 = .ok (.iconst 1, 1) := by decide +kernel
theorem dX4_plan_26 : decode cX4_plan 26 = .ok (.iadd, 1) := by decide +kernel
theorem dX4_plan_27 : decode cX4_plan 27 = .ok (.putfield 73, 3) := by decide +kernel
theorem dX4_plan_30 : decode cX4_plan 30 = .ok (.aload_n 0, 1) := by decide +kernel
theorem dX4_plan_31 : decode cX4_plan 31 = .ok (.getfield 23, 3) := by decide +kernel
theorem dX4_plan_34 : decode cX4_plan 34 = .ok (.iload_n 1, 1) := by decide +kernel
theorem dX4_plan_35 : decode cX4_plan 35 = .ok (.iload_n 2, 1) := by decide +kernel
theorem dX4_plan_36 : decode cX4_plan 36 = .ok (.iastore, 1) := by decide +kernel
theorem dX4_plan_37 : decode cX4_plan 37 = .ok (.return_, 1) := by decide +kernel
theorem dX4_planClean_0 : decode cX4_planClean 0 = .ok (.bipush 37, 2) := by decide +kernel
theorem dX4_planClean_2 : decode cX4_planClean 2 = .ok (.istore_n 1, 1) := by decide +kernel
theorem dX4_planClean_3 : decode cX4_planClean 3 = .ok (.iload_n 1, 1) := by decide +kernel
theorem dX4_planClean_4 : decode cX4_planClean 4 = .ok (.bipush 46, 2) := by decide +kernel
theorem dX4_planClean_6 : decode cX4_planClean 6 = .ok (.if_icmp .ge 24, 3) := by decide +kernel
theorem dX4_planClean_9 : decode cX4_planClean 9 = .ok (.aload_n 0, 1) := by decide +kernel
theorem dX4_planClean_10 : decode cX4_planClean 10 = .ok (.getfield 23, 3) := by decide +kernel
theorem dX4_planClean_13 : decode cX4_planClean 13 = .ok (.iload_n 1, 1) := by decide +kernel
theorem dX4_planClean_14 : decode cX4_planClean 14 = .ok (.iaload, 1) := by decide +kernel
theorem dX4_planClean_15 : decode cX4_planClean 15 = .ok (.ifCond .eq 9, 3) := by decide +kernel
theorem dX4_planClean_18 : decode cX4_planClean 18 = .ok (.aload_n 0, 1) := by decide +kernel
theorem dX4_planClean_19 : decode cX4_planClean 19 = .ok (.iload_n 1, 1) := by decide +kernel
theorem dX4_planClean_20 : decode cX4_planClean 20 = .ok (.iconst 0, 1) := by decide +kernel
theorem dX4_planClean_21 : decode cX4_planClean 21 = .ok (.invokevirtual 76, 3) := by decide +kernel
theorem dX4_planClean_24 : decode cX4_planClean 24 = .ok (.iinc 1 1, 3) := by decide +kernel
theorem dX4_planClean_27 : decode cX4_planClean 27 = .ok (.goto (-24), 3) := by decide +kernel
theorem dX4_planClean_30 : decode cX4_planClean 30 = .ok (.return_, 1) := by decide +kernel
theorem dX4_planFinish_0 : decode cX4_planFinish 0 = .ok (.aload_n 0, 1) := by decide +kernel
theorem dX4_planFinish_1 : decode cX4_planFinish 1 = .ok (.getfield 23, 3) := by decide +kernel
theorem dX4_planFinish_4 : decode cX4_planFinish 4 = .ok (.bipush 37, 2) := by decide +kernel
theorem dX4_planFinish_6 : decode cX4_planFinish 6 = .ok (.iaload, 1) := by decide +kernel
theorem dX4_planFinish_7 : decode cX4_planFinish 7 = .ok (.sipush 255, 3) := by decide +kernel
theorem dX4_planFinish_10 : decode cX4_planFinish 10 = .ok (.iand, 1) := by decide +kernel
theorem dX4_planFinish_11 : decode cX4_planFinish 11 = .ok (.istore_n 1, 1) := by decide +kernel
theorem dX4_planFinish_12 : decode cX4_planFinish 12 = .ok (.aload_n 0, 1) := by decide +kernel
theorem dX4_planFinish_13 : decode cX4_planFinish 13 = .ok (.getfield 23, 3) := by decide +kernel
theorem dX4_planFinish_16 : decode cX4_planFinish 16 = .ok (.bipush 37, 2) := by decide +kernel
theorem dX4_planFinish_18 : decode cX4_planFinish 18 = .ok (.iaload, 1) := by decide +kernel
theorem dX4_planFinish_19 : decode cX4_planFinish 19 = .ok (.bipush 8, 2) := by decide +kernel
theorem dX4_planFinish_21 : decode cX4_planFinish 21 = .ok (.iushr, 1) := by decide +kernel
theorem dX4_planFinish_22 : decode cX4_planFinish 22 = .ok (.istore_n 2, 1) := by decide +kernel
theorem dX4_planFinish_23 : decode cX4_planFinish 23 = .ok (.iconst 0, 1) := by decide +kernel
theorem dX4_planFinish_24 : decode cX4_planFinish 24 = .ok (.istore_n 3, 1) := by decide +kernel
theorem dX4_planFinish_25 : decode cX4_planFinish 25 = .ok (.iload_n 3, 1) := by decide +kernel
theorem dX4_planFinish_26 : decode cX4_planFinish 26 = .ok (.iload_n 2, 1) := by decide +kernel
theorem dX4_planFinish_27 : decode cX4_planFinish 27 = .ok (.if_icmp .ge 25, 3) := by decide +kernel
theorem dX4_planFinish_30 : decode cX4_planFinish 30 = .ok (.aload_n 0, 1) := by decide +kernel
theorem dX4_planFinish_31 : decode cX4_planFinish 31 = .ok (.iload_n 1, 1) := by decide +kernel
theorem dX4_planFinish_32 : decode cX4_planFinish 32 = .ok (.iload_n 3, 1) := by decide +kernel
theorem dX4_planFinish_33 : decode cX4_planFinish 33 = .ok (.iadd, 1) := by decide +kernel
theorem dX4_planFinish_34 : decode cX4_planFinish 34 = .ok (.aload_n 0, 1) := by decide +kernel
theorem dX4_planFinish_35 : decode cX4_planFinish 35 = .ok (.getfield 23, 3) := by decide +kernel
theorem dX4_planFinish_38 : decode cX4_planFinish 38 = .ok (.bipush 38, 2) := by decide +kernel
theorem dX4_planFinish_40 : decode cX4_planFinish 40 = .ok (.iload_n 3, 1) := by decide +kernel
theorem dX4_planFinish_41 : decode cX4_planFinish 41 = .ok (.iadd, 1) := by decide +kernel
theorem dX4_planFinish_42 : decode cX4_planFinish 42 = .ok (.iaload, 1) := by decide +kernel
theorem dX4_planFinish_43 : decode cX4_planFinish 43 = .ok (.invokevirtual 76, 3) := by decide +kernel
theorem dX4_planFinish_46 : decode cX4_planFinish 46 = .ok (.iinc 3 1, 3) := by decide +kernel
theorem dX4_planFinish_49 : decode cX4_planFinish 49 = .ok (.goto (-24), 3) := by decide +kernel
theorem dX4_planFinish_52 : decode cX4_planFinish 52 = .ok (.aload_n 0, 1) := by decide +kernel
theorem dX4_planFinish_53 : decode cX4_planFinish 53 = .ok (.bipush 36, 2) := by decide +kernel
theorem dX4_planFinish_55 : decode cX4_planFinish 55 = .ok (.iconst 0, 1) := by decide +kernel
theorem dX4_planFinish_56 : decode cX4_planFinish 56 = .ok (.invokevirtual 76, 3) := by decide +kernel
theorem dX4_planFinish_59 : decode cX4_planFinish 59 = .ok (.aload_n 0, 1) := by decide +kernel
theorem dX4_planFinish_60 : decode cX4_planFinish 60 = .ok (.invokevirtual 80, 3) := by decide +kernel
theorem dX4_planFinish_63 : decode cX4_planFinish 63 = .ok (.return_, 1) := by decide +kernel
theorem dX4_planChange_0 : decode cX4_planChange 0 = .ok (.aload_n 0, 1) := by decide +kernel
theorem dX4_planChange_1 : decode cX4_planChange 1 = .ok (.invokevirtual 83, 3) := by decide +kernel
theorem dX4_planChange_4 : decode cX4_planChange 4 = .ok (.iconst 0, 1) := by decide +kernel
theorem dX4_planChange_5 : decode cX4_planChange 5 = .ok (.istore_n 3, 1) := by decide +kernel
theorem dX4_planChange_6 : decode cX4_planChange 6 = .ok (.iload_n 3, 1) := by decide +kernel
theorem dX4_planChange_7 : decode cX4_planChange 7 = .ok (.iload_n 2, 1) := by decide +kernel
theorem dX4_planChange_8 : decode cX4_planChange 8 = .ok (.if_icmp .ge 23, 3) := by decide +kernel
theorem dX4_planChange_11 : decode cX4_planChange 11 = .ok (.aload_n 0, 1) := by decide +kernel
theorem dX4_planChange_12 : decode cX4_planChange 12 = .ok (.bipush 38, 2) := by decide +kernel
theorem dX4_planChange_14 : decode cX4_planChange 14 = .ok (.iload_n 3, 1) := by decide +kernel
theorem dX4_planChange_15 : decode cX4_planChange 15 = .ok (.iadd, 1) := by decide +kernel
theorem dX4_planChange_16 : decode cX4_planChange 16 = .ok (.aload_n 0, 1) := by decide +kernel
theorem dX4_planChange_17 : decode cX4_planChange 17 = .ok (.getfield 26, 3) := by decide +kernel
theorem dX4_planChange_20 : decode cX4_planChange 20 = .ok (.iload_n 3, 1) := by decide +kernel
theorem dX4_planChange_21 : decode cX4_planChange 21 = .ok (.iaload, 1) := by decide +kernel
theorem dX4_planChange_22 : decode cX4_planChange 22 = .ok (.invokevirtual 76, 3) := by decide +kernel
theorem dX4_planChange_25 : decode cX4_planChange 25 = .ok (.iinc 3 1, 3) := by decide +kernel
theorem dX4_planChange_28 : decode cX4_planChange 28 = .ok (.goto (-22), 3) := by decide +kernel
theorem dX4_planChange_31 : decode cX4_planChange 31 = .ok (.aload_n 0, 1) := by decide +kernel
theorem dX4_planChange_32 : decode cX4_planChange 32 = .ok (.bipush 37, 2) := by decide +kernel
theorem dX4_planChange_34 : decode cX4_planChange 34 = .ok (.iload_n 1, 1) := by decide +kernel
theorem dX4_planChange_35 : decode cX4_planChange 35 = .ok (.sipush 256, 3) := by decide +kernel
theorem dX4_planChange_38 : decode cX4_planChange 38 = .ok (.iload_n 2, 1) := by decide +kernel
theorem dX4_planChange_39 : decode cX4_planChange 39 = .ok (.imul, 1) := by decide +kernel
theorem dX4_planChange_40 : decode cX4_planChange 40 = .ok (.iadd, 1) := by decide +kernel
theorem dX4_planChange_41 : decode cX4_planChange 41 = .ok (.invokevirtual 76, 3) := by decide +kernel
theorem dX4_planChange_44 : decode cX4_planChange 44 = .ok (.aload_n 0, 1) := by decide +kernel
theorem dX4_planChange_45 : decode cX4_planChange 45 = .ok (.bipush 36, 2) := by decide +kernel
theorem dX4_planChange_47 : decode cX4_planChange 47 = .ok (.iconst 1, 1) := by decide +kernel
theorem dX4_planChange_48 : decode cX4_planChange 48 = .ok (.invokevirtual 76, 3) := by decide +kernel
theorem dX4_planChange_51 : decode cX4_planChange 51 = .ok (.aload_n 0, 1) := by decide +kernel
theorem dX4_planChange_52 : decode cX4_planChange 52 = .ok (.invokevirtual 86, 3) := by decide +kernel
theorem dX4_planChange_55 : decode cX4_planChange 55 = .ok (.return_, 1) := by decide +kernel
theorem dX4_perform_0 : decode cX4_perform 0 = .ok (.iconst 0, 1) := by decide +kernel
theorem dX4_perform_1 : decode cX4_perform 1 = .ok (.istore_n 1, 1) := by decide +kernel
theorem dX4_perform_2 : decode cX4_perform 2 = .ok (.iload_n 1, 1) := by decide +kernel
theorem dX4_perform_3 : decode cX4_perform 3 = .ok (.aload_n 0, 1) := by decide +kernel
theorem dX4_perform_4 : decode cX4_perform 4 = .ok (.getfield 73, 3) := by decide +kernel
theorem dX4_perform_7 : decode cX4_perform 7 = .ok (.if_icmp .ge 79, 3) := by decide +kernel
theorem dX4_perform_10 : decode cX4_perform 10 = .ok (.aload_n 0, 1) := by decide +kernel
theorem dX4_perform_11 : decode cX4_perform 11 = .ok (.getfield 13, 3) := by decide +kernel
theorem dX4_perform_14 : decode cX4_perform 14 = .ok (.ifCond .ne 15, 3) := by decide +kernel
theorem dX4_perform_17 : decode cX4_perform 17 = .ok (.aload_n 0, 1) := by decide +kernel
theorem dX4_perform_18 : decode cX4_perform 18 = .ok (.iconst (-1), 1) := by decide +kernel
theorem dX4_perform_19 : decode cX4_perform 19 = .ok (.putfield 13, 3) := by decide +kernel
theorem dX4_perform_22 : decode cX4_perform 22 = .ok (.aload_n 0, 1) := by decide +kernel
theorem dX4_perform_23 : decode cX4_perform 23 = .ok (.iconst 0, 1) := by decide +kernel
theorem dX4_perform_24 : decode cX4_perform 24 = .ok (.putfield 89, 3) := by decide +kernel
theorem dX4_perform_27 : decode cX4_perform 27 = .ok (.iconst 0, 1) := by decide +kernel
theorem dX4_perform_28 : decode cX4_perform 28 = .ok (.ireturn, 1) := by decide +kernel
theorem dX4_perform_29 : decode cX4_perform 29 = .ok (.aload_n 0, 1) := by decide +kernel
theorem dX4_perform_30 : decode cX4_perform 30 = .ok (.aload_n 0, 1) := by decide +kernel
theorem dX4_perform_31 : decode cX4_perform 31 = .ok (.getfield 13, 3) := by decide +kernel
theorem dX4_perform_34 : decode cX4_perform 34 = .ok (.ifCond .le 12, 3) := by decide +kernel
theorem dX4_perform_37 : decode cX4_perform 37 = .ok (.aload_n 0, 1) := by decide +kernel
theorem dX4_perform_38 : decode cX4_perform 38 = .ok (.getfield 13, 3) := by decide +kernel
theorem dX4_perform_41 : decode cX4_perform 41 = .ok (.iconst 1, 1) := by decide +kernel
theorem dX4_perform_42 : decode cX4_perform 42 = .ok (.isub, 1) := by decide +kernel
theorem dX4_perform_43 : decode cX4_perform 43 = .ok (.goto 7, 3) := by decide +kernel
theorem dX4_perform_46 : decode cX4_perform 46 = .ok (.aload_n 0, 1) := by decide +kernel
theorem dX4_perform_47 : decode cX4_perform 47 = .ok (.getfield 13, 3) := by decide +kernel
theorem dX4_perform_50 : decode cX4_perform 50 = .ok (.putfield 13, 3) := by decide +kernel
theorem dX4_perform_53 : decode cX4_perform 53 = .ok (.aload_n 0, 1) := by decide +kernel
theorem dX4_perform_54 : decode cX4_perform 54 = .ok (.dup, 1) := by decide +kernel
theorem dX4_perform_55 : decode cX4_perform 55 = .ok (.getfield 92, 3) := by decide +kernel
theorem dX4_perform_58 : decode cX4_perform 58 = .ok (.iconst 1, 1) := by decide +kernel
theorem dX4_perform_59 : decode cX4_perform 59 = .ok (.iadd, 1) := by decide +kernel
theorem dX4_perform_60 : decode cX4_perform 60 = .ok (.putfield 92, 3) := by decide +kernel
theorem dX4_perform_63 : decode cX4_perform 63 = .ok (.aload_n 0, 1) := by decide +kernel
theorem dX4_perform_64 : decode cX4_perform 64 = .ok (.getfield 7, 3) := by decide +kernel
theorem dX4_perform_67 : decode cX4_perform 67 = .ok (.aload_n 0, 1) := by decide +kernel
theorem dX4_perform_68 : decode cX4_perform 68 = .ok (.getfield 17, 3) := by decide +kernel
theorem dX4_perform_71 : decode cX4_perform 71 = .ok (.iload_n 1, 1) := by decide +kernel
theorem dX4_perform_72 : decode cX4_perform 72 = .ok (.iaload, 1) := by decide +kernel
theorem dX4_perform_73 : decode cX4_perform 73 = .ok (.aload_n 0, 1) := by decide +kernel
theorem dX4_perform_74 : decode cX4_perform 74 = .ok (.getfield 20, 3) := by decide +kernel
theorem dX4_perform_77 : decode cX4_perform 77 = .ok (.iload_n 1, 1) := by decide +kernel
theorem dX4_perform_78 : decode cX4_perform 78 = .ok (.iaload, 1) := by decide +kernel
theorem dX4_perform_79 : decode cX4_perform 79 = .ok (.iastore, 1) := by decide +kernel
theorem dX4_perform_80 : decode cX4_perform 80 = .ok (.iinc 1 1, 3) := by decide +kernel
theorem dX4_perform_83 : decode cX4_perform 83 = .ok (.goto (-81), 3) := by decide +kernel
theorem dX4_perform_86 : decode cX4_perform 86 = .ok (.iconst 1, 1) := by decide +kernel
theorem dX4_perform_87 : decode cX4_perform 87 = .ok (.ireturn, 1) := by decide +kernel
theorem dX4_cut_0 : decode cX4_cut 0 = .ok (.iload_n 1, 1) := by decide +kernel
theorem dX4_cut_1 : decode cX4_cut 1 = .ok (.iconst (-1), 1) := by decide +kernel
theorem dX4_cut_2 : decode cX4_cut 2 = .ok (.if_icmp .ge 5, 3) := by decide +kernel
theorem dX4_cut_5 : decode cX4_cut 5 = .ok (.iconst 0, 1) := by decide +kernel
theorem dX4_cut_6 : decode cX4_cut 6 = .ok (.ireturn, 1) := by decide +kernel
theorem dX4_cut_7 : decode cX4_cut 7 = .ok (.aload_n 0, 1) := by decide +kernel
theorem dX4_cut_8 : decode cX4_cut 8 = .ok (.iload_n 1, 1) := by decide +kernel
theorem dX4_cut_9 : decode cX4_cut 9 = .ok (.putfield 13, 3) := by decide +kernel
theorem dX4_cut_12 : decode cX4_cut 12 = .ok (.iconst 1, 1) := by decide +kernel
theorem dX4_cut_13 : decode cX4_cut 13 = .ok (.ireturn, 1) := by decide +kernel
theorem dX4_format_0 : decode cX4_format 0 = .ok (.aload_n 0, 1) := by decide +kernel
theorem dX4_format_1 : decode cX4_format 1 = .ok (.invokevirtual 83, 3) := by decide +kernel
theorem dX4_format_4 : decode cX4_format 4 = .ok (.iconst 0, 1) := by decide +kernel
theorem dX4_format_5 : decode cX4_format 5 = .ok (.istore 5, 2) := by decide +kernel
theorem dX4_format_7 : decode cX4_format 7 = .ok (.iload 5, 2) := by decide +kernel
theorem dX4_format_9 : decode cX4_format 9 = .ok (.bipush 80, 2) := by decide +kernel
theorem dX4_format_11 : decode cX4_format 11 = .ok (.if_icmp .ge 17, 3) := by decide +kernel
theorem dX4_format_14 : decode cX4_format 14 = .ok (.aload_n 0, 1) := by decide +kernel
theorem dX4_format_15 : decode cX4_format 15 = .ok (.getfield 23, 3) := by decide +kernel
theorem dX4_format_18 : decode cX4_format 18 = .ok (.iload 5, 2) := by decide +kernel
theorem dX4_format_20 : decode cX4_format 20 = .ok (.iconst 0, 1) := by decide +kernel
theorem dX4_format_21 : decode cX4_format 21 = .ok (.iastore, 1) := by decide +kernel
theorem dX4_format_22 : decode cX4_format 22 = .ok (.iinc 5 1, 3) := by decide +kernel
theorem dX4_format_25 : decode cX4_format 25 = .ok (.goto (-18), 3) := by decide +kernel
theorem dX4_format_28 : decode cX4_format 28 = .ok (.iload 4, 2) := by decide +kernel
theorem dX4_format_30 : decode cX4_format 30 = .ok (.iconst 5, 1) := by decide +kernel
theorem dX4_format_31 : decode cX4_format 31 = .ok (.invokestatic 35, 3) := by decide +kernel
theorem dX4_format_34 : decode cX4_format 34 = .ok (.istore 5, 2) := by decide +kernel
theorem dX4_format_36 : decode cX4_format 36 = .ok (.aload_n 0, 1) := by decide +kernel
theorem dX4_format_37 : decode cX4_format 37 = .ok (.getfield 23, 3) := by decide +kernel
theorem dX4_format_40 : decode cX4_format 40 = .ok (.iconst 1, 1) := by decide +kernel
theorem dX4_format_41 : decode cX4_format 41 = .ok (.iload_n 1, 1) := by decide +kernel
theorem dX4_format_42 : decode cX4_format 42 = .ok (.iload_n 2, 1) := by decide +kernel
theorem dX4_format_43 : decode cX4_format 43 = .ok (.iload 5, 2) := by decide +kernel
theorem dX4_format_45 : decode cX4_format 45 = .ok (.invokestatic 70, 3) := by decide +kernel
theorem dX4_format_48 : decode cX4_format 48 = .ok (.iastore, 1) := by decide +kernel
theorem dX4_format_49 : decode cX4_format 49 = .ok (.aload_n 0, 1) := by decide +kernel
theorem dX4_format_50 : decode cX4_format 50 = .ok (.getfield 23, 3) := by decide +kernel
theorem dX4_format_53 : decode cX4_format 53 = .ok (.iconst 2, 1) := by decide +kernel
theorem dX4_format_54 : decode cX4_format 54 = .ok (.iload 5, 2) := by decide +kernel
theorem dX4_format_56 : decode cX4_format 56 = .ok (.iastore, 1) := by decide +kernel
theorem dX4_format_57 : decode cX4_format 57 = .ok (.aload_n 0, 1) := by decide +kernel
theorem dX4_format_58 : decode cX4_format 58 = .ok (.iload_n 3, 1) := by decide +kernel
theorem dX4_format_59 : decode cX4_format 59 = .ok (.iload 4, 2) := by decide +kernel
theorem dX4_format_61 : decode cX4_format 61 = .ok (.iload_n 1, 1) := by decide +kernel
theorem dX4_format_62 : decode cX4_format 62 = .ok (.iload_n 2, 1) := by decide +kernel
theorem dX4_format_63 : decode cX4_format 63 = .ok (.invokevirtual 95, 3) := by decide +kernel
theorem dX4_format_66 : decode cX4_format 66 = .ok (.iconst 0, 1) := by decide +kernel
theorem dX4_format_67 : decode cX4_format 67 = .ok (.istore 6, 2) := by decide +kernel
theorem dX4_format_69 : decode cX4_format 69 = .ok (.iload 6, 2) := by decide +kernel
theorem dX4_format_71 : decode cX4_format 71 = .ok (.bipush 8, 2) := by decide +kernel
theorem dX4_format_73 : decode cX4_format 73 = .ok (.if_icmp .ge 25, 3) := by decide +kernel
theorem dX4_format_76 : decode cX4_format 76 = .ok (.aload_n 0, 1) := by decide +kernel
theorem dX4_format_77 : decode cX4_format 77 = .ok (.getfield 23, 3) := by decide +kernel
theorem dX4_format_80 : decode cX4_format 80 = .ok (.iconst 4, 1) := by decide +kernel
theorem dX4_format_81 : decode cX4_format 81 = .ok (.iload 6, 2) := by decide +kernel
theorem dX4_format_83 : decode cX4_format 83 = .ok (.iadd, 1) := by decide +kernel
theorem dX4_format_84 : decode cX4_format 84 = .ok (.aload_n 0, 1) := by decide +kernel
theorem dX4_format_85 : decode cX4_format 85 = .ok (.getfield 26, 3) := by decide +kernel
theorem dX4_format_88 : decode cX4_format 88 = .ok (.iload 6, 2) := by decide +kernel
theorem dX4_format_90 : decode cX4_format 90 = .ok (.iaload, 1) := by decide +kernel
theorem dX4_format_91 : decode cX4_format 91 = .ok (.iastore, 1) := by decide +kernel
theorem dX4_format_92 : decode cX4_format 92 = .ok (.iinc 6 1, 3) := by decide +kernel
theorem dX4_format_95 : decode cX4_format 95 = .ok (.goto (-26), 3) := by decide +kernel
theorem dX4_format_98 : decode cX4_format 98 = .ok (.iconst 0, 1) := by decide +kernel
theorem dX4_format_99 : decode cX4_format 99 = .ok (.istore 6, 2) := by decide +kernel
theorem dX4_format_101 : decode cX4_format 101 = .ok (.iload 6, 2) := by decide +kernel
theorem dX4_format_103 : decode cX4_format 103 = .ok (.bipush 32, 2) := by decide +kernel
theorem dX4_format_105 : decode cX4_format 105 = .ok (.if_icmp .ge 33, 3) := by decide +kernel
theorem dX4_format_108 : decode cX4_format 108 = .ok (.aload_n 0, 1) := by decide +kernel
theorem dX4_format_109 : decode cX4_format 109 = .ok (.getfield 23, 3) := by decide +kernel
theorem dX4_format_112 : decode cX4_format 112 = .ok (.bipush 48, 2) := by decide +kernel
theorem dX4_format_114 : decode cX4_format 114 = .ok (.iload 6, 2) := by decide +kernel
theorem dX4_format_116 : decode cX4_format 116 = .ok (.iadd, 1) := by decide +kernel
theorem dX4_format_117 : decode cX4_format 117 = .ok (.iload_n 1, 1) := by decide +kernel
theorem dX4_format_118 : decode cX4_format 118 = .ok (.iload_n 2, 1) := by decide +kernel
theorem dX4_format_119 : decode cX4_format 119 = .ok (.iload 6, 2) := by decide +kernel
theorem dX4_format_121 : decode cX4_format 121 = .ok (.iconst 4, 1) := by decide +kernel
theorem dX4_format_122 : decode cX4_format 122 = .ok (.idiv, 1) := by decide +kernel
theorem dX4_format_123 : decode cX4_format 123 = .ok (.iload 6, 2) := by decide +kernel
theorem dX4_format_125 : decode cX4_format 125 = .ok (.iconst 4, 1) := by decide +kernel
theorem dX4_format_126 : decode cX4_format 126 = .ok (.irem, 1) := by decide +kernel
theorem dX4_format_127 : decode cX4_format 127 = .ok (.iconst 0, 1) := by decide +kernel
theorem dX4_format_128 : decode cX4_format 128 = .ok (.invokestatic 99, 3) := by decide +kernel
theorem dX4_format_131 : decode cX4_format 131 = .ok (.iastore, 1) := by decide +kernel
theorem dX4_format_132 : decode cX4_format 132 = .ok (.iinc 6 1, 3) := by decide +kernel
theorem dX4_format_135 : decode cX4_format 135 = .ok (.goto (-34), 3) := by decide +kernel
theorem dX4_format_138 : decode cX4_format 138 = .ok (.iconst 0, 1) := by decide +kernel
theorem dX4_format_139 : decode cX4_format 139 = .ok (.istore 6, 2) := by decide +kernel
theorem dX4_format_141 : decode cX4_format 141 = .ok (.iload 6, 2) := by decide +kernel
theorem dX4_format_143 : decode cX4_format 143 = .ok (.bipush 80, 2) := by decide +kernel
theorem dX4_format_145 : decode cX4_format 145 = .ok (.if_icmp .ge 22, 3) := by decide +kernel
theorem dX4_format_148 : decode cX4_format 148 = .ok (.aload_n 0, 1) := by decide +kernel
theorem dX4_format_149 : decode cX4_format 149 = .ok (.iload 6, 2) := by decide +kernel
theorem dX4_format_151 : decode cX4_format 151 = .ok (.aload_n 0, 1) := by decide +kernel
theorem dX4_format_152 : decode cX4_format 152 = .ok (.getfield 23, 3) := by decide +kernel
theorem dX4_format_155 : decode cX4_format 155 = .ok (.iload 6, 2) := by decide +kernel
theorem dX4_format_157 : decode cX4_format 157 = .ok (.iaload, 1) := by decide +kernel
theorem dX4_format_158 : decode cX4_format 158 = .ok (.invokevirtual 76, 3) := by decide +kernel
theorem dX4_format_161 : decode cX4_format 161 = .ok (.iinc 6 1, 3) := by decide +kernel
theorem dX4_format_164 : decode cX4_format 164 = .ok (.goto (-23), 3) := by decide +kernel
theorem dX4_format_167 : decode cX4_format 167 = .ok (.aload_n 0, 1) := by decide +kernel
theorem dX4_format_168 : decode cX4_format 168 = .ok (.iconst 0, 1) := by decide +kernel
theorem dX4_format_169 : decode cX4_format 169 = .ok (.ldc 103, 2) := by decide +kernel
theorem dX4_format_171 : decode cX4_format 171 = .ok (.invokevirtual 76, 3) := by decide +kernel
theorem dX4_format_174 : decode cX4_format 174 = .ok (.aload_n 0, 1) := by decide +kernel
theorem dX4_format_175 : decode cX4_format 175 = .ok (.invokevirtual 104, 3) := by decide +kernel
theorem dX4_format_178 : decode cX4_format 178 = .ok (.ifCond .ne 5, 3) := by decide +kernel
theorem dX4_format_181 : decode cX4_format 181 = .ok (.iconst (-1), 1) := by decide +kernel
theorem dX4_format_182 : decode cX4_format 182 = .ok (.ireturn, 1) := by decide +kernel
theorem dX4_format_183 : decode cX4_format 183 = .ok (.aload_n 0, 1) := by decide +kernel
theorem dX4_format_184 : decode cX4_format 184 = .ok (.iconst 1, 1) := by decide +kernel
theorem dX4_format_185 : decode cX4_format 185 = .ok (.putfield 89, 3) := by decide +kernel
theorem dX4_format_188 : decode cX4_format 188 = .ok (.iconst 0, 1) := by decide +kernel
theorem dX4_format_189 : decode cX4_format 189 = .ok (.ireturn, 1) := by decide +kernel
theorem dX4_mount_0 : decode cX4_mount 0 = .ok (.aload_n 0, 1) := by decide +kernel
theorem dX4_mount_1 : decode cX4_mount 1 = .ok (.getfield 7, 3) := by decide +kernel
theorem dX4_mount_4 : decode cX4_mount 4 = .ok (.iconst 0, 1) := by decide +kernel
theorem dX4_mount_5 : decode cX4_mount 5 = .ok (.iaload, 1) := by decide +kernel
theorem dX4_mount_6 : decode cX4_mount 6 = .ok (.ldc 103, 2) := by decide +kernel
theorem dX4_mount_8 : decode cX4_mount 8 = .ok (.if_icmp .eq 11, 3) := by decide +kernel
theorem dX4_mount_11 : decode cX4_mount 11 = .ok (.aload_n 0, 1) := by decide +kernel
theorem dX4_mount_12 : decode cX4_mount 12 = .ok (.iconst 0, 1) := by decide +kernel
theorem dX4_mount_13 : decode cX4_mount 13 = .ok (.putfield 89, 3) := by decide +kernel
theorem dX4_mount_16 : decode cX4_mount 16 = .ok (.bipush (-3), 2) := by decide +kernel
theorem dX4_mount_18 : decode cX4_mount 18 = .ok (.ireturn, 1) := by decide +kernel
theorem dX4_mount_19 : decode cX4_mount 19 = .ok (.aload_n 0, 1) := by decide +kernel
theorem dX4_mount_20 : decode cX4_mount 20 = .ok (.invokevirtual 83, 3) := by decide +kernel
theorem dX4_mount_23 : decode cX4_mount 23 = .ok (.aload_n 0, 1) := by decide +kernel
theorem dX4_mount_24 : decode cX4_mount 24 = .ok (.getfield 23, 3) := by decide +kernel
theorem dX4_mount_27 : decode cX4_mount 27 = .ok (.bipush 36, 2) := by decide +kernel
theorem dX4_mount_29 : decode cX4_mount 29 = .ok (.iaload, 1) := by decide +kernel
theorem dX4_mount_30 : decode cX4_mount 30 = .ok (.iconst 1, 1) := by decide +kernel
theorem dX4_mount_31 : decode cX4_mount 31 = .ok (.if_icmp .ne 10, 3) := by decide +kernel
theorem dX4_mount_34 : decode cX4_mount 34 = .ok (.aload_n 0, 1) := by decide +kernel
theorem dX4_mount_35 : decode cX4_mount 35 = .ok (.invokevirtual 86, 3) := by decide +kernel
theorem dX4_mount_38 : decode cX4_mount 38 = .ok (.goto 7, 3) := by decide +kernel
theorem dX4_mount_41 : decode cX4_mount 41 = .ok (.aload_n 0, 1) := by decide +kernel
theorem dX4_mount_42 : decode cX4_mount 42 = .ok (.invokevirtual 80, 3) := by decide +kernel
theorem dX4_mount_45 : decode cX4_mount 45 = .ok (.aload_n 0, 1) := by decide +kernel
theorem dX4_mount_46 : decode cX4_mount 46 = .ok (.invokevirtual 104, 3) := by decide +kernel
theorem dX4_mount_49 : decode cX4_mount 49 = .ok (.ifCond .ne 5, 3) := by decide +kernel
theorem dX4_mount_52 : decode cX4_mount 52 = .ok (.iconst (-1), 1) := by decide +kernel
theorem dX4_mount_53 : decode cX4_mount 53 = .ok (.ireturn, 1) := by decide +kernel
theorem dX4_mount_54 : decode cX4_mount 54 = .ok (.aload_n 0, 1) := by decide +kernel
theorem dX4_mount_55 : decode cX4_mount 55 = .ok (.iconst 1, 1) := by decide +kernel
theorem dX4_mount_56 : decode cX4_mount 56 = .ok (.putfield 89, 3) := by decide +kernel
theorem dX4_mount_59 : decode cX4_mount 59 = .ok (.aload_n 0, 1) := by decide +kernel
theorem dX4_mount_60 : decode cX4_mount 60 = .ok (.invokevirtual 108, 3) := by decide +kernel
theorem dX4_mount_63 : decode cX4_mount 63 = .ok (.ireturn, 1) := by decide +kernel
theorem dX4_unlock_0 : decode cX4_unlock 0 = .ok (.aload_n 0, 1) := by decide +kernel
theorem dX4_unlock_1 : decode cX4_unlock 1 = .ok (.getfield 89, 3) := by decide +kernel
theorem dX4_unlock_4 : decode cX4_unlock 4 = .ok (.ifCond .ne 6, 3) := by decide +kernel
theorem dX4_unlock_7 : decode cX4_unlock 7 = .ok (.bipush (-2), 2) := by decide +kernel
theorem dX4_unlock_9 : decode cX4_unlock 9 = .ok (.ireturn, 1) := by decide +kernel
theorem dX4_unlock_10 : decode cX4_unlock 10 = .ok (.iconst 0, 1) := by decide +kernel
theorem dX4_unlock_11 : decode cX4_unlock 11 = .ok (.istore_n 2, 1) := by decide +kernel
theorem dX4_unlock_12 : decode cX4_unlock 12 = .ok (.iload_n 2, 1) := by decide +kernel
theorem dX4_unlock_13 : decode cX4_unlock 13 = .ok (.iconst 4, 1) := by decide +kernel
theorem dX4_unlock_14 : decode cX4_unlock 14 = .ok (.if_icmp .ge 41, 3) := by decide +kernel
theorem dX4_unlock_17 : decode cX4_unlock 17 = .ok (.aload_n 0, 1) := by decide +kernel
theorem dX4_unlock_18 : decode cX4_unlock 18 = .ok (.iload_n 2, 1) := by decide +kernel
theorem dX4_unlock_19 : decode cX4_unlock 19 = .ok (.iload_n 1, 1) := by decide +kernel
theorem dX4_unlock_20 : decode cX4_unlock 20 = .ok (.invokevirtual 112, 3) := by decide +kernel
theorem dX4_unlock_23 : decode cX4_unlock 23 = .ok (.ifCond .eq 26, 3) := by decide +kernel
theorem dX4_unlock_26 : decode cX4_unlock 26 = .ok (.aload_n 0, 1) := by decide +kernel
theorem dX4_unlock_27 : decode cX4_unlock 27 = .ok (.iconst 2, 1) := by decide +kernel
theorem dX4_unlock_28 : decode cX4_unlock 28 = .ok (.putfield 89, 3) := by decide +kernel
theorem dX4_unlock_31 : decode cX4_unlock 31 = .ok (.aload_n 0, 1) := by decide +kernel
theorem dX4_unlock_32 : decode cX4_unlock 32 = .ok (.aload_n 0, 1) := by decide +kernel
theorem dX4_unlock_33 : decode cX4_unlock 33 = .ok (.getfield 60, 3) := by decide +kernel
theorem dX4_unlock_36 : decode cX4_unlock 36 = .ok (.putfield 116, 3) := by decide +kernel
theorem dX4_unlock_39 : decode cX4_unlock 39 = .ok (.aload_n 0, 1) := by decide +kernel
theorem dX4_unlock_40 : decode cX4_unlock 40 = .ok (.aload_n 0, 1) := by decide +kernel
theorem dX4_unlock_41 : decode cX4_unlock 41 = .ok (.getfield 63, 3) := by decide +kernel
theorem dX4_unlock_44 : decode cX4_unlock 44 = .ok (.putfield 119, 3) := by decide +kernel
theorem dX4_unlock_47 : decode cX4_unlock 47 = .ok (.iload_n 2, 1) := by decide +kernel
theorem dX4_unlock_48 : decode cX4_unlock 48 = .ok (.ireturn, 1) := by decide +kernel
theorem dX4_unlock_49 : decode cX4_unlock 49 = .ok (.iinc 2 1, 3) := by decide +kernel
theorem dX4_unlock_52 : decode cX4_unlock 52 = .ok (.goto (-40), 3) := by decide +kernel
theorem dX4_unlock_55 : decode cX4_unlock 55 = .ok (.bipush (-9), 2) := by decide +kernel
theorem dX4_unlock_57 : decode cX4_unlock 57 = .ok (.ireturn, 1) := by decide +kernel
theorem dX4_lock_0 : decode cX4_lock 0 = .ok (.aload_n 0, 1) := by decide +kernel
theorem dX4_lock_1 : decode cX4_lock 1 = .ok (.getfield 89, 3) := by decide +kernel
theorem dX4_lock_4 : decode cX4_lock 4 = .ok (.ifCond .ne 6, 3) := by decide +kernel
theorem dX4_lock_7 : decode cX4_lock 7 = .ok (.bipush (-2), 2) := by decide +kernel
theorem dX4_lock_9 : decode cX4_lock 9 = .ok (.ireturn, 1) := by decide +kernel
theorem dX4_lock_10 : decode cX4_lock 10 = .ok (.aload_n 0, 1) := by decide +kernel
theorem dX4_lock_11 : decode cX4_lock 11 = .ok (.getfield 89, 3) := by decide +kernel
theorem dX4_lock_14 : decode cX4_lock 14 = .ok (.istore_n 1, 1) := by decide +kernel
theorem dX4_lock_15 : decode cX4_lock 15 = .ok (.aload_n 0, 1) := by decide +kernel
theorem dX4_lock_16 : decode cX4_lock 16 = .ok (.iconst 1, 1) := by decide +kernel
theorem dX4_lock_17 : decode cX4_lock 17 = .ok (.putfield 89, 3) := by decide +kernel
theorem dX4_lock_20 : decode cX4_lock 20 = .ok (.iload_n 1, 1) := by decide +kernel
theorem dX4_lock_21 : decode cX4_lock 21 = .ok (.iconst 1, 1) := by decide +kernel
theorem dX4_lock_22 : decode cX4_lock 22 = .ok (.isub, 1) := by decide +kernel
theorem dX4_lock_23 : decode cX4_lock 23 = .ok (.ireturn, 1) := by decide +kernel
theorem dX4_closed_0 : decode cX4_closed 0 = .ok (.aload_n 0, 1) := by decide +kernel
theorem dX4_closed_1 : decode cX4_closed 1 = .ok (.getfield 89, 3) := by decide +kernel
theorem dX4_closed_4 : decode cX4_closed 4 = .ok (.ifCond .ne 8, 3) := by decide +kernel
theorem dX4_closed_7 : decode cX4_closed 7 = .ok (.bipush (-2), 2) := by decide +kernel
theorem dX4_closed_9 : decode cX4_closed 9 = .ok (.goto 17, 3) := by decide +kernel
theorem dX4_closed_12 : decode cX4_closed 12 = .ok (.aload_n 0, 1) := by decide +kernel
theorem dX4_closed_13 : decode cX4_closed 13 = .ok (.getfield 89, 3) := by decide +kernel
theorem dX4_closed_16 : decode cX4_closed 16 = .ok (.iconst 1, 1) := by decide +kernel
theorem dX4_closed_17 : decode cX4_closed 17 = .ok (.if_icmp .ne 8, 3) := by decide +kernel
theorem dX4_closed_20 : decode cX4_closed 20 = .ok (.bipush (-4), 2) := by decide +kernel
theorem dX4_closed_22 : decode cX4_closed 22 = .ok (.goto 4, 3) := by decide +kernel
theorem dX4_closed_25 : decode cX4_closed 25 = .ok (.iconst 0, 1) := by decide +kernel
theorem dX4_closed_26 : decode cX4_closed 26 = .ok (.ireturn, 1) := by decide +kernel
theorem dX4_add_0 : decode cX4_add 0 = .ok (.aload_n 0, 1) := by decide +kernel
theorem dX4_add_1 : decode cX4_add 1 = .ok (.invokevirtual 122, 3) := by decide +kernel
theorem dX4_add_4 : decode cX4_add 4 = .ok (.ifCond .ge 8, 3) := by decide +kernel
theorem dX4_add_7 : decode cX4_add 7 = .ok (.aload_n 0, 1) := by decide +kernel
theorem dX4_add_8 : decode cX4_add 8 = .ok (.invokevirtual 122, 3) := by decide +kernel
theorem dX4_add_11 : decode cX4_add 11 = .ok (.ireturn, 1) := by decide +kernel
theorem dX4_add_12 : decode cX4_add 12 = .ok (.iconst 0, 1) := by decide +kernel
theorem dX4_add_13 : decode cX4_add 13 = .ok (.istore_n 3, 1) := by decide +kernel
theorem dX4_add_14 : decode cX4_add 14 = .ok (.iload_n 3, 1) := by decide +kernel
theorem dX4_add_15 : decode cX4_add 15 = .ok (.iconst 4, 1) := by decide +kernel
theorem dX4_add_16 : decode cX4_add 16 = .ok (.if_icmp .ge 17, 3) := by decide +kernel
theorem dX4_add_19 : decode cX4_add 19 = .ok (.aload_n 0, 1) := by decide +kernel
theorem dX4_add_20 : decode cX4_add 20 = .ok (.iload_n 3, 1) := by decide +kernel
theorem dX4_add_21 : decode cX4_add 21 = .ok (.invokevirtual 66, 3) := by decide +kernel
theorem dX4_add_24 : decode cX4_add 24 = .ok (.ifCond .eq 9, 3) := by decide +kernel
theorem dX4_add_27 : decode cX4_add 27 = .ok (.iinc 3 1, 3) := by decide +kernel
theorem dX4_add_30 : decode cX4_add 30 = .ok (.goto (-16), 3) := by decide +kernel
theorem dX4_add_33 : decode cX4_add 33 = .ok (.iload_n 3, 1) := by decide +kernel
theorem dX4_add_34 : decode cX4_add 34 = .ok (.iconst 4, 1) := by decide +kernel
theorem dX4_add_35 : decode cX4_add 35 = .ok (.if_icmp .ne 6, 3) := by decide +kernel
theorem dX4_add_38 : decode cX4_add 38 = .ok (.bipush (-7), 2) := by decide +kernel
theorem dX4_add_40 : decode cX4_add 40 = .ok (.ireturn, 1) := by decide +kernel
theorem dX4_add_41 : decode cX4_add 41 = .ok (.aload_n 0, 1) := by decide +kernel
theorem dX4_add_42 : decode cX4_add 42 = .ok (.iload_n 1, 1) := by decide +kernel
theorem dX4_add_43 : decode cX4_add 43 = .ok (.iload_n 2, 1) := by decide +kernel
theorem dX4_add_44 : decode cX4_add 44 = .ok (.aload_n 0, 1) := by decide +kernel
theorem dX4_add_45 : decode cX4_add 45 = .ok (.getfield 116, 3) := by decide +kernel
theorem dX4_add_48 : decode cX4_add 48 = .ok (.aload_n 0, 1) := by decide +kernel
theorem dX4_add_49 : decode cX4_add 49 = .ok (.getfield 119, 3) := by decide +kernel
theorem dX4_add_52 : decode cX4_add 52 = .ok (.invokevirtual 95, 3) := by decide +kernel
theorem dX4_add_55 : decode cX4_add 55 = .ok (.aload_n 0, 1) := by decide +kernel
theorem dX4_add_56 : decode cX4_add 56 = .ok (.iconst 4, 1) := by decide +kernel
theorem dX4_add_57 : decode cX4_add 57 = .ok (.bipush 8, 2) := by decide +kernel
theorem dX4_add_59 : decode cX4_add 59 = .ok (.iload_n 3, 1) := by decide +kernel
theorem dX4_add_60 : decode cX4_add 60 = .ok (.imul, 1) := by decide +kernel
theorem dX4_add_61 : decode cX4_add 61 = .ok (.iadd, 1) := by decide +kernel
theorem dX4_add_62 : decode cX4_add 62 = .ok (.bipush 8, 2) := by decide +kernel
theorem dX4_add_64 : decode cX4_add 64 = .ok (.invokevirtual 125, 3) := by decide +kernel
theorem dX4_add_67 : decode cX4_add 67 = .ok (.aload_n 0, 1) := by decide +kernel
theorem dX4_add_68 : decode cX4_add 68 = .ok (.invokevirtual 104, 3) := by decide +kernel
theorem dX4_add_71 : decode cX4_add 71 = .ok (.ifCond .eq 7, 3) := by decide +kernel
theorem dX4_add_74 : decode cX4_add 74 = .ok (.iload_n 3, 1) := by decide +kernel
theorem dX4_add_75 : decode cX4_add 75 = .ok (.goto 4, 3) := by decide +kernel
theorem dX4_add_78 : decode cX4_add 78 = .ok (.iconst (-1), 1) := by decide +kernel
theorem dX4_add_79 : decode cX4_add 79 = .ok (.ireturn, 1) := by decide +kernel
theorem dX4_badSlot_0 : decode cX4_badSlot 0 = .ok (.aload_n 0, 1) := by decide +kernel
theorem dX4_badSlot_1 : decode cX4_badSlot 1 = .ok (.invokevirtual 122, 3) := by decide +kernel
theorem dX4_badSlot_4 : decode cX4_badSlot 4 = .ok (.ifCond .ge 8, 3) := by decide +kernel
theorem dX4_badSlot_7 : decode cX4_badSlot 7 = .ok (.aload_n 0, 1) := by decide +kernel
theorem dX4_badSlot_8 : decode cX4_badSlot 8 = .ok (.invokevirtual 122, 3) := by decide +kernel
theorem dX4_badSlot_11 : decode cX4_badSlot 11 = .ok (.ireturn, 1) := by decide +kernel
theorem dX4_badSlot_12 : decode cX4_badSlot 12 = .ok (.iload_n 1, 1) := by decide +kernel
theorem dX4_badSlot_13 : decode cX4_badSlot 13 = .ok (.ifCond .lt 8, 3) := by decide +kernel
theorem dX4_badSlot_16 : decode cX4_badSlot 16 = .ok (.iload_n 1, 1) := by decide +kernel
theorem dX4_badSlot_17 : decode cX4_badSlot 17 = .ok (.iconst 3, 1) := by decide +kernel
theorem dX4_badSlot_18 : decode cX4_badSlot 18 = .ok (.if_icmp .le 6, 3) := by decide +kernel
theorem dX4_badSlot_21 : decode cX4_badSlot 21 = .ok (.bipush (-5), 2) := by decide +kernel
theorem dX4_badSlot_23 : decode cX4_badSlot 23 = .ok (.ireturn, 1) := by decide +kernel
theorem dX4_badSlot_24 : decode cX4_badSlot 24 = .ok (.aload_n 0, 1) := by decide +kernel
theorem dX4_badSlot_25 : decode cX4_badSlot 25 = .ok (.iload_n 1, 1) := by decide +kernel
theorem dX4_badSlot_26 : decode cX4_badSlot 26 = .ok (.invokevirtual 66, 3) := by decide +kernel
theorem dX4_badSlot_29 : decode cX4_badSlot 29 = .ok (.ifCond .eq 7, 3) := by decide +kernel
theorem dX4_badSlot_32 : decode cX4_badSlot 32 = .ok (.iconst 0, 1) := by decide +kernel
theorem dX4_badSlot_33 : decode cX4_badSlot 33 = .ok (.goto 5, 3) := by decide +kernel
theorem dX4_badSlot_36 : decode cX4_badSlot 36 = .ok (.bipush (-6), 2) := by decide +kernel
theorem dX4_badSlot_38 : decode cX4_badSlot 38 = .ok (.ireturn, 1) := by decide +kernel
theorem dX4_change_0 : decode cX4_change 0 = .ok (.aload_n 0, 1) := by decide +kernel
theorem dX4_change_1 : decode cX4_change 1 = .ok (.iload_n 1, 1) := by decide +kernel
theorem dX4_change_2 : decode cX4_change 2 = .ok (.invokevirtual 128, 3) := by decide +kernel
theorem dX4_change_5 : decode cX4_change 5 = .ok (.ifCond .ge 9, 3) := by decide +kernel
theorem dX4_change_8 : decode cX4_change 8 = .ok (.aload_n 0, 1) := by decide +kernel
theorem dX4_change_9 : decode cX4_change 9 = .ok (.iload_n 1, 1) := by decide +kernel
theorem dX4_change_10 : decode cX4_change 10 = .ok (.invokevirtual 128, 3) := by decide +kernel
theorem dX4_change_13 : decode cX4_change 13 = .ok (.ireturn, 1) := by decide +kernel
theorem dX4_change_14 : decode cX4_change 14 = .ok (.aload_n 0, 1) := by decide +kernel
theorem dX4_change_15 : decode cX4_change 15 = .ok (.iload_n 2, 1) := by decide +kernel
theorem dX4_change_16 : decode cX4_change 16 = .ok (.iload_n 3, 1) := by decide +kernel
theorem dX4_change_17 : decode cX4_change 17 = .ok (.aload_n 0, 1) := by decide +kernel
theorem dX4_change_18 : decode cX4_change 18 = .ok (.getfield 116, 3) := by decide +kernel
theorem dX4_change_21 : decode cX4_change 21 = .ok (.aload_n 0, 1) := by decide +kernel
theorem dX4_change_22 : decode cX4_change 22 = .ok (.getfield 119, 3) := by decide +kernel
theorem dX4_change_25 : decode cX4_change 25 = .ok (.invokevirtual 95, 3) := by decide +kernel
theorem dX4_change_28 : decode cX4_change 28 = .ok (.aload_n 0, 1) := by decide +kernel
theorem dX4_change_29 : decode cX4_change 29 = .ok (.iconst 4, 1) := by decide +kernel
theorem dX4_change_30 : decode cX4_change 30 = .ok (.bipush 8, 2) := by decide +kernel
theorem dX4_change_32 : decode cX4_change 32 = .ok (.iload_n 1, 1) := by decide +kernel
theorem dX4_change_33 : decode cX4_change 33 = .ok (.imul, 1) := by decide +kernel
theorem dX4_change_34 : decode cX4_change 34 = .ok (.iadd, 1) := by decide +kernel
theorem dX4_change_35 : decode cX4_change 35 = .ok (.bipush 8, 2) := by decide +kernel
theorem dX4_change_37 : decode cX4_change 37 = .ok (.invokevirtual 125, 3) := by decide +kernel
theorem dX4_change_40 : decode cX4_change 40 = .ok (.aload_n 0, 1) := by decide +kernel
theorem dX4_change_41 : decode cX4_change 41 = .ok (.invokevirtual 104, 3) := by decide +kernel
theorem dX4_change_44 : decode cX4_change 44 = .ok (.ifCond .eq 7, 3) := by decide +kernel
theorem dX4_change_47 : decode cX4_change 47 = .ok (.iconst 0, 1) := by decide +kernel
theorem dX4_change_48 : decode cX4_change 48 = .ok (.goto 4, 3) := by decide +kernel
theorem dX4_change_51 : decode cX4_change 51 = .ok (.iconst (-1), 1) := by decide +kernel
theorem dX4_change_52 : decode cX4_change 52 = .ok (.ireturn, 1) := by decide +kernel
theorem dX4_revoke_0 : decode cX4_revoke 0 = .ok (.aload_n 0, 1) := by decide +kernel
theorem dX4_revoke_1 : decode cX4_revoke 1 = .ok (.iload_n 1, 1) := by decide +kernel
theorem dX4_revoke_2 : decode cX4_revoke 2 = .ok (.invokevirtual 128, 3) := by decide +kernel
theorem dX4_revoke_5 : decode cX4_revoke 5 = .ok (.ifCond .ge 9, 3) := by decide +kernel
theorem dX4_revoke_8 : decode cX4_revoke 8 = .ok (.aload_n 0, 1) := by decide +kernel
theorem dX4_revoke_9 : decode cX4_revoke 9 = .ok (.iload_n 1, 1) := by decide +kernel
theorem dX4_revoke_10 : decode cX4_revoke 10 = .ok (.invokevirtual 128, 3) := by decide +kernel
theorem dX4_revoke_13 : decode cX4_revoke 13 = .ok (.ireturn, 1) := by decide +kernel
theorem dX4_revoke_14 : decode cX4_revoke 14 = .ok (.aload_n 0, 1) := by decide +kernel
theorem dX4_revoke_15 : decode cX4_revoke 15 = .ok (.invokevirtual 108, 3) := by decide +kernel
theorem dX4_revoke_18 : decode cX4_revoke 18 = .ok (.iconst 1, 1) := by decide +kernel
theorem dX4_revoke_19 : decode cX4_revoke 19 = .ok (.if_icmp .ne 6, 3) := by decide +kernel
theorem dX4_revoke_22 : decode cX4_revoke 22 = .ok (.bipush (-8), 2) := by decide +kernel
theorem dX4_revoke_24 : decode cX4_revoke 24 = .ok (.ireturn, 1) := by decide +kernel
theorem dX4_revoke_25 : decode cX4_revoke 25 = .ok (.iconst 0, 1) := by decide +kernel
theorem dX4_revoke_26 : decode cX4_revoke 26 = .ok (.istore_n 2, 1) := by decide +kernel
theorem dX4_revoke_27 : decode cX4_revoke 27 = .ok (.iload_n 2, 1) := by decide +kernel
theorem dX4_revoke_28 : decode cX4_revoke 28 = .ok (.bipush 8, 2) := by decide +kernel
theorem dX4_revoke_30 : decode cX4_revoke 30 = .ok (.if_icmp .ge 16, 3) := by decide +kernel
theorem dX4_revoke_33 : decode cX4_revoke 33 = .ok (.aload_n 0, 1) := by decide +kernel
theorem dX4_revoke_34 : decode cX4_revoke 34 = .ok (.getfield 26, 3) := by decide +kernel
theorem dX4_revoke_37 : decode cX4_revoke 37 = .ok (.iload_n 2, 1) := by decide +kernel
theorem dX4_revoke_38 : decode cX4_revoke 38 = .ok (.iconst 0, 1) := by decide +kernel
theorem dX4_revoke_39 : decode cX4_revoke 39 = .ok (.iastore, 1) := by decide +kernel
theorem dX4_revoke_40 : decode cX4_revoke 40 = .ok (.iinc 2 1, 3) := by decide +kernel
theorem dX4_revoke_43 : decode cX4_revoke 43 = .ok (.goto (-16), 3) := by decide +kernel
theorem dX4_revoke_46 : decode cX4_revoke 46 = .ok (.aload_n 0, 1) := by decide +kernel
theorem dX4_revoke_47 : decode cX4_revoke 47 = .ok (.iconst 4, 1) := by decide +kernel
theorem dX4_revoke_48 : decode cX4_revoke 48 = .ok (.bipush 8, 2) := by decide +kernel
theorem dX4_revoke_50 : decode cX4_revoke 50 = .ok (.iload_n 1, 1) := by decide +kernel
theorem dX4_revoke_51 : decode cX4_revoke 51 = .ok (.imul, 1) := by decide +kernel
theorem dX4_revoke_52 : decode cX4_revoke 52 = .ok (.iadd, 1) := by decide +kernel
theorem dX4_revoke_53 : decode cX4_revoke 53 = .ok (.bipush 8, 2) := by decide +kernel
theorem dX4_revoke_55 : decode cX4_revoke 55 = .ok (.invokevirtual 125, 3) := by decide +kernel
theorem dX4_revoke_58 : decode cX4_revoke 58 = .ok (.aload_n 0, 1) := by decide +kernel
theorem dX4_revoke_59 : decode cX4_revoke 59 = .ok (.invokevirtual 104, 3) := by decide +kernel
theorem dX4_revoke_62 : decode cX4_revoke 62 = .ok (.ifCond .eq 7, 3) := by decide +kernel
theorem dX4_revoke_65 : decode cX4_revoke 65 = .ok (.iconst 0, 1) := by decide +kernel
theorem dX4_revoke_66 : decode cX4_revoke 66 = .ok (.goto 4, 3) := by decide +kernel
theorem dX4_revoke_69 : decode cX4_revoke 69 = .ok (.iconst (-1), 1) := by decide +kernel
theorem dX4_revoke_70 : decode cX4_revoke 70 = .ok (.ireturn, 1) := by decide +kernel
theorem dX4_badWord_0 : decode cX4_badWord 0 = .ok (.aload_n 0, 1) := by decide +kernel
theorem dX4_badWord_1 : decode cX4_badWord 1 = .ok (.invokevirtual 122, 3) := by decide +kernel
theorem dX4_badWord_4 : decode cX4_badWord 4 = .ok (.ifCond .ge 8, 3) := by decide +kernel
theorem dX4_badWord_7 : decode cX4_badWord 7 = .ok (.aload_n 0, 1) := by decide +kernel
theorem dX4_badWord_8 : decode cX4_badWord 8 = .ok (.invokevirtual 122, 3) := by decide +kernel
theorem dX4_badWord_11 : decode cX4_badWord 11 = .ok (.ireturn, 1) := by decide +kernel
theorem dX4_badWord_12 : decode cX4_badWord 12 = .ok (.iload_n 1, 1) := by decide +kernel
theorem dX4_badWord_13 : decode cX4_badWord 13 = .ok (.ifCond .lt 18, 3) := by decide +kernel
theorem dX4_badWord_16 : decode cX4_badWord 16 = .ok (.iload_n 1, 1) := by decide +kernel
theorem dX4_badWord_17 : decode cX4_badWord 17 = .ok (.bipush 7, 2) := by decide +kernel
theorem dX4_badWord_19 : decode cX4_badWord 19 = .ok (.if_icmp .gt 12, 3) := by decide +kernel
theorem dX4_badWord_22 : decode cX4_badWord 22 = .ok (.iload_n 2, 1) := by decide +kernel
theorem dX4_badWord_23 : decode cX4_badWord 23 = .ok (.ifCond .lt 8, 3) := by decide +kernel
theorem dX4_badWord_26 : decode cX4_badWord 26 = .ok (.iload_n 2, 1) := by decide +kernel
theorem dX4_badWord_27 : decode cX4_badWord 27 = .ok (.iconst 3, 1) := by decide +kernel
theorem dX4_badWord_28 : decode cX4_badWord 28 = .ok (.if_icmp .le 8, 3) := by decide +kernel
theorem dX4_badWord_31 : decode cX4_badWord 31 = .ok (.bipush (-5), 2) := by decide +kernel
theorem dX4_badWord_33 : decode cX4_badWord 33 = .ok (.goto 4, 3) := by decide +kernel
theorem dX4_badWord_36 : decode cX4_badWord 36 = .ok (.iconst 0, 1) := by decide +kernel
theorem dX4_badWord_37 : decode cX4_badWord 37 = .ok (.ireturn, 1) := by decide +kernel
theorem dX4_write_0 : decode cX4_write 0 = .ok (.aload_n 0, 1) := by decide +kernel
theorem dX4_write_1 : decode cX4_write 1 = .ok (.iload_n 1, 1) := by decide +kernel
theorem dX4_write_2 : decode cX4_write 2 = .ok (.iload_n 2, 1) := by decide +kernel
theorem dX4_write_3 : decode cX4_write 3 = .ok (.invokevirtual 131, 3) := by decide +kernel
theorem dX4_write_6 : decode cX4_write 6 = .ok (.ifCond .ge 10, 3) := by decide +kernel
theorem dX4_write_9 : decode cX4_write 9 = .ok (.aload_n 0, 1) := by decide +kernel
theorem dX4_write_10 : decode cX4_write 10 = .ok (.iload_n 1, 1) := by decide +kernel
theorem dX4_write_11 : decode cX4_write 11 = .ok (.iload_n 2, 1) := by decide +kernel
theorem dX4_write_12 : decode cX4_write 12 = .ok (.invokevirtual 131, 3) := by decide +kernel
theorem dX4_write_15 : decode cX4_write 15 = .ok (.ireturn, 1) := by decide +kernel
theorem dX4_write_16 : decode cX4_write 16 = .ok (.iconst 0, 1) := by decide +kernel
theorem dX4_write_17 : decode cX4_write 17 = .ok (.istore 4, 2) := by decide +kernel
theorem dX4_write_19 : decode cX4_write 19 = .ok (.iload 4, 2) := by decide +kernel
theorem dX4_write_21 : decode cX4_write 21 = .ok (.iconst 4, 1) := by decide +kernel
theorem dX4_write_22 : decode cX4_write 22 = .ok (.if_icmp .ge 72, 3) := by decide +kernel
theorem dX4_write_25 : decode cX4_write 25 = .ok (.iload 4, 2) := by decide +kernel
theorem dX4_write_27 : decode cX4_write 27 = .ok (.iload_n 2, 1) := by decide +kernel
theorem dX4_write_28 : decode cX4_write 28 = .ok (.if_icmp .ne 7, 3) := by decide +kernel
theorem dX4_write_31 : decode cX4_write 31 = .ok (.iload_n 3, 1) := by decide +kernel
theorem dX4_write_32 : decode cX4_write 32 = .ok (.goto 31, 3) := by decide +kernel
theorem dX4_write_35 : decode cX4_write 35 = .ok (.aload_n 0, 1) := by decide +kernel
theorem dX4_write_36 : decode cX4_write 36 = .ok (.getfield 116, 3) := by decide +kernel
theorem dX4_write_39 : decode cX4_write 39 = .ok (.aload_n 0, 1) := by decide +kernel
theorem dX4_write_40 : decode cX4_write 40 = .ok (.getfield 119, 3) := by decide +kernel
theorem dX4_write_43 : decode cX4_write 43 = .ok (.iload_n 1, 1) := by decide +kernel
theorem dX4_write_44 : decode cX4_write 44 = .ok (.iload 4, 2) := by decide +kernel
theorem dX4_write_46 : decode cX4_write 46 = .ok (.aload_n 0, 1) := by decide +kernel
theorem dX4_write_47 : decode cX4_write 47 = .ok (.getfield 7, 3) := by decide +kernel
theorem dX4_write_50 : decode cX4_write 50 = .ok (.bipush 48, 2) := by decide +kernel
theorem dX4_write_52 : decode cX4_write 52 = .ok (.iconst 4, 1) := by decide +kernel
theorem dX4_write_53 : decode cX4_write 53 = .ok (.iload_n 1, 1) := by decide +kernel
theorem dX4_write_54 : decode cX4_write 54 = .ok (.imul, 1) := by decide +kernel
theorem dX4_write_55 : decode cX4_write 55 = .ok (.iadd, 1) := by decide +kernel
theorem dX4_write_56 : decode cX4_write 56 = .ok (.iload 4, 2) := by decide +kernel
theorem dX4_write_58 : decode cX4_write 58 = .ok (.iadd, 1) := by decide +kernel
theorem dX4_write_59 : decode cX4_write 59 = .ok (.iaload, 1) := by decide +kernel
theorem dX4_write_60 : decode cX4_write 60 = .ok (.invokestatic 134, 3) := by decide +kernel
theorem dX4_write_63 : decode cX4_write 63 = .ok (.istore 5, 2) := by decide +kernel
theorem dX4_write_65 : decode cX4_write 65 = .ok (.aload_n 0, 1) := by decide +kernel
theorem dX4_write_66 : decode cX4_write 66 = .ok (.getfield 26, 3) := by decide +kernel
theorem dX4_write_69 : decode cX4_write 69 = .ok (.iload 4, 2) := by decide +kernel
theorem dX4_write_71 : decode cX4_write 71 = .ok (.aload_n 0, 1) := by decide +kernel
theorem dX4_write_72 : decode cX4_write 72 = .ok (.getfield 116, 3) := by decide +kernel
theorem dX4_write_75 : decode cX4_write 75 = .ok (.aload_n 0, 1) := by decide +kernel
theorem dX4_write_76 : decode cX4_write 76 = .ok (.getfield 119, 3) := by decide +kernel
theorem dX4_write_79 : decode cX4_write 79 = .ok (.iload_n 1, 1) := by decide +kernel
theorem dX4_write_80 : decode cX4_write 80 = .ok (.iload 4, 2) := by decide +kernel
theorem dX4_write_82 : decode cX4_write 82 = .ok (.iload 5, 2) := by decide +kernel
theorem dX4_write_84 : decode cX4_write 84 = .ok (.invokestatic 99, 3) := by decide +kernel
theorem dX4_write_87 : decode cX4_write 87 = .ok (.iastore, 1) := by decide +kernel
theorem dX4_write_88 : decode cX4_write 88 = .ok (.iinc 4 1, 3) := by decide +kernel
theorem dX4_write_91 : decode cX4_write 91 = .ok (.goto (-72), 3) := by decide +kernel
theorem dX4_write_94 : decode cX4_write 94 = .ok (.aload_n 0, 1) := by decide +kernel
theorem dX4_write_95 : decode cX4_write 95 = .ok (.bipush 48, 2) := by decide +kernel
theorem dX4_write_97 : decode cX4_write 97 = .ok (.iconst 4, 1) := by decide +kernel
theorem dX4_write_98 : decode cX4_write 98 = .ok (.iload_n 1, 1) := by decide +kernel
theorem dX4_write_99 : decode cX4_write 99 = .ok (.imul, 1) := by decide +kernel
theorem dX4_write_100 : decode cX4_write 100 = .ok (.iadd, 1) := by decide +kernel
theorem dX4_write_101 : decode cX4_write 101 = .ok (.iconst 4, 1) := by decide +kernel
theorem dX4_write_102 : decode cX4_write 102 = .ok (.invokevirtual 125, 3) := by decide +kernel
theorem dX4_write_105 : decode cX4_write 105 = .ok (.aload_n 0, 1) := by decide +kernel
theorem dX4_write_106 : decode cX4_write 106 = .ok (.invokevirtual 104, 3) := by decide +kernel
theorem dX4_write_109 : decode cX4_write 109 = .ok (.ifCond .eq 7, 3) := by decide +kernel
theorem dX4_write_112 : decode cX4_write 112 = .ok (.iconst 0, 1) := by decide +kernel
theorem dX4_write_113 : decode cX4_write 113 = .ok (.goto 4, 3) := by decide +kernel
theorem dX4_write_116 : decode cX4_write 116 = .ok (.iconst (-1), 1) := by decide +kernel
theorem dX4_write_117 : decode cX4_write 117 = .ok (.ireturn, 1) := by decide +kernel
theorem dX4_read_0 : decode cX4_read 0 = .ok (.aload_n 0, 1) := by decide +kernel
theorem dX4_read_1 : decode cX4_read 1 = .ok (.iload_n 1, 1) := by decide +kernel
theorem dX4_read_2 : decode cX4_read 2 = .ok (.iload_n 2, 1) := by decide +kernel
theorem dX4_read_3 : decode cX4_read 3 = .ok (.invokevirtual 131, 3) := by decide +kernel
theorem dX4_read_6 : decode cX4_read 6 = .ok (.ifCond .ge 11, 3) := by decide +kernel
theorem dX4_read_9 : decode cX4_read 9 = .ok (.aload_n 0, 1) := by decide +kernel
theorem dX4_read_10 : decode cX4_read 10 = .ok (.iload_n 1, 1) := by decide +kernel
theorem dX4_read_11 : decode cX4_read 11 = .ok (.iload_n 2, 1) := by decide +kernel
theorem dX4_read_12 : decode cX4_read 12 = .ok (.invokevirtual 131, 3) := by decide +kernel
theorem dX4_read_15 : decode cX4_read 15 = .ok (.i2l, 1) := by decide +kernel
theorem dX4_read_16 : decode cX4_read 16 = .ok (.lreturn, 1) := by decide +kernel
theorem dX4_read_17 : decode cX4_read 17 = .ok (.aload_n 0, 1) := by decide +kernel
theorem dX4_read_18 : decode cX4_read 18 = .ok (.getfield 116, 3) := by decide +kernel
theorem dX4_read_21 : decode cX4_read 21 = .ok (.aload_n 0, 1) := by decide +kernel
theorem dX4_read_22 : decode cX4_read 22 = .ok (.getfield 119, 3) := by decide +kernel
theorem dX4_read_25 : decode cX4_read 25 = .ok (.iload_n 1, 1) := by decide +kernel
theorem dX4_read_26 : decode cX4_read 26 = .ok (.iload_n 2, 1) := by decide +kernel
theorem dX4_read_27 : decode cX4_read 27 = .ok (.aload_n 0, 1) := by decide +kernel
theorem dX4_read_28 : decode cX4_read 28 = .ok (.getfield 7, 3) := by decide +kernel
theorem dX4_read_31 : decode cX4_read 31 = .ok (.bipush 48, 2) := by decide +kernel
theorem dX4_read_33 : decode cX4_read 33 = .ok (.iconst 4, 1) := by decide +kernel
theorem dX4_read_34 : decode cX4_read 34 = .ok (.iload_n 1, 1) := by decide +kernel
theorem dX4_read_35 : decode cX4_read 35 = .ok (.imul, 1) := by decide +kernel
theorem dX4_read_36 : decode cX4_read 36 = .ok (.iadd, 1) := by decide +kernel
theorem dX4_read_37 : decode cX4_read 37 = .ok (.iload_n 2, 1) := by decide +kernel
theorem dX4_read_38 : decode cX4_read 38 = .ok (.iadd, 1) := by decide +kernel
theorem dX4_read_39 : decode cX4_read 39 = .ok (.iaload, 1) := by decide +kernel
theorem dX4_read_40 : decode cX4_read 40 = .ok (.invokestatic 134, 3) := by decide +kernel
theorem dX4_read_43 : decode cX4_read 43 = .ok (.istore_n 3, 1) := by decide +kernel
theorem dX4_read_44 : decode cX4_read 44 = .ok (.iload_n 3, 1) := by decide +kernel
theorem dX4_read_45 : decode cX4_read 45 = .ok (.ifCond .ge 12, 3) := by decide +kernel
theorem dX4_read_48 : decode cX4_read 48 = .ok (.iload_n 3, 1) := by decide +kernel
theorem dX4_read_49 : decode cX4_read 49 = .ok (.i2l, 1) := by decide +kernel
theorem dX4_read_50 : decode cX4_read 50 = .ok (.ldc2_w 137, 3) := by decide +kernel
theorem dX4_read_53 : decode cX4_read 53 = .ok (.ladd, 1) := by decide +kernel
theorem dX4_read_54 : decode cX4_read 54 = .ok (.goto 5, 3) := by decide +kernel
theorem dX4_read_57 : decode cX4_read 57 = .ok (.iload_n 3, 1) := by decide +kernel
theorem dX4_read_58 : decode cX4_read 58 = .ok (.i2l, 1) := by decide +kernel
theorem dX4_read_59 : decode cX4_read 59 = .ok (.lreturn, 1) := by decide +kernel
theorem dX4_state_0 : decode cX4_state 0 = .ok (.aload_n 0, 1) := by decide +kernel
theorem dX4_state_1 : decode cX4_state 1 = .ok (.getfield 89, 3) := by decide +kernel
theorem dX4_state_4 : decode cX4_state 4 = .ok (.ireturn, 1) := by decide +kernel
theorem dX4_slots_0 : decode cX4_slots 0 = .ok (.iconst 0, 1) := by decide +kernel
theorem dX4_slots_1 : decode cX4_slots 1 = .ok (.istore_n 1, 1) := by decide +kernel
theorem dX4_slots_2 : decode cX4_slots 2 = .ok (.iconst 0, 1) := by decide +kernel
theorem dX4_slots_3 : decode cX4_slots 3 = .ok (.istore_n 2, 1) := by decide +kernel
theorem dX4_slots_4 : decode cX4_slots 4 = .ok (.iload_n 2, 1) := by decide +kernel
theorem dX4_slots_5 : decode cX4_slots 5 = .ok (.iconst 4, 1) := by decide +kernel
theorem dX4_slots_6 : decode cX4_slots 6 = .ok (.if_icmp .ge 27, 3) := by decide +kernel
theorem dX4_slots_9 : decode cX4_slots 9 = .ok (.iload_n 1, 1) := by decide +kernel
theorem dX4_slots_10 : decode cX4_slots 10 = .ok (.aload_n 0, 1) := by decide +kernel
theorem dX4_slots_11 : decode cX4_slots 11 = .ok (.iload_n 2, 1) := by decide +kernel
theorem dX4_slots_12 : decode cX4_slots 12 = .ok (.invokevirtual 66, 3) := by decide +kernel
theorem dX4_slots_15 : decode cX4_slots 15 = .ok (.ifCond .eq 9, 3) := by decide +kernel
theorem dX4_slots_18 : decode cX4_slots 18 = .ok (.iconst 1, 1) := by decide +kernel
theorem dX4_slots_19 : decode cX4_slots 19 = .ok (.iload_n 2, 1) := by decide +kernel
theorem dX4_slots_20 : decode cX4_slots 20 = .ok (.ishl, 1) := by decide +kernel
theorem dX4_slots_21 : decode cX4_slots 21 = .ok (.goto 4, 3) := by decide +kernel
theorem dX4_slots_24 : decode cX4_slots 24 = .ok (.iconst 0, 1) := by decide +kernel
theorem dX4_slots_25 : decode cX4_slots 25 = .ok (.iadd, 1) := by decide +kernel
theorem dX4_slots_26 : decode cX4_slots 26 = .ok (.istore_n 1, 1) := by decide +kernel
theorem dX4_slots_27 : decode cX4_slots 27 = .ok (.iinc 2 1, 3) := by decide +kernel
theorem dX4_slots_30 : decode cX4_slots 30 = .ok (.goto (-26), 3) := by decide +kernel
theorem dX4_slots_33 : decode cX4_slots 33 = .ok (.iload_n 1, 1) := by decide +kernel
theorem dX4_slots_34 : decode cX4_slots 34 = .ok (.ireturn, 1) := by decide +kernel
theorem dX4_peek_0 : decode cX4_peek 0 = .ok (.iload_n 1, 1) := by decide +kernel
theorem dX4_peek_1 : decode cX4_peek 1 = .ok (.ifCond .lt 9, 3) := by decide +kernel
theorem dX4_peek_4 : decode cX4_peek 4 = .ok (.iload_n 1, 1) := by decide +kernel
theorem dX4_peek_5 : decode cX4_peek 5 = .ok (.bipush 79, 2) := by decide +kernel
theorem dX4_peek_7 : decode cX4_peek 7 = .ok (.if_icmp .le 7, 3) := by decide +kernel
theorem dX4_peek_10 : decode cX4_peek 10 = .ok (.iconst 0, 1) := by decide +kernel
theorem dX4_peek_11 : decode cX4_peek 11 = .ok (.goto 9, 3) := by decide +kernel
theorem dX4_peek_14 : decode cX4_peek 14 = .ok (.aload_n 0, 1) := by decide +kernel
theorem dX4_peek_15 : decode cX4_peek 15 = .ok (.getfield 7, 3) := by decide +kernel
theorem dX4_peek_18 : decode cX4_peek 18 = .ok (.iload_n 1, 1) := by decide +kernel
theorem dX4_peek_19 : decode cX4_peek 19 = .ok (.iaload, 1) := by decide +kernel
theorem dX4_peek_20 : decode cX4_peek 20 = .ok (.ireturn, 1) := by decide +kernel
theorem dX4_writes_0 : decode cX4_writes 0 = .ok (.aload_n 0, 1) := by decide +kernel
theorem dX4_writes_1 : decode cX4_writes 1 = .ok (.getfield 92, 3) := by decide +kernel
theorem dX4_writes_4 : decode cX4_writes 4 = .ok (.ireturn, 1) := by decide +kernel
end
section
theorem dL_law_0 : decode cL_law 0 = .ok (.new 7, 3) := by decide +kernel
theorem dL_law_3 : decode cL_law 3 = .ok (.dup, 1) := by decide +kernel
theorem dL_law_4 : decode cL_law 4 = .ok (.invokespecial 9, 3) := by decide +kernel
theorem dL_law_7 : decode cL_law 7 = .ok (.astore_n 1, 1) := by decide +kernel
theorem dL_law_8 : decode cL_law 8 = .ok (.new 10, 3) := by decide +kernel
theorem dL_law_11 : decode cL_law 11 = .ok (.dup, 1) := by decide +kernel
theorem dL_law_12 : decode cL_law 12 = .ok (.invokespecial 12, 3) := by decide +kernel
theorem dL_law_15 : decode cL_law 15 = .ok (.astore_n 2, 1) := by decide +kernel
theorem dL_law_16 : decode cL_law 16 = .ok (.iconst 0, 1) := by decide +kernel
theorem dL_law_17 : decode cL_law 17 = .ok (.istore_n 3, 1) := by decide +kernel
theorem dL_law_18 : decode cL_law 18 = .ok (.iload_n 3, 1) := by decide +kernel
theorem dL_law_19 : decode cL_law 19 = .ok (.aload_n 0, 1) := by decide +kernel
theorem dL_law_20 : decode cL_law 20 = .ok (.arraylength, 1) := by decide +kernel
theorem dL_law_21 : decode cL_law 21 = .ok (.iconst 5, 1) := by decide +kernel
theorem dL_law_22 : decode cL_law 22 = .ok (.isub, 1) := by decide +kernel
theorem dL_law_23 : decode cL_law 23 = .ok (.if_icmp .gt 450, 3) := by decide +kernel
theorem dL_law_26 : decode cL_law 26 = .ok (.aload_n 0, 1) := by decide +kernel
theorem dL_law_27 : decode cL_law 27 = .ok (.iload_n 3, 1) := by decide +kernel
theorem dL_law_28 : decode cL_law 28 = .ok (.iaload, 1) := by decide +kernel
theorem dL_law_29 : decode cL_law 29 = .ok (.bipush 15, 2) := by decide +kernel
theorem dL_law_31 : decode cL_law 31 = .ok (.iand, 1) := by decide +kernel
theorem dL_law_32 : decode cL_law 32 = .ok (.tableswitch 435 0 13 #[72, 95, 148, 161, 184, 197, 230, 273, 296, 339, 373, 386, 399, 422], 72) := by decide +kernel
theorem dL_law_104 : decode cL_law 104 = .ok (.aload_n 1, 1) := by decide +kernel
theorem dL_law_105 : decode cL_law 105 = .ok (.aload_n 0, 1) := by decide +kernel
theorem dL_law_106 : decode cL_law 106 = .ok (.iload_n 3, 1) := by decide +kernel
theorem dL_law_107 : decode cL_law 107 = .ok (.iconst 1, 1) := by decide +kernel
theorem dL_law_108 : decode cL_law 108 = .ok (.iadd, 1) := by decide +kernel
theorem dL_law_109 : decode cL_law 109 = .ok (.iaload, 1) := by decide +kernel
theorem dL_law_110 : decode cL_law 110 = .ok (.invokevirtual 13, 3) := by decide +kernel
theorem dL_law_113 : decode cL_law 113 = .ok (.aload_n 2, 1) := by decide +kernel
theorem dL_law_114 : decode cL_law 114 = .ok (.aload_n 0, 1) := by decide +kernel
theorem dL_law_115 : decode cL_law 115 = .ok (.iload_n 3, 1) := by decide +kernel
theorem dL_law_116 : decode cL_law 116 = .ok (.iconst 1, 1) := by decide +kernel
theorem dL_law_117 : decode cL_law 117 = .ok (.iadd, 1) := by decide +kernel
theorem dL_law_118 : decode cL_law 118 = .ok (.iaload, 1) := by decide +kernel
theorem dL_law_119 : decode cL_law 119 = .ok (.invokevirtual 17, 3) := by decide +kernel
theorem dL_law_122 : decode cL_law 122 = .ok (.if_icmp .eq 345, 3) := by decide +kernel
theorem dL_law_125 : decode cL_law 125 = .ok (.iconst 0, 1) := by decide +kernel
theorem dL_law_126 : decode cL_law 126 = .ok (.ireturn, 1) := by decide +kernel
theorem dL_law_127 : decode cL_law 127 = .ok (.aload_n 1, 1) := by decide +kernel
theorem dL_law_128 : decode cL_law 128 = .ok (.aload_n 0, 1) := by decide +kernel
theorem dL_law_129 : decode cL_law 129 = .ok (.iload_n 3, 1) := by decide +kernel
theorem dL_law_130 : decode cL_law 130 = .ok (.iconst 1, 1) := by decide +kernel
theorem dL_law_131 : decode cL_law 131 = .ok (.iadd, 1) := by decide +kernel
theorem dL_law_132 : decode cL_law 132 = .ok (.iaload, 1) := by decide +kernel
theorem dL_law_133 : decode cL_law 133 = .ok (.aload_n 0, 1) := by decide +kernel
theorem dL_law_134 : decode cL_law 134 = .ok (.iload_n 3, 1) := by decide +kernel
theorem dL_law_135 : decode cL_law 135 = .ok (.iconst 2, 1) := by decide +kernel
theorem dL_law_136 : decode cL_law 136 = .ok (.iadd, 1) := by decide +kernel
theorem dL_law_137 : decode cL_law 137 = .ok (.iaload, 1) := by decide +kernel
theorem dL_law_138 : decode cL_law 138 = .ok (.aload_n 0, 1) := by decide +kernel
theorem dL_law_139 : decode cL_law 139 = .ok (.iload_n 3, 1) := by decide +kernel
theorem dL_law_140 : decode cL_law 140 = .ok (.iconst 3, 1) := by decide +kernel
theorem dL_law_141 : decode cL_law 141 = .ok (.iadd, 1) := by decide +kernel
theorem dL_law_142 : decode cL_law 142 = .ok (.iaload, 1) := by decide +kernel
theorem dL_law_143 : decode cL_law 143 = .ok (.aload_n 0, 1) := by decide +kernel
theorem dL_law_144 : decode cL_law 144 = .ok (.iload_n 3, 1) := by decide +kernel
theorem dL_law_145 : decode cL_law 145 = .ok (.iconst 4, 1) := by decide +kernel
theorem dL_law_146 : decode cL_law 146 = .ok (.iadd, 1) := by decide +kernel
theorem dL_law_147 : decode cL_law 147 = .ok (.iaload, 1) := by decide +kernel
theorem dL_law_148 : decode cL_law 148 = .ok (.invokevirtual 18, 3) := by decide +kernel
theorem dL_law_151 : decode cL_law 151 = .ok (.aload_n 2, 1) := by decide +kernel
theorem dL_law_152 : decode cL_law 152 = .ok (.aload_n 0, 1) := by decide +kernel
theorem dL_law_153 : decode cL_law 153 = .ok (.iload_n 3, 1) := by decide +kernel
theorem dL_law_154 : decode cL_law 154 = .ok (.iconst 1, 1) := by decide +kernel
theorem dL_law_155 : decode cL_law 155 = .ok (.iadd, 1) := by decide +kernel
theorem dL_law_156 : decode cL_law 156 = .ok (.iaload, 1) := by decide +kernel
theorem dL_law_157 : decode cL_law 157 = .ok (.aload_n 0, 1) := by decide +kernel
theorem dL_law_158 : decode cL_law 158 = .ok (.iload_n 3, 1) := by decide +kernel
theorem dL_law_159 : decode cL_law 159 = .ok (.iconst 2, 1) := by decide +kernel
theorem dL_law_160 : decode cL_law 160 = .ok (.iadd, 1) := by decide +kernel
theorem dL_law_161 : decode cL_law 161 = .ok (.iaload, 1) := by decide +kernel
theorem dL_law_162 : decode cL_law 162 = .ok (.aload_n 0, 1) := by decide +kernel
theorem dL_law_163 : decode cL_law 163 = .ok (.iload_n 3, 1) := by decide +kernel
theorem dL_law_164 : decode cL_law 164 = .ok (.iconst 3, 1) := by decide +kernel
theorem dL_law_165 : decode cL_law 165 = .ok (.iadd, 1) := by decide +kernel
theorem dL_law_166 : decode cL_law 166 = .ok (.iaload, 1) := by decide +kernel
theorem dL_law_167 : decode cL_law 167 = .ok (.aload_n 0, 1) := by decide +kernel
theorem dL_law_168 : decode cL_law 168 = .ok (.iload_n 3, 1) := by decide +kernel
theorem dL_law_169 : decode cL_law 169 = .ok (.iconst 4, 1) := by decide +kernel
theorem dL_law_170 : decode cL_law 170 = .ok (.iadd, 1) := by decide +kernel
theorem dL_law_171 : decode cL_law 171 = .ok (.iaload, 1) := by decide +kernel
theorem dL_law_172 : decode cL_law 172 = .ok (.invokevirtual 22, 3) := by decide +kernel
theorem dL_law_175 : decode cL_law 175 = .ok (.if_icmp .eq 292, 3) := by decide +kernel
theorem dL_law_178 : decode cL_law 178 = .ok (.iconst 0, 1) := by decide +kernel
theorem dL_law_179 : decode cL_law 179 = .ok (.ireturn, 1) := by decide +kernel
theorem dL_law_180 : decode cL_law 180 = .ok (.aload_n 1, 1) := by decide +kernel
theorem dL_law_181 : decode cL_law 181 = .ok (.invokevirtual 23, 3) := by decide +kernel
theorem dL_law_184 : decode cL_law 184 = .ok (.aload_n 2, 1) := by decide +kernel
theorem dL_law_185 : decode cL_law 185 = .ok (.invokevirtual 27, 3) := by decide +kernel
theorem dL_law_188 : decode cL_law 188 = .ok (.if_icmp .eq 279, 3) := by decide +kernel
theorem dL_law_191 : decode cL_law 191 = .ok (.iconst 0, 1) := by decide +kernel
theorem dL_law_192 : decode cL_law 192 = .ok (.ireturn, 1) := by decide +kernel
theorem dL_law_193 : decode cL_law 193 = .ok (.aload_n 1, 1) := by decide +kernel
theorem dL_law_194 : decode cL_law 194 = .ok (.aload_n 0, 1) := by decide +kernel
theorem dL_law_195 : decode cL_law 195 = .ok (.iload_n 3, 1) := by decide +kernel
theorem dL_law_196 : decode cL_law 196 = .ok (.iconst 1, 1) := by decide +kernel
theorem dL_law_197 : decode cL_law 197 = .ok (.iadd, 1) := by decide +kernel
theorem dL_law_198 : decode cL_law 198 = .ok (.iaload, 1) := by decide +kernel
theorem dL_law_199 : decode cL_law 199 = .ok (.invokevirtual 28, 3) := by decide +kernel
theorem dL_law_202 : decode cL_law 202 = .ok (.aload_n 2, 1) := by decide +kernel
theorem dL_law_203 : decode cL_law 203 = .ok (.aload_n 0, 1) := by decide +kernel
theorem dL_law_204 : decode cL_law 204 = .ok (.iload_n 3, 1) := by decide +kernel
theorem dL_law_205 : decode cL_law 205 = .ok (.iconst 1, 1) := by decide +kernel
theorem dL_law_206 : decode cL_law 206 = .ok (.iadd, 1) := by decide +kernel
theorem dL_law_207 : decode cL_law 207 = .ok (.iaload, 1) := by decide +kernel
theorem dL_law_208 : decode cL_law 208 = .ok (.invokevirtual 32, 3) := by decide +kernel
theorem dL_law_211 : decode cL_law 211 = .ok (.if_icmp .eq 256, 3) := by decide +kernel
theorem dL_law_214 : decode cL_law 214 = .ok (.iconst 0, 1) := by decide +kernel
theorem dL_law_215 : decode cL_law 215 = .ok (.ireturn, 1) := by decide +kernel
theorem dL_law_216 : decode cL_law 216 = .ok (.aload_n 1, 1) := by decide +kernel
theorem dL_law_217 : decode cL_law 217 = .ok (.invokevirtual 33, 3) := by decide +kernel
theorem dL_law_220 : decode cL_law 220 = .ok (.aload_n 2, 1) := by decide +kernel
theorem dL_law_221 : decode cL_law 221 = .ok (.invokevirtual 36, 3) := by decide +kernel
theorem dL_law_224 : decode cL_law 224 = .ok (.if_icmp .eq 243, 3) := by decide +kernel
theorem dL_law_227 : decode cL_law 227 = .ok (.iconst 0, 1) := by decide +kernel
theorem dL_law_228 : decode cL_law 228 = .ok (.ireturn, 1) := by decide +kernel
theorem dL_law_229 : decode cL_law 229 = .ok (.aload_n 1, 1) := by decide +kernel
theorem dL_law_230 : decode cL_law 230 = .ok (.aload_n 0, 1) := by decide +kernel
theorem dL_law_231 : decode cL_law 231 = .ok (.iload_n 3, 1) := by decide +kernel
theorem dL_law_232 : decode cL_law 232 = .ok (.iconst 1, 1) := by decide +kernel
theorem dL_law_233 : decode cL_law 233 = .ok (.iadd, 1) := by decide +kernel
theorem dL_law_234 : decode cL_law 234 = .ok (.iaload, 1) := by decide +kernel
theorem dL_law_235 : decode cL_law 235 = .ok (.aload_n 0, 1) := by decide +kernel
theorem dL_law_236 : decode cL_law 236 = .ok (.iload_n 3, 1) := by decide +kernel
theorem dL_law_237 : decode cL_law 237 = .ok (.iconst 2, 1) := by decide +kernel
theorem dL_law_238 : decode cL_law 238 = .ok (.iadd, 1) := by decide +kernel
theorem dL_law_239 : decode cL_law 239 = .ok (.iaload, 1) := by decide +kernel
theorem dL_law_240 : decode cL_law 240 = .ok (.invokevirtual 37, 3) := by decide +kernel
theorem dL_law_243 : decode cL_law 243 = .ok (.aload_n 2, 1) := by decide +kernel
theorem dL_law_244 : decode cL_law 244 = .ok (.aload_n 0, 1) := by decide +kernel
theorem dL_law_245 : decode cL_law 245 = .ok (.iload_n 3, 1) := by decide +kernel
theorem dL_law_246 : decode cL_law 246 = .ok (.iconst 1, 1) := by decide +kernel
theorem dL_law_247 : decode cL_law 247 = .ok (.iadd, 1) := by decide +kernel
theorem dL_law_248 : decode cL_law 248 = .ok (.iaload, 1) := by decide +kernel
theorem dL_law_249 : decode cL_law 249 = .ok (.aload_n 0, 1) := by decide +kernel
theorem dL_law_250 : decode cL_law 250 = .ok (.iload_n 3, 1) := by decide +kernel
theorem dL_law_251 : decode cL_law 251 = .ok (.iconst 2, 1) := by decide +kernel
theorem dL_law_252 : decode cL_law 252 = .ok (.iadd, 1) := by decide +kernel
theorem dL_law_253 : decode cL_law 253 = .ok (.iaload, 1) := by decide +kernel
theorem dL_law_254 : decode cL_law 254 = .ok (.invokevirtual 41, 3) := by decide +kernel
theorem dL_law_257 : decode cL_law 257 = .ok (.if_icmp .eq 210, 3) := by decide +kernel
theorem dL_law_260 : decode cL_law 260 = .ok (.iconst 0, 1) := by decide +kernel
theorem dL_law_261 : decode cL_law 261 = .ok (.ireturn, 1) := by decide +kernel
theorem dL_law_262 : decode cL_law 262 = .ok (.aload_n 1, 1) := by decide +kernel
theorem dL_law_263 : decode cL_law 263 = .ok (.aload_n 0, 1) := by decide +kernel
theorem dL_law_264 : decode cL_law 264 = .ok (.iload_n 3, 1) := by decide +kernel
theorem dL_law_265 : decode cL_law 265 = .ok (.iconst 1, 1) := by decide +kernel
theorem dL_law_266 : decode cL_law 266 = .ok (.iadd, 1) := by decide +kernel
theorem dL_law_267 : decode cL_law 267 = .ok (.iaload, 1) := by decide +kernel
theorem dL_law_268 : decode cL_law 268 = .ok (.aload_n 0, 1) := by decide +kernel
theorem dL_law_269 : decode cL_law 269 = .ok (.iload_n 3, 1) := by decide +kernel
theorem dL_law_270 : decode cL_law 270 = .ok (.iconst 2, 1) := by decide +kernel
theorem dL_law_271 : decode cL_law 271 = .ok (.iadd, 1) := by decide +kernel
theorem dL_law_272 : decode cL_law 272 = .ok (.iaload, 1) := by decide +kernel
theorem dL_law_273 : decode cL_law 273 = .ok (.aload_n 0, 1) := by decide +kernel
theorem dL_law_274 : decode cL_law 274 = .ok (.iload_n 3, 1) := by decide +kernel
theorem dL_law_275 : decode cL_law 275 = .ok (.iconst 3, 1) := by decide +kernel
theorem dL_law_276 : decode cL_law 276 = .ok (.iadd, 1) := by decide +kernel
theorem dL_law_277 : decode cL_law 277 = .ok (.iaload, 1) := by decide +kernel
theorem dL_law_278 : decode cL_law 278 = .ok (.invokevirtual 42, 3) := by decide +kernel
theorem dL_law_281 : decode cL_law 281 = .ok (.aload_n 2, 1) := by decide +kernel
theorem dL_law_282 : decode cL_law 282 = .ok (.aload_n 0, 1) := by decide +kernel
theorem dL_law_283 : decode cL_law 283 = .ok (.iload_n 3, 1) := by decide +kernel
theorem dL_law_284 : decode cL_law 284 = .ok (.iconst 1, 1) := by decide +kernel
theorem dL_law_285 : decode cL_law 285 = .ok (.iadd, 1) := by decide +kernel
theorem dL_law_286 : decode cL_law 286 = .ok (.iaload, 1) := by decide +kernel
theorem dL_law_287 : decode cL_law 287 = .ok (.aload_n 0, 1) := by decide +kernel
theorem dL_law_288 : decode cL_law 288 = .ok (.iload_n 3, 1) := by decide +kernel
theorem dL_law_289 : decode cL_law 289 = .ok (.iconst 2, 1) := by decide +kernel
theorem dL_law_290 : decode cL_law 290 = .ok (.iadd, 1) := by decide +kernel
theorem dL_law_291 : decode cL_law 291 = .ok (.iaload, 1) := by decide +kernel
theorem dL_law_292 : decode cL_law 292 = .ok (.aload_n 0, 1) := by decide +kernel
theorem dL_law_293 : decode cL_law 293 = .ok (.iload_n 3, 1) := by decide +kernel
theorem dL_law_294 : decode cL_law 294 = .ok (.iconst 3, 1) := by decide +kernel
theorem dL_law_295 : decode cL_law 295 = .ok (.iadd, 1) := by decide +kernel
theorem dL_law_296 : decode cL_law 296 = .ok (.iaload, 1) := by decide +kernel
theorem dL_law_297 : decode cL_law 297 = .ok (.invokevirtual 46, 3) := by decide +kernel
theorem dL_law_300 : decode cL_law 300 = .ok (.if_icmp .eq 167, 3) := by decide +kernel
theorem dL_law_303 : decode cL_law 303 = .ok (.iconst 0, 1) := by decide +kernel
theorem dL_law_304 : decode cL_law 304 = .ok (.ireturn, 1) := by decide +kernel
theorem dL_law_305 : decode cL_law 305 = .ok (.aload_n 1, 1) := by decide +kernel
theorem dL_law_306 : decode cL_law 306 = .ok (.aload_n 0, 1) := by decide +kernel
theorem dL_law_307 : decode cL_law 307 = .ok (.iload_n 3, 1) := by decide +kernel
theorem dL_law_308 : decode cL_law 308 = .ok (.iconst 1, 1) := by decide +kernel
theorem dL_law_309 : decode cL_law 309 = .ok (.iadd, 1) := by decide +kernel
theorem dL_law_310 : decode cL_law 310 = .ok (.iaload, 1) := by decide +kernel
theorem dL_law_311 : decode cL_law 311 = .ok (.invokevirtual 47, 3) := by decide +kernel
theorem dL_law_314 : decode cL_law 314 = .ok (.aload_n 2, 1) := by decide +kernel
theorem dL_law_315 : decode cL_law 315 = .ok (.aload_n 0, 1) := by decide +kernel
theorem dL_law_316 : decode cL_law 316 = .ok (.iload_n 3, 1) := by decide +kernel
theorem dL_law_317 : decode cL_law 317 = .ok (.iconst 1, 1) := by decide +kernel
theorem dL_law_318 : decode cL_law 318 = .ok (.iadd, 1) := by decide +kernel
theorem dL_law_319 : decode cL_law 319 = .ok (.iaload, 1) := by decide +kernel
theorem dL_law_320 : decode cL_law 320 = .ok (.invokevirtual 50, 3) := by decide +kernel
theorem dL_law_323 : decode cL_law 323 = .ok (.if_icmp .eq 144, 3) := by decide +kernel
theorem dL_law_326 : decode cL_law 326 = .ok (.iconst 0, 1) := by decide +kernel
theorem dL_law_327 : decode cL_law 327 = .ok (.ireturn, 1) := by decide +kernel
theorem dL_law_328 : decode cL_law 328 = .ok (.aload_n 1, 1) := by decide +kernel
theorem dL_law_329 : decode cL_law 329 = .ok (.aload_n 0, 1) := by decide +kernel
theorem dL_law_330 : decode cL_law 330 = .ok (.iload_n 3, 1) := by decide +kernel
theorem dL_law_331 : decode cL_law 331 = .ok (.iconst 1, 1) := by decide +kernel
theorem dL_law_332 : decode cL_law 332 = .ok (.iadd, 1) := by decide +kernel
theorem dL_law_333 : decode cL_law 333 = .ok (.iaload, 1) := by decide +kernel
theorem dL_law_334 : decode cL_law 334 = .ok (.aload_n 0, 1) := by decide +kernel
theorem dL_law_335 : decode cL_law 335 = .ok (.iload_n 3, 1) := by decide +kernel
theorem dL_law_336 : decode cL_law 336 = .ok (.iconst 2, 1) := by decide +kernel
theorem dL_law_337 : decode cL_law 337 = .ok (.iadd, 1) := by decide +kernel
theorem dL_law_338 : decode cL_law 338 = .ok (.iaload, 1) := by decide +kernel
theorem dL_law_339 : decode cL_law 339 = .ok (.aload_n 0, 1) := by decide +kernel
theorem dL_law_340 : decode cL_law 340 = .ok (.iload_n 3, 1) := by decide +kernel
theorem dL_law_341 : decode cL_law 341 = .ok (.iconst 3, 1) := by decide +kernel
theorem dL_law_342 : decode cL_law 342 = .ok (.iadd, 1) := by decide +kernel
theorem dL_law_343 : decode cL_law 343 = .ok (.iaload, 1) := by decide +kernel
theorem dL_law_344 : decode cL_law 344 = .ok (.invokevirtual 51, 3) := by decide +kernel
theorem dL_law_347 : decode cL_law 347 = .ok (.aload_n 2, 1) := by decide +kernel
theorem dL_law_348 : decode cL_law 348 = .ok (.aload_n 0, 1) := by decide +kernel
theorem dL_law_349 : decode cL_law 349 = .ok (.iload_n 3, 1) := by decide +kernel
theorem dL_law_350 : decode cL_law 350 = .ok (.iconst 1, 1) := by decide +kernel
theorem dL_law_351 : decode cL_law 351 = .ok (.iadd, 1) := by decide +kernel
theorem dL_law_352 : decode cL_law 352 = .ok (.iaload, 1) := by decide +kernel
theorem dL_law_353 : decode cL_law 353 = .ok (.aload_n 0, 1) := by decide +kernel
theorem dL_law_354 : decode cL_law 354 = .ok (.iload_n 3, 1) := by decide +kernel
theorem dL_law_355 : decode cL_law 355 = .ok (.iconst 2, 1) := by decide +kernel
theorem dL_law_356 : decode cL_law 356 = .ok (.iadd, 1) := by decide +kernel
theorem dL_law_357 : decode cL_law 357 = .ok (.iaload, 1) := by decide +kernel
theorem dL_law_358 : decode cL_law 358 = .ok (.aload_n 0, 1) := by decide +kernel
theorem dL_law_359 : decode cL_law 359 = .ok (.iload_n 3, 1) := by decide +kernel
theorem dL_law_360 : decode cL_law 360 = .ok (.iconst 3, 1) := by decide +kernel
theorem dL_law_361 : decode cL_law 361 = .ok (.iadd, 1) := by decide +kernel
theorem dL_law_362 : decode cL_law 362 = .ok (.iaload, 1) := by decide +kernel
theorem dL_law_363 : decode cL_law 363 = .ok (.invokevirtual 54, 3) := by decide +kernel
theorem dL_law_366 : decode cL_law 366 = .ok (.if_icmp .eq 101, 3) := by decide +kernel
theorem dL_law_369 : decode cL_law 369 = .ok (.iconst 0, 1) := by decide +kernel
theorem dL_law_370 : decode cL_law 370 = .ok (.ireturn, 1) := by decide +kernel
theorem dL_law_371 : decode cL_law 371 = .ok (.aload_n 1, 1) := by decide +kernel
theorem dL_law_372 : decode cL_law 372 = .ok (.aload_n 0, 1) := by decide +kernel
theorem dL_law_373 : decode cL_law 373 = .ok (.iload_n 3, 1) := by decide +kernel
theorem dL_law_374 : decode cL_law 374 = .ok (.iconst 1, 1) := by decide +kernel
theorem dL_law_375 : decode cL_law 375 = .ok (.iadd, 1) := by decide +kernel
theorem dL_law_376 : decode cL_law 376 = .ok (.iaload, 1) := by decide +kernel
theorem dL_law_377 : decode cL_law 377 = .ok (.aload_n 0, 1) := by decide +kernel
theorem dL_law_378 : decode cL_law 378 = .ok (.iload_n 3, 1) := by decide +kernel
theorem dL_law_379 : decode cL_law 379 = .ok (.iconst 2, 1) := by decide +kernel
theorem dL_law_380 : decode cL_law 380 = .ok (.iadd, 1) := by decide +kernel
theorem dL_law_381 : decode cL_law 381 = .ok (.iaload, 1) := by decide +kernel
theorem dL_law_382 : decode cL_law 382 = .ok (.invokevirtual 55, 3) := by decide +kernel
theorem dL_law_385 : decode cL_law 385 = .ok (.aload_n 2, 1) := by decide +kernel
theorem dL_law_386 : decode cL_law 386 = .ok (.aload_n 0, 1) := by decide +kernel
theorem dL_law_387 : decode cL_law 387 = .ok (.iload_n 3, 1) := by decide +kernel
theorem dL_law_388 : decode cL_law 388 = .ok (.iconst 1, 1) := by decide +kernel
theorem dL_law_389 : decode cL_law 389 = .ok (.iadd, 1) := by decide +kernel
theorem dL_law_390 : decode cL_law 390 = .ok (.iaload, 1) := by decide +kernel
theorem dL_law_391 : decode cL_law 391 = .ok (.aload_n 0, 1) := by decide +kernel
theorem dL_law_392 : decode cL_law 392 = .ok (.iload_n 3, 1) := by decide +kernel
theorem dL_law_393 : decode cL_law 393 = .ok (.iconst 2, 1) := by decide +kernel
theorem dL_law_394 : decode cL_law 394 = .ok (.iadd, 1) := by decide +kernel
theorem dL_law_395 : decode cL_law 395 = .ok (.iaload, 1) := by decide +kernel
theorem dL_law_396 : decode cL_law 396 = .ok (.invokevirtual 59, 3) := by decide +kernel
theorem dL_law_399 : decode cL_law 399 = .ok (.lcmp, 1) := by decide +kernel
theorem dL_law_400 : decode cL_law 400 = .ok (.ifCond .eq 67, 3) := by decide +kernel
theorem dL_law_403 : decode cL_law 403 = .ok (.iconst 0, 1) := by decide +kernel
theorem dL_law_404 : decode cL_law 404 = .ok (.ireturn, 1) := by decide +kernel
theorem dL_law_405 : decode cL_law 405 = .ok (.aload_n 1, 1) := by decide +kernel
theorem dL_law_406 : decode cL_law 406 = .ok (.invokevirtual 60, 3) := by decide +kernel
theorem dL_law_409 : decode cL_law 409 = .ok (.aload_n 2, 1) := by decide +kernel
theorem dL_law_410 : decode cL_law 410 = .ok (.invokevirtual 63, 3) := by decide +kernel
theorem dL_law_413 : decode cL_law 413 = .ok (.if_icmp .eq 54, 3) := by decide +kernel
theorem dL_law_416 : decode cL_law 416 = .ok (.iconst 0, 1) := by decide +kernel
theorem dL_law_417 : decode cL_law 417 = .ok (.ireturn, 1) := by decide +kernel
theorem dL_law_418 : decode cL_law 418 = .ok (.aload_n 1, 1) := by decide +kernel
theorem dL_law_419 : decode cL_law 419 = .ok (.invokevirtual 64, 3) := by decide +kernel
theorem dL_law_422 : decode cL_law 422 = .ok (.aload_n 2, 1) := by decide +kernel
theorem dL_law_423 : decode cL_law 423 = .ok (.invokevirtual 67, 3) := by decide +kernel
theorem dL_law_426 : decode cL_law 426 = .ok (.if_icmp .eq 41, 3) := by decide +kernel
theorem dL_law_429 : decode cL_law 429 = .ok (.iconst 0, 1) := by decide +kernel
theorem dL_law_430 : decode cL_law 430 = .ok (.ireturn, 1) := by decide +kernel
theorem dL_law_431 : decode cL_law 431 = .ok (.aload_n 1, 1) := by decide +kernel
theorem dL_law_432 : decode cL_law 432 = .ok (.aload_n 0, 1) := by decide +kernel
theorem dL_law_433 : decode cL_law 433 = .ok (.iload_n 3, 1) := by decide +kernel
theorem dL_law_434 : decode cL_law 434 = .ok (.iconst 1, 1) := by decide +kernel
theorem dL_law_435 : decode cL_law 435 = .ok (.iadd, 1) := by decide +kernel
theorem dL_law_436 : decode cL_law 436 = .ok (.iaload, 1) := by decide +kernel
theorem dL_law_437 : decode cL_law 437 = .ok (.invokevirtual 68, 3) := by decide +kernel
theorem dL_law_440 : decode cL_law 440 = .ok (.aload_n 2, 1) := by decide +kernel
theorem dL_law_441 : decode cL_law 441 = .ok (.aload_n 0, 1) := by decide +kernel
theorem dL_law_442 : decode cL_law 442 = .ok (.iload_n 3, 1) := by decide +kernel
theorem dL_law_443 : decode cL_law 443 = .ok (.iconst 1, 1) := by decide +kernel
theorem dL_law_444 : decode cL_law 444 = .ok (.iadd, 1) := by decide +kernel
theorem dL_law_445 : decode cL_law 445 = .ok (.iaload, 1) := by decide +kernel
theorem dL_law_446 : decode cL_law 446 = .ok (.invokevirtual 71, 3) := by decide +kernel
theorem dL_law_449 : decode cL_law 449 = .ok (.if_icmp .eq 18, 3) := by decide +kernel
theorem dL_law_452 : decode cL_law 452 = .ok (.iconst 0, 1) := by decide +kernel
theorem dL_law_453 : decode cL_law 453 = .ok (.ireturn, 1) := by decide +kernel
theorem dL_law_454 : decode cL_law 454 = .ok (.aload_n 1, 1) := by decide +kernel
theorem dL_law_455 : decode cL_law 455 = .ok (.invokevirtual 72, 3) := by decide +kernel
theorem dL_law_458 : decode cL_law 458 = .ok (.aload_n 2, 1) := by decide +kernel
theorem dL_law_459 : decode cL_law 459 = .ok (.invokevirtual 75, 3) := by decide +kernel
theorem dL_law_462 : decode cL_law 462 = .ok (.if_icmp .eq 5, 3) := by decide +kernel
theorem dL_law_465 : decode cL_law 465 = .ok (.iconst 0, 1) := by decide +kernel
theorem dL_law_466 : decode cL_law 466 = .ok (.ireturn, 1) := by decide +kernel
theorem dL_law_467 : decode cL_law 467 = .ok (.iinc 3 5, 3) := by decide +kernel
theorem dL_law_470 : decode cL_law 470 = .ok (.goto (-452), 3) := by decide +kernel
theorem dL_law_473 : decode cL_law 473 = .ok (.iconst 1, 1) := by decide +kernel
theorem dL_law_474 : decode cL_law 474 = .ok (.ireturn, 1) := by decide +kernel
end
section
/-! The layer: contracts of methods that make no cells, in one form (a world in, a world out), and one row an instruction over them. -/
def kv_us (x y : Int32) : Int32 := (x.toUInt32 >>> (y.toUInt32 &&& Int32.toUInt32 31)).toInt32
def kv_B (N : State → Prop) (D : va_G) (tys : List (ClassId × FieldType)) (A : Nat → Prop) (s : State) (ws : va_W) (H : Heap) (locs : List Loc) : Prop :=
  va_P D vwCl ws H ∧ va_D A ws ∧ va_K D vwCl tys s ∧ va_S A s.heap H locs ∧ (∀ q : Nat, s.heap.size ≤ q → A q) ∧ N s
/-- what moves with the tables: a method's extra word -/
def kv_Mv (N : State → Prop) : Prop := (∀ u U : State, u.WarmedH U.vm → N u → N U) ∧ ∀ u U : State, u.vm = U.vm → N u → N U
def kv_pre (N : State → Prop) (D : va_G) (tys : List (ClassId × FieldType)) (avs : List Value) (ws : va_W) (sz : Nat) : Array Value → State → Prop :=
  va_Pc avs (fun U => U.heap.size = sz ∧ va_P D vwCl ws U.heap ∧ va_K D vwCl tys U ∧ va_D (fun _ => True) ws ∧ N U)
def kv_at (D : va_G) (ws w1 : va_W) (sz : Nat) (_ : Unit) (t : State) : Prop := va_P D vwCl w1 t.heap ∧ va_D (va_A ws sz) w1
def kv_I (N : State → Prop) (l : Launch) (y : MethodName) (wds : List Cond) (rm : Room) (D : va_G) (tys : List (ClassId × FieldType)) (avs : List Value) (ws : va_W) (ans : Int32) (w1 : va_W) : Prop :=
  ∀ sz : Nat, Met l y wds rm (kv_pre N D tys avs ws sz) (va_Qi (fun r (_ : Unit) => r = ans) (kv_at D ws w1 sz) (va_A ws sz)) 0 0 (va_A ws sz)
def kv_L (N : State → Prop) (l : Launch) (y : MethodName) (wds : List Cond) (rm : Room) (D : va_G) (tys : List (ClassId × FieldType)) (avs : List Value) (ws : va_W) (ans : Int64) (w1 : va_W) : Prop :=
  ∀ sz : Nat, Met l y wds rm (kv_pre N D tys avs ws sz) (va_Ql (fun r (_ : Unit) => r = ans) (kv_at D ws w1 sz) (va_A ws sz)) 0 0 (va_A ws sz)
def kv_V (N : State → Prop) (l : Launch) (y : MethodName) (wds : List Cond) (rm : Room) (D : va_G) (tys : List (ClassId × FieldType)) (avs : List Value) (ws : va_W) (w1 : va_W) : Prop :=
  ∀ sz : Nat, Met l y wds rm (kv_pre N D tys avs ws sz) (va_Qv (fun (_ : Unit) => True) (kv_at D ws w1 sz) (va_A ws sz)) 0 0 (va_A ws sz)
theorem kv_blind {N : State → Prop} (hN : kv_Mv N) {D : va_G} {tys : List (ClassId × FieldType)} {avs : List Value} {ws : va_W} {sz : Nat} : FrameBlind (kv_pre N D tys avs ws sz) := by
  intro a U g mk q
  obtain ⟨q0, q1, qP, qK, qD, qN⟩ := q
  exact ⟨q0, q1, qP, va_K.moved (u := U) (U := U.calling g mk a) (Vm.Alike.refl U.vm) qK, qD, hN.2 U _ rfl qN⟩
theorem kv_T : kv_Mv (fun _ => True) := ⟨fun _ _ _ _ => trivial, fun _ _ _ _ => trivial⟩
theorem kv_openI {N : State → Prop} {l : Launch} {y : MethodName} {wds wds' : List Cond} {rm : Room} {D : va_G} {tys : List (ClassId × FieldType)} {avs : List Value} {ws : va_W} {ans : Int32} {w1 : va_W} {cc : ByteArray} {maxL : Nat} {rt : FieldType}
    (hy : plainName y.cls = true) (hw : wds = Cond.code y cc maxL (some rt) :: wds') (hrt : narrow rt (.int ans) = .int ans) (hlen : (lg_sl avs).length ≤ maxL)
    (body : ∀ (p : Program) (e : Env) (s : State) (m : MethodId) (args : Array Value) (below : List Frame) (meth : Method) (c : Code) (A : Nat → Prop) (H : Heap) (locs : List Loc) (ls : Array Slot) (Q : State → Prop),
      CallFix p m c cc maxL s args wds y.cls → lv_has ls maxL (lv_args 0 avs) → kv_B N D tys A s ws H locs →
      (∀ (H : Heap) (locs : List Loc) (w : va_W) (v : Int32) (pc : Nat) (ls : Array Slot), kv_B N D tys A s w H locs → v = ans → w = w1 → decode cc pc = .ok (.ireturn, 1) → W p l e rm s m args below meth c H locs 0 0 Q (F0 m pc ls [.int v])) →
      W p l e rm s m args below meth c H locs 0 0 Q (F0 m 0 ls [])) :
    kv_I N l y wds rm D tys avs ws ans w1 := by
  intro sz
  refine Met.ofW (cc := cc) (maxL := maxL) (ret := some rt) hy hw ?_
  intro p e s m args below meth c s₁ B hml hv
  obtain ⟨rfl, hsz, hP, hK, hD0, hN⟩ := hv
  have hts := atoms_spec (ws := wds) B.pre
  have hown : s.vm.findClass y.cls = some m.cls := findClass_of_methodNamed B.named
  subst hsz
  have hl := lv_entry avs (n := maxL) hlen
  rw [lg_entry_eq]
  refine body p e s m _ below meth c (va_A ws s.heap.size) _ _ _ _ ⟨B.exec, B.bytes, hml, hown, hts⟩ hl ⟨hP, hD0.self, hK, va_S.rf, fun q h => Or.inr h, hN⟩ ?_
  intro H locs w v pc ls hB hv hw1 hd
  subst hv
  subst hw1
  exact W.zret B.exec B.bytes B.returns hrt (fun t ht hW => ⟨⟨v, (), rfl, rfl, by rw [ht]; exact hB.1, hB.2.1⟩, hB.2.2.2.1.F ht⟩) hB.2.2.2.1.2.2 hd B.notSynchronized
theorem kv_openL {N : State → Prop} {l : Launch} {y : MethodName} {wds wds' : List Cond} {rm : Room} {D : va_G} {tys : List (ClassId × FieldType)} {avs : List Value} {ws : va_W} {ans : Int64} {w1 : va_W} {cc : ByteArray} {maxL : Nat}
    (hy : plainName y.cls = true) (hw : wds = Cond.code y cc maxL (some .long) :: wds') (hlen : (lg_sl avs).length ≤ maxL)
    (body : ∀ (p : Program) (e : Env) (s : State) (m : MethodId) (args : Array Value) (below : List Frame) (meth : Method) (c : Code) (A : Nat → Prop) (H : Heap) (locs : List Loc) (ls : Array Slot) (Q : State → Prop),
      CallFix p m c cc maxL s args wds y.cls → lv_has ls maxL (lv_args 0 avs) → kv_B N D tys A s ws H locs →
      (∀ (H : Heap) (locs : List Loc) (w : va_W) (v : Int64) (pc : Nat) (ls : Array Slot), kv_B N D tys A s w H locs → v = ans → w = w1 → decode cc pc = .ok (.lreturn, 1) → W p l e rm s m args below meth c H locs 0 0 Q (F0 m pc ls [.long v])) →
      W p l e rm s m args below meth c H locs 0 0 Q (F0 m 0 ls [])) :
    kv_L N l y wds rm D tys avs ws ans w1 := by
  intro sz
  refine Met.ofW (cc := cc) (maxL := maxL) (ret := some .long) hy hw ?_
  intro p e s m args below meth c s₁ B hml hv
  obtain ⟨rfl, hsz, hP, hK, hD0, hN⟩ := hv
  have hts := atoms_spec (ws := wds) B.pre
  have hown : s.vm.findClass y.cls = some m.cls := findClass_of_methodNamed B.named
  subst hsz
  have hl := lv_entry avs (n := maxL) hlen
  rw [lg_entry_eq]
  refine body p e s m _ below meth c (va_A ws s.heap.size) _ _ _ _ ⟨B.exec, B.bytes, hml, hown, hts⟩ hl ⟨hP, hD0.self, hK, va_S.rf, fun q h => Or.inr h, hN⟩ ?_
  intro H locs w v pc ls hB hv hw1 hd
  subst hv
  subst hw1
  exact W.lret B.exec B.bytes B.returns (fun t ht hW => ⟨⟨v, (), rfl, rfl, by rw [ht]; exact hB.1, hB.2.1⟩, hB.2.2.2.1.F ht⟩) hB.2.2.2.1.2.2 hd B.notSynchronized
theorem kv_openV {N : State → Prop} {l : Launch} {y : MethodName} {wds wds' : List Cond} {rm : Room} {D : va_G} {tys : List (ClassId × FieldType)} {avs : List Value} {ws : va_W} {w1 : va_W} {cc : ByteArray} {maxL : Nat}
    (hy : plainName y.cls = true) (hw : wds = Cond.code y cc maxL none :: wds') (hlen : (lg_sl avs).length ≤ maxL)
    (body : ∀ (p : Program) (e : Env) (s : State) (m : MethodId) (args : Array Value) (below : List Frame) (meth : Method) (c : Code) (A : Nat → Prop) (H : Heap) (locs : List Loc) (ls : Array Slot) (Q : State → Prop),
      CallFix p m c cc maxL s args wds y.cls → lv_has ls maxL (lv_args 0 avs) → kv_B N D tys A s ws H locs →
      (∀ (H : Heap) (locs : List Loc) (w : va_W) (pc : Nat) (ls : Array Slot), kv_B N D tys A s w H locs → w = w1 → decode cc pc = .ok (.return_, 1) → W p l e rm s m args below meth c H locs 0 0 Q (F0 m pc ls [])) →
      W p l e rm s m args below meth c H locs 0 0 Q (F0 m 0 ls [])) :
    kv_V N l y wds rm D tys avs ws w1 := by
  intro sz
  refine Met.ofW (cc := cc) (maxL := maxL) (ret := none) hy hw ?_
  intro p e s m args below meth c s₁ B hml hv
  obtain ⟨rfl, hsz, hP, hK, hD0, hN⟩ := hv
  have hts := atoms_spec (ws := wds) B.pre
  have hown : s.vm.findClass y.cls = some m.cls := findClass_of_methodNamed B.named
  subst hsz
  have hl := lv_entry avs (n := maxL) hlen
  rw [lg_entry_eq]
  refine body p e s m _ below meth c (va_A ws s.heap.size) _ _ _ _ ⟨B.exec, B.bytes, hml, hown, hts⟩ hl ⟨hP, hD0.self, hK, va_S.rf, fun q h => Or.inr h, hN⟩ ?_
  intro H locs w pc ls hB hw1 hd
  subst hw1
  exact W.vret B.exec B.bytes B.returns (fun t ht hW => ⟨⟨(), rfl, trivial, by rw [ht]; exact hB.1, hB.2.1⟩, hB.2.2.2.1.F ht⟩) hB.2.2.2.1.2.2 hd B.notSynchronized
section KVR
variable {N : State → Prop} {p : Program} {l : Launch} {e : Env} {R : Room} {s : State} {m : MethodId} {args : Array Value} {below : List Frame} {meth : Method} {c : Code} {H : Heap} {locs : List Loc} {cells slots : Nat} {Q : State → Prop}
variable {cc : ByteArray} {pc : Nat} {ls : Array Slot} {rest st0 : List Value} {D : va_G} {A : Nat → Prop} {a : Nat} {tys : List (ClassId × FieldType)} {ws w1 : va_W} {nL : Nat} {Ts : List Cond} {own : String}
variable {y : MethodName} {bytes : ByteArray} {maxL n index : Nat} {ret : Option FieldType} {wds : List Cond} {rm : Room} {As : List Value} {C : String} {b : Nat} {ans : Int32}
/-- the value on top, otherwise written -/
theorem kv_top {x y : Int32} (h : x = y) (k : W p l e R s m args below meth c H locs cells slots Q (F0 m pc ls (.int y :: rest))) : W p l e R s m args below meth c H locs cells slots Q (F0 m pc ls (.int x :: rest)) := by
  subst h; exact k
theorem kv_get (S : CallFix p m c cc nL s args Ts own) (hB : kv_B N D tys A s ws H locs) {T : u_T} {M ci index : Nat} (hin : ∀ w ∈ u_ws C T M, w ∈ Ts) (q0 : Nat) {fs : List Value} (he : ws[q0]? = some (a, .inr (ci, fs))) (hc : vwCl[ci]? = some (C, T, M)) (k : Nat) (hk : k < M) (hlink : Cond.fieldLink own index C (T k).2.1 (T k).2.2.1 ∈ Ts) (hC : (T k).1 = C) {v : Value} (hv : fs[k]? = some v) (hdg : decode cc pc = .ok (.getfield index, 3))
    (kk : W p l e R s m args below meth c H locs cells slots Q (F0 m (pc + 3) ls (v :: rest))) : W p l e R s m args below meth c H locs cells slots Q (F0 m pc ls (.ref a :: rest)) :=
  va_get S.1 S.2.1 S.2.2.2.2 hin S.2.2.2.1 hB.2.2.1 hB.1 q0 he hc k hk (S.2.2.2.2 _ hlink) (fun x h => by rw [hC] at h; exact h) hv hdg kk
theorem kv_put (S : CallFix p m c cc nL s args Ts own) (hB : kv_B N D tys A s ws H locs) {T : u_T} {M ci index : Nat} (hin : ∀ w ∈ u_ws C T M, w ∈ Ts) (ty0 : Nat → FieldType) (hty : ∀ k, k < M → parseFieldDescriptor (T k).2.2.1 = some (ty0 k)) (hnm : ∀ a, a < M → ∀ b, b < M → a ≠ b → (T a).2.1 ≠ (T b).2.1) (q0 : Nat) {fs : List Value} (he : ws[q0]? = some (a, .inr (ci, fs))) (hc : vwCl[ci]? = some (C, T, M)) (k : Nat) (hk : k < M) (hlink : Cond.fieldLink own index C (T k).2.1 (T k).2.2.1 ∈ Ts) (hC : (T k).1 = C) (hfin : (T k).2.2.2 = false) {v : Int32} (hd : parseFieldDescriptor (T k).2.2.1 = some .int) (hl : k < fs.length)
    (hdg : decode cc pc = .ok (.putfield index, 3)) (kk : ∀ (H1 : Heap) (locs1 : List Loc), kv_B N D tys A s (ws.set q0 (a, .inr (ci, fs.set k (.int v)))) H1 locs1 → W p l e R s m args below meth c H1 locs1 cells slots Q (F0 m (pc + 3) ls rest)) : W p l e R s m args below meth c H locs cells slots Q (F0 m pc ls (.int v :: .ref a :: rest)) :=
  va_put S.1 S.2.1 S.2.2.2.2 hin ty0 hty hnm S.2.2.2.1 hB.2.2.1 hB.1 hB.2.1 hB.2.2.2.1 q0 he hc k hk (S.2.2.2.2 _ hlink) (fun x h => by rw [hC] at h; exact h) hfin hd rfl rfl hl hdg (fun H1 locs1 h1 h2 h3 => kk H1 locs1 ⟨h1, h2, hB.2.2.1, h3, hB.2.2.2.2.1, hB.2.2.2.2.2⟩)
theorem kv_iald (S : CallFix p m c cc nL s args Ts own) (hB : kv_B N D tys A s ws H locs) (q0 t0 : Nat) {cA : ClassId} {n : Nat} {f : Nat → Int32} (ha : ws[q0]? = some (a, .inl (cA, n, .inl f))) (ht : tys[t0]? = some (cA, .int)) {i : Int32} (j : Nat) (hi : i = nI j) (hj : j < n) (hn : n < 2 ^ 31) (hdg : decode cc pc = .ok (.iaload, 1))
    (kk : W p l e R s m args below meth c H locs cells slots Q (F0 m (pc + 1) ls (.int (f j) :: rest))) : W p l e R s m args below meth c H locs cells slots Q (F0 m pc ls (.int i :: .ref a :: rest)) := by
  subst hi
  refine va_iald S.1 S.2.1 hB.2.2.1 hB.1 q0 t0 ha ht (vp_in_nI hj hn) hdg ?_
  rw [nI_clamp (by omega)]
  exact kk
theorem kv_iast (S : CallFix p m c cc nL s args Ts own) (hB : kv_B N D tys A s ws H locs) (q0 t0 : Nat) {cA : ClassId} {n : Nat} {f : Nat → Int32} (ha : ws[q0]? = some (a, .inl (cA, n, .inl f))) (ht : tys[t0]? = some (cA, .int)) {i x : Int32} (j : Nat) (hi : i = nI j) (hj : j < n) (hn : n < 2 ^ 31) (hdg : decode cc pc = .ok (.iastore, 1))
    (kk : ∀ (H1 : Heap) (locs1 : List Loc), kv_B N D tys A s (ws.set q0 (a, .inl (cA, n, .inl (upd f j x)))) H1 locs1 → W p l e R s m args below meth c H1 locs1 cells slots Q (F0 m (pc + 1) ls rest)) : W p l e R s m args below meth c H locs cells slots Q (F0 m pc ls (.int x :: .int i :: .ref a :: rest)) := by
  subst hi
  refine va_iast S.1 S.2.1 hB.2.2.1 hB.1 hB.2.1 hB.2.2.2.1 q0 t0 ha ht (vp_in_nI hj hn) hdg (fun H1 locs1 h1 h2 h3 => ?_)
  rw [nI_clamp (by omega)] at h1 h2
  exact kk H1 locs1 ⟨h1, h2, hB.2.2.1, h3, hB.2.2.2.2.1, hB.2.2.2.2.2⟩
theorem kv_alen (S : CallFix p m c cc nL s args Ts own) (hB : kv_B N D tys A s ws H locs) (q0 t0 : Nat) {cA : ClassId} {n : Nat} {f : Nat → Int32} (ha : ws[q0]? = some (a, .inl (cA, n, .inl f))) (ht : tys[t0]? = some (cA, .int)) (hdg : decode cc pc = .ok (.arraylength, 1))
    (kk : W p l e R s m args below meth c H locs cells slots Q (F0 m (pc + 1) ls (.int (nI n) :: rest))) : W p l e R s m args below meth c H locs cells slots Q (F0 m pc ls (.ref a :: rest)) :=
  va_alen S.1 S.2.1 hB.2.2.1 hB.1 q0 t0 ha ht rfl hdg kk
/-- branches whose numbers are naturals -/
theorem kv_bge {x y : Nat} (S : CallFix p m c cc nL s args Ts own) (hx : x < 2 ^ 31) (hy : y < 2 ^ 31) {off : Int} {tgt : Nat} (hdg : decode cc pc = .ok (.if_icmp .ge off, 3)) (ht : (pc : Int) + off = (tgt : Int))
    (kt : y ≤ x → W p l e R s m args below meth c H locs cells slots Q (F0 m tgt ls rest)) (kf : x < y → W p l e R s m args below meth c H locs cells slots Q (F0 m (pc + 3) ls rest)) : W p l e R s m args below meth c H locs cells slots Q (F0 m pc ls (.int (nI y) :: .int (nI x) :: rest)) :=
  lv_icmp_ge S.1 S.2.1 hdg ht (fun h => kt ((nI_leI hy hx).mp h)) (fun h => kf (Nat.lt_of_not_le fun q => h ((nI_leI hy hx).mpr q)))
theorem kv_bgt {x y : Nat} (S : CallFix p m c cc nL s args Ts own) (hx : x < 2 ^ 31) (hy : y < 2 ^ 31) {off : Int} {tgt : Nat} (hdg : decode cc pc = .ok (.if_icmp .gt off, 3)) (ht : (pc : Int) + off = (tgt : Int))
    (kt : y < x → W p l e R s m args below meth c H locs cells slots Q (F0 m tgt ls rest)) (kf : x ≤ y → W p l e R s m args below meth c H locs cells slots Q (F0 m (pc + 3) ls rest)) : W p l e R s m args below meth c H locs cells slots Q (F0 m pc ls (.int (nI y) :: .int (nI x) :: rest)) :=
  lv_icmp_gt S.1 S.2.1 hdg ht (fun h => kt ((nI_ltI hy hx).mp h)) (fun h => kf (Nat.le_of_not_lt fun q => h ((nI_ltI hy hx).mpr q)))
theorem kv_ble {x y : Nat} (S : CallFix p m c cc nL s args Ts own) (hx : x < 2 ^ 31) (hy : y < 2 ^ 31) {off : Int} {tgt : Nat} (hdg : decode cc pc = .ok (.if_icmp .le off, 3)) (ht : (pc : Int) + off = (tgt : Int))
    (kt : x ≤ y → W p l e R s m args below meth c H locs cells slots Q (F0 m tgt ls rest)) (kf : y < x → W p l e R s m args below meth c H locs cells slots Q (F0 m (pc + 3) ls rest)) : W p l e R s m args below meth c H locs cells slots Q (F0 m pc ls (.int (nI y) :: .int (nI x) :: rest)) :=
  lv_icmp_le S.1 S.2.1 hdg ht (fun h => kt ((nI_leI hx hy).mp h)) (fun h => kf (Nat.lt_of_not_le fun q => h ((nI_leI hx hy).mpr q)))
theorem kv_blt {x y : Nat} (S : CallFix p m c cc nL s args Ts own) (hx : x < 2 ^ 31) (hy : y < 2 ^ 31) {off : Int} {tgt : Nat} (hdg : decode cc pc = .ok (.if_icmp .lt off, 3)) (ht : (pc : Int) + off = (tgt : Int))
    (kt : x < y → W p l e R s m args below meth c H locs cells slots Q (F0 m tgt ls rest)) (kf : y ≤ x → W p l e R s m args below meth c H locs cells slots Q (F0 m (pc + 3) ls rest)) : W p l e R s m args below meth c H locs cells slots Q (F0 m pc ls (.int (nI y) :: .int (nI x) :: rest)) :=
  lv_icmp_lt S.1 S.2.1 hdg ht (fun h => kt ((nI_ltI hx hy).mp h)) (fun h => kf (Nat.le_of_not_lt fun q => h ((nI_ltI hx hy).mpr q)))
theorem kv_bne {x y : Nat} (S : CallFix p m c cc nL s args Ts own) (hx : x < 2 ^ 31) (hy : y < 2 ^ 31) {off : Int} {tgt : Nat} (hdg : decode cc pc = .ok (.if_icmp .ne off, 3)) (ht : (pc : Int) + off = (tgt : Int))
    (kt : x ≠ y → W p l e R s m args below meth c H locs cells slots Q (F0 m tgt ls rest)) (kf : x = y → W p l e R s m args below meth c H locs cells slots Q (F0 m (pc + 3) ls rest)) : W p l e R s m args below meth c H locs cells slots Q (F0 m pc ls (.int (nI y) :: .int (nI x) :: rest)) :=
  lv_icmp_ne S.1 S.2.1 hdg ht (fun h => kt (fun q => h ((nI_eq hx hy).mpr q))) (fun h => kf ((nI_eq hx hy).mp h))
theorem kv_blt0 {x : Nat} (S : CallFix p m c cc nL s args Ts own) (hx : x < 2 ^ 31) {off : Int} {tgt : Nat} (hdg : decode cc pc = .ok (.ifCond .lt off, 3)) (ht : (pc : Int) + off = (tgt : Int))
    (kf : W p l e R s m args below meth c H locs cells slots Q (F0 m (pc + 3) ls rest)) : W p l e R s m args below meth c H locs cells slots Q (F0 m pc ls (.int (nI x) :: rest)) :=
  lv_if_lt S.1 S.2.1 hdg ht (fun h => absurd h (nI_pos hx)) (fun _ => kf)
/-- a static method without a world -/
theorem kv_sP (S : CallFix p m c cc nL s args Ts own) (hM : kv_I (fun _ => True) l y wds rm D [] As [] ans []) (cw : CallB R s args own index y bytes maxL ret wds rm 0 0 n ∧ (Cond.static y).before args s = true) (hB : kv_B N D tys A s ws H locs)
    (hn : As.length = n) (hsize : ls.size = nL) (hstack : st0 = As.reverse ++ rest) (hW : (rest.map fun v => v.category).sum ≤ 8) (hdg : decode cc pc = .ok (.invokestatic index, 3)) (hR : cells ≤ R.cells ∧ slots ≤ R.slots)
    (kk : ∀ (H1 : Heap) (locs1 : List Loc), kv_B N D tys A s ws H1 locs1 → W p l e R s m args below meth c H1 locs1 cells slots Q (F0 m (pc + 3) ls (.int ans :: rest))) : W p l e R s m args below meth c H locs cells slots Q (F0 m pc ls st0) := by
  obtain ⟨hP, hD, hK, hS, hA, hN⟩ := hB
  have hFc : ∀ q, va_A [] H.size q → A q := by
    intro q h
    rcases h with ⟨k, e, h⟩ | h
    · simp at h
    · exact hA q (Nat.le_trans hS.1 h)
  refine va_calli (va_runS S (hM H.size) cw ⟨kv_blind kv_T, fun U hU hW => ⟨rfl, by rw [hU], fun k q hk => by simp at hk, va_K.moved hW.alike (hK.sub (tys' := []) [] rfl), ⟨fun i j p q h => by simp at h, fun k q h => by simp at h⟩, trivial⟩⟩ rfl hn hsize hstack (lv_room hW) hdg hR) hS (fun q _ h => hFc q h) hFc (fun r u t H1 locs1 ht hvm hpost hB1 hz1 hk1 hS1 => ?_)
  subst hpost
  refine kk H1 locs1 ⟨hP.kept (fun k q hk => ?_), hD, hK, hS1, hA, hN⟩
  have hl := (hP k q hk).lt
  refine hk1 q.1 hl (fun h => ?_)
  rcases h with ⟨k, e, h⟩ | h
  · simp at h
  · omega
/-- methods over the whole world of the caller: static and virtual; an int, nothing -/
theorem kv_sI (hNM : kv_Mv N) (S : CallFix p m c cc nL s args Ts own) (hM : kv_I N l y wds rm D tys As ws ans w1) (cw : CallB R s args own index y bytes maxL ret wds rm 0 0 n ∧ (Cond.static y).before args s = true) (hB : kv_B N D tys A s ws H locs)
    (hn : As.length = n) (hsize : ls.size = nL) (hstack : st0 = As.reverse ++ rest) (hW : (rest.map fun v => v.category).sum ≤ 8) (hdg : decode cc pc = .ok (.invokestatic index, 3)) (hR : cells ≤ R.cells ∧ slots ≤ R.slots)
    (kk : ∀ (H1 : Heap) (locs1 : List Loc), kv_B N D tys A s w1 H1 locs1 → W p l e R s m args below meth c H1 locs1 cells slots Q (F0 m (pc + 3) ls (.int ans :: rest))) : W p l e R s m args below meth c H locs cells slots Q (F0 m pc ls st0) := by
  obtain ⟨hP, hD, hK, hS, hA, hN⟩ := hB
  have hFc : ∀ q, va_A ws H.size q → A q := by
    intro q h
    rcases h with ⟨k, e, h⟩ | h
    · exact hD.2 k _ h
    · exact hA q (Nat.le_trans hS.1 h)
  refine va_calli (va_runS S (hM H.size) cw ⟨kv_blind hNM, fun U hU hW => ⟨rfl, by rw [hU], by rw [hU]; exact hP, va_K.moved hW.alike hK, hD.weaken (fun _ _ _ _ => trivial), hNM.1 _ _ hW hN⟩⟩ rfl hn hsize hstack (lv_room hW) hdg hR) hS (fun q _ h => hFc q h) hFc (fun r u t H1 locs1 ht hvm hpost hB1 hz1 hk1 hS1 => ?_)
  subst hpost
  exact kk H1 locs1 ⟨by rw [← ht]; exact hB1.1, hB1.2.weaken (fun k q _ h => hFc _ h), hK, hS1, hA, hN⟩
theorem kv_sV (hNM : kv_Mv N) (S : CallFix p m c cc nL s args Ts own) (hM : kv_V N l y wds rm D tys As ws w1) (cw : CallB R s args own index y bytes maxL ret wds rm 0 0 n ∧ (Cond.static y).before args s = true) (hB : kv_B N D tys A s ws H locs)
    (hn : As.length = n) (hsize : ls.size = nL) (hstack : st0 = As.reverse ++ rest) (hW : (rest.map fun v => v.category).sum ≤ 8) (hdg : decode cc pc = .ok (.invokestatic index, 3)) (hR : cells ≤ R.cells ∧ slots ≤ R.slots)
    (kk : ∀ (H1 : Heap) (locs1 : List Loc), kv_B N D tys A s w1 H1 locs1 → W p l e R s m args below meth c H1 locs1 cells slots Q (F0 m (pc + 3) ls rest)) : W p l e R s m args below meth c H locs cells slots Q (F0 m pc ls st0) := by
  obtain ⟨hP, hD, hK, hS, hA, hN⟩ := hB
  have hFc : ∀ q, va_A ws H.size q → A q := by
    intro q h
    rcases h with ⟨k, e, h⟩ | h
    · exact hD.2 k _ h
    · exact hA q (Nat.le_trans hS.1 h)
  refine va_callv (va_runS S (hM H.size) cw ⟨kv_blind hNM, fun U hU hW => ⟨rfl, by rw [hU], by rw [hU]; exact hP, va_K.moved hW.alike hK, hD.weaken (fun _ _ _ _ => trivial), hNM.1 _ _ hW hN⟩⟩ rfl hn hsize hstack (lv_room hW) hdg hR) hS (fun q _ h => hFc q h) hFc (fun u t H1 locs1 ht hvm hpost hB1 hz1 hk1 hS1 => ?_)
  exact kk H1 locs1 ⟨by rw [← ht]; exact hB1.1, hB1.2.weaken (fun k q _ h => hFc _ h), hK, hS1, hA, hN⟩
theorem kv_vI (hNM : kv_Mv N) (S : CallFix p m c cc nL s args Ts own) (hM : kv_I N l y wds rm D tys (.ref b :: As) ws ans w1) (cw : CallW R s args own C index y bytes maxL ret wds rm 0 0 n) (hB : kv_B N D tys A s ws H locs) (q0 : Nat) {ci : Nat} {fs : List Value} {T : u_T} {M : Nat} (he : ws[q0]? = some (b, .inr (ci, fs))) (hc : vwCl[ci]? = some (C, T, M))
    (hn : As.length = n) (hsize : ls.size = nL) (hstack : st0 = As.reverse ++ .ref b :: rest) (hW : (rest.map fun v => v.category).sum ≤ 8) (hdg : decode cc pc = .ok (.invokevirtual index, 3)) (hR : cells ≤ R.cells ∧ slots ≤ R.slots)
    (kk : ∀ (H1 : Heap) (locs1 : List Loc), kv_B N D tys A s w1 H1 locs1 → W p l e R s m args below meth c H1 locs1 cells slots Q (F0 m (pc + 3) ls (.int ans :: rest))) : W p l e R s m args below meth c H locs cells slots Q (F0 m pc ls st0) := by
  obtain ⟨hP, hD, hK, hS, hA, hN⟩ := hB
  have hFc : ∀ q, va_A ws H.size q → A q := by
    intro q h
    rcases h with ⟨k, e, h⟩ | h
    · exact hD.2 k _ h
    · exact hA q (Nat.le_trans hS.1 h)
  refine va_calli (va_runV S (hM H.size) cw ⟨kv_blind hNM, va_recv hK hP hc he, fun U hU hW => ⟨rfl, by rw [hU], by rw [hU]; exact hP, va_K.moved hW.alike hK, hD.weaken (fun _ _ _ _ => trivial), hNM.1 _ _ hW hN⟩⟩ rfl hn hsize hstack (lv_room hW) hdg hR) hS (fun q _ h => hFc q h) hFc (fun r u t H1 locs1 ht hvm hpost hB1 hz1 hk1 hS1 => ?_)
  subst hpost
  exact kk H1 locs1 ⟨by rw [← ht]; exact hB1.1, hB1.2.weaken (fun k q _ h => hFc _ h), hK, hS1, hA, hN⟩
theorem kv_vV (hNM : kv_Mv N) (S : CallFix p m c cc nL s args Ts own) (hM : kv_V N l y wds rm D tys (.ref b :: As) ws w1) (cw : CallW R s args own C index y bytes maxL ret wds rm 0 0 n) (hB : kv_B N D tys A s ws H locs) (q0 : Nat) {ci : Nat} {fs : List Value} {T : u_T} {M : Nat} (he : ws[q0]? = some (b, .inr (ci, fs))) (hc : vwCl[ci]? = some (C, T, M))
    (hn : As.length = n) (hsize : ls.size = nL) (hstack : st0 = As.reverse ++ .ref b :: rest) (hW : (rest.map fun v => v.category).sum ≤ 8) (hdg : decode cc pc = .ok (.invokevirtual index, 3)) (hR : cells ≤ R.cells ∧ slots ≤ R.slots)
    (kk : ∀ (H1 : Heap) (locs1 : List Loc), kv_B N D tys A s w1 H1 locs1 → W p l e R s m args below meth c H1 locs1 cells slots Q (F0 m (pc + 3) ls rest)) : W p l e R s m args below meth c H locs cells slots Q (F0 m pc ls st0) := by
  obtain ⟨hP, hD, hK, hS, hA, hN⟩ := hB
  have hFc : ∀ q, va_A ws H.size q → A q := by
    intro q h
    rcases h with ⟨k, e, h⟩ | h
    · exact hD.2 k _ h
    · exact hA q (Nat.le_trans hS.1 h)
  refine va_callv (va_runV S (hM H.size) cw ⟨kv_blind hNM, va_recv hK hP hc he, fun U hU hW => ⟨rfl, by rw [hU], by rw [hU]; exact hP, va_K.moved hW.alike hK, hD.weaken (fun _ _ _ _ => trivial), hNM.1 _ _ hW hN⟩⟩ rfl hn hsize hstack (lv_room hW) hdg hR) hS (fun q _ h => hFc q h) hFc (fun u t H1 locs1 ht hvm hpost hB1 hz1 hk1 hS1 => ?_)
  exact kk H1 locs1 ⟨by rw [← ht]; exact hB1.1, hB1.2.weaken (fun k q _ h => hFc _ h), hK, hS1, hA, hN⟩
/-- an array, otherwise written -/
theorem kv_arr (q0 : Nat) {cA : ClassId} {n : Nat} {f : Nat → Int32} (ha : ws[q0]? = some (a, .inl (cA, n, .inl f))) (g : Nat → Int32) (hfg : ∀ j, j < n → f j = g j) (hB : kv_B N D tys A s ws H locs) : kv_B N D tys A s (ws.set q0 (a, .inl (cA, n, .inl g))) H locs := by
  refine ⟨hB.1.set hB.2.1 ha ?_ (fun q _ => rfl), hB.2.1.set ha, hB.2.2.1, hB.2.2.2.1, hB.2.2.2.2⟩
  have h := hB.1 q0 _ ha
  show H[a]? = some (vp_cell _ _)
  have h' : H[a]? = some (vp_cell cA (n, .inl f)) := h
  rw [h', vp_cell_i, vp_cell_i]
  unfold arrV
  congr 3
  funext j
  show Value.int (f j.val) = Value.int (g j.val)
  rw [hfg j.val j.isLt]
end KVR
section KNC
variable {p : Program} {R : Room} {s : State} {m : MethodId} {args : Array Value} {c : Code} {cc bytes : ByteArray} {nL maxL n index mc ms : Nat} {own C : String} {y : MethodName} {ret : Option FieldType} {rm : Room} {c1 : Cond}
theorem kn_c {ws : List Cond} {c1 : Cond} (h : ∀ w ∈ ws, w ∈ kn_T) : ∀ w ∈ ws, w ∈ c1 :: kn_T := fun w q => List.mem_cons_of_mem _ (h w q)
theorem kn_G {c1 c2 : Cond} (hc : c2 ∈ kn_T) : GoodIn (c1 :: kn_T) (c2 :: kn_T) := fun w h =>
  (List.mem_cons.mp h).elim (fun q => by subst q; exact ⟨List.mem_cons_of_mem _ hc, good_of_word (kn_g _ hc)⟩) (fun q => ⟨List.mem_cons_of_mem _ q, good_of_word (kn_g w q)⟩)
theorem kn_cS (S : CallFix p m c cc nL s args (c1 :: kn_T) own) (hl : Cond.methodLink own index y ∈ kn_T) (hst : Cond.static y ∈ kn_T) (hini : Cond.initialized y.cls ∈ kn_T) (hcode : Cond.code y bytes maxL ret ∈ kn_T)
    (hd : y.cls ≠ "java/lang/invoke/MethodHandle" ∧ y.cls ≠ "java/lang/invoke/VarHandle" ∧ (parseMethodDescriptor y.desc).map (fun d => d.parameters.length) = some n) (hrc : rm.cells = mc) (hrs : rm.slots = ms) (hR : rm.frames + 1 ≤ R.frames ∧ 8 + (maxL + 11) + rm.locals ≤ R.locals) :
    CallB R s args own index y bytes maxL ret (Cond.code y bytes maxL ret :: kn_T) rm mc ms n ∧ (Cond.static y).before args s = true :=
  ⟨callB_of n S.2.2.2.2 (kn_G hcode) rfl hrc hrs (S.2.2.2.2 _ (List.mem_cons_of_mem _ hini)) (S.2.2.2.2 _ (List.mem_cons_of_mem _ hl)) hd hR, S.2.2.2.2 _ (List.mem_cons_of_mem _ hst)⟩
theorem kn_cV (S : CallFix p m c cc nL s args (c1 :: kn_T) own) (hl : Cond.methodLink own index y ∈ kn_T) (hin : Cond.instanceMethod y ∈ kn_T) (hse : Cond.selects C y y ∈ kn_T) (hini : Cond.initialized C ∈ kn_T) (hcode : Cond.code y bytes maxL ret ∈ kn_T) (hC : y.cls = C)
    (hd : y.cls ≠ "java/lang/invoke/MethodHandle" ∧ y.cls ≠ "java/lang/invoke/VarHandle" ∧ (parseMethodDescriptor y.desc).map (fun d => d.parameters.length) = some n) (hrc : rm.cells = mc) (hrs : rm.slots = ms) (hR : rm.frames + 1 ≤ R.frames ∧ 8 + (maxL + 11) + rm.locals ≤ R.locals) :
    CallW R s args own C index y bytes maxL ret (Cond.code y bytes maxL ret :: kn_T) rm mc ms n :=
  ⟨callB_of n S.2.2.2.2 (kn_G hcode) rfl hrc hrs (S.2.2.2.2 _ (List.mem_cons_of_mem _ (by rw [hC]; exact hini))) (S.2.2.2.2 _ (List.mem_cons_of_mem _ hl)) hd hR, S.2.2.2.2 _ (List.mem_cons_of_mem _ hin), S.2.2.2.2 _ (List.mem_cons_of_mem _ hse)⟩
theorem kn_cI (S : CallFix p m c cc nL s args (c1 :: kn_T) own) (hl : Cond.methodLink own index y ∈ kn_T) (hin : Cond.instanceMethod y ∈ kn_T) (hini : Cond.initialized y.cls ∈ kn_T) (hcode : Cond.code y bytes maxL none ∈ kn_T) (hnm : y.name = "<init>")
    (hd : y.cls ≠ "java/lang/invoke/MethodHandle" ∧ y.cls ≠ "java/lang/invoke/VarHandle" ∧ (parseMethodDescriptor y.desc).map (fun d => d.parameters.length) = some n) (hrc : rm.cells = mc) (hrs : rm.slots = ms) (hR : rm.frames + 1 ≤ R.frames ∧ 8 + (maxL + 11) + rm.locals ≤ R.locals) :
    CallB R s args own index y bytes maxL none (Cond.code y bytes maxL none :: kn_T) rm mc ms n ∧ y.name = "<init>" ∧ (Cond.instanceMethod y).before args s = true :=
  ⟨callB_of n S.2.2.2.2 (kn_G hcode) rfl hrc hrs (S.2.2.2.2 _ (List.mem_cons_of_mem _ hini)) (S.2.2.2.2 _ (List.mem_cons_of_mem _ hl)) hd hR, hnm, S.2.2.2.2 _ (List.mem_cons_of_mem _ hin)⟩
end KNC
end
section
/-! What the class and the reference compute, as functions. -/
def kp_H (a b : Int32) : Int32 :=
  let x0 := (a ^^^ 1517746329) * 916191069 + b
  let x1 := x0 ^^^ kv_us x0 15
  let x2 := x1 * 1406938949
  x2 ^^^ kv_us x2 13
def kp_R (k j r : Int32) : Int32 := kp_H (kp_H k j) r &&& 65535
def kp_es (k j : Int32) (q : Int32 × Int32) : Int32 × Int32 := (q.2, q.1 ^^^ kp_R k j q.2)
def kp_ds (k j : Int32) (q : Int32 × Int32) : Int32 × Int32 := (q.2 ^^^ kp_R k j q.1, q.1)
def kp_jn (q : Int32 × Int32) : Int32 := (q.1 <<< ((16 : Int32) &&& 31)) ||| q.2
def kp_E (k x : Int32) : Int32 := kp_jn (kp_es k 3 (kp_es k 2 (kp_es k 1 (kp_es k 0 (kv_us x 16, x &&& 65535)))))
def kp_D (k x : Int32) : Int32 := kp_jn (kp_ds k 0 (kp_ds k 1 (kp_ds k 2 (kp_ds k 3 (kv_us x 16, x &&& 65535)))))
def kp_ks (p : Int32) (q : Int32 × Int32) : Int32 × Int32 := (kp_H p q.1, q.2 ^^^ kp_H p q.1)
def kp_K (p z i : Int32) : Int32 := (kp_ks p (kp_ks p (kp_ks p (kp_ks p (kp_ks p (kp_ks p (kp_ks p (kp_H (kp_H p z) i, kp_H (kp_H p z) i)))))))).2
def kp_dg (a b z : Int32) : Int32 := kp_H (kp_H a z) b
def kp_M (x y n : Int32) : Int32 := kp_H (kp_H x (n + 1) ^^^ y) (n + 1)
def kp_t1 (t : Int32) : Int32 := (t <<< ((1 : Int32) &&& 31)) ^^^ (if t < 0 then 141 else 0)
def kp_ts : Nat → Int32 → Int32
  | 0, t => t
  | n + 1, t => kp_ts n (kp_t1 t)
def kp_T (b s : Int32) (n : Nat) : Int32 := kp_ts n (kp_E b s)
def kp_hide (a b s : Int32) (n : Nat) (w : Int32) : Int32 := kp_E a (w ^^^ kp_T b s n) ^^^ kp_T b s n
def kp_show (a b s : Int32) (n : Nat) (w : Int32) : Int32 := kp_D a (w ^^^ kp_T b s n) ^^^ kp_T b s n
/-- the eight words of a slot -/
def kp_sl (p sd a b : Int32) : Nat → Int32
  | 0 => 1
  | 1 => kp_H sd 0
  | 2 => kp_E (kp_K p (kp_H sd 0) 0) (kp_H sd 1)
  | 3 => kp_E (kp_K p (kp_H sd 0) 1) (kp_H sd 2)
  | 4 => kp_E (kp_K p (kp_H sd 0) 0) (kp_H sd 3)
  | 5 => kp_E (kp_K p (kp_H sd 0) 1) (kp_H sd 4)
  | 6 => kp_E (kp_K p (kp_H sd 0) 0) (kp_M (kp_H sd 1) (kp_H sd 3) 0 ^^^ a)
  | 7 => kp_E (kp_K p (kp_H sd 0) 1) (kp_M (kp_H sd 2) (kp_H sd 4) 1 ^^^ b)
  | _ => 0
/-- half a slot, opened; f: the words of the disk, q: the slot's first place -/
def kp_st (f : Nat → Int32) (q : Nat) (p : Int32) (n : Int32) (i : Nat) : Int32 := kp_D (kp_K p (f (q + 1)) n) (f (q + 2 + i))
def kp_oh (f : Nat → Int32) (q : Nat) (p : Int32) (h : Nat) : Int32 := kp_M (kp_st f q p (nI h) h) (kp_st f q p (nI h) (h + 2)) (nI h) ^^^ kp_st f q p (nI h) (h + 4)
/-- the whole volume as format lays it, but for the mark -/
def kp_vol (a b p sd : Int32) (j : Nat) : Int32 :=
  if j = 1 then kp_dg a b (kp_H sd 5) else if j = 2 then kp_H sd 5 else if 4 ≤ j ∧ j < 12 then kp_sl p sd a b (j - 4)
  else if 48 ≤ j ∧ j < 80 then kp_hide a b (nI ((j - 48) / 4)) ((j - 48) % 4) 0 else 0
/-- the disk: words, writes done, writes left -/
abbrev kp_S : Type := (Nat → Int32) × Int32 × Int32
def kp_put (σ : kp_S) (p : Nat) (x : Int32) : kp_S := (upd σ.1 p x, σ.2.1 + 1, if σ.2.2 ≤ 0 then σ.2.2 else σ.2.2 - 1)
def kp_cut (σ : kp_S) : kp_S := (σ.1, σ.2.1, -1)
def kp_run : List (Nat × Int32) → kp_S → Int32 × kp_S
  | [], σ => (1, σ)
  | q :: xs, σ => if σ.2.2 = 0 then (0, kp_cut σ) else kp_run xs (kp_put σ q.1 q.2)
theorem kp_run_01 : ∀ (xs : List (Nat × Int32)) (σ : kp_S), (kp_run xs σ).1 = 0 ∨ (kp_run xs σ).1 = 1
  | [], σ => Or.inr rfl
  | q :: xs, σ => by
    unfold kp_run
    by_cases h : σ.2.2 = 0
    · rw [if_pos h]; exact Or.inl rfl
    · rw [if_neg h]; exact kp_run_01 xs _
theorem kp_run_z (xs : List (Nat × Int32)) (σ : kp_S) : narrow .boolean (.int (kp_run xs σ).1) = .int (kp_run xs σ).1 := by
  rcases kp_run_01 xs σ with h | h <;> rw [h] <;> decide
theorem kp_run_s (q : Nat × Int32) (xs : List (Nat × Int32)) (σ : kp_S) (h : (kp_run [q] σ).1 = 0) : kp_run (q :: xs) σ = kp_run [q] σ := by
  by_cases hz : σ.2.2 = 0
  · simp [kp_run, hz]
  · simp [kp_run, hz] at h
theorem kp_run_g (q : Nat × Int32) (xs : List (Nat × Int32)) (σ : kp_S) (h : ¬ (kp_run [q] σ).1 = 0) : kp_run (q :: xs) σ = kp_run xs (kp_run [q] σ).2 := by
  by_cases hz : σ.2.2 = 0
  · simp [kp_run, hz] at h
  · simp [kp_run, hz]
theorem kp_run_1 (q : Nat × Int32) (σ : kp_S) (h : ¬ (kp_run [q] σ).1 = 0) : (kp_run [q] σ).2 = kp_put σ q.1 q.2 := by
  by_cases hz : σ.2.2 = 0
  · simp [kp_run, hz] at h
  · simp [kp_run, hz]
theorem kp_run_app (xs ys : List (Nat × Int32)) : ∀ σ : kp_S, kp_run (xs ++ ys) σ = if (kp_run xs σ).1 = 0 then kp_run xs σ else kp_run ys (kp_run xs σ).2 := by
  induction xs with
  | nil => intro σ; simp [kp_run]
  | cons q xs ih =>
    intro σ
    by_cases hz : σ.2.2 = 0
    · simp [kp_run, hz]
    · simp [kp_run, hz, ih]
/-- the journal's writes -/
def kp_cl : Nat → Nat → (Nat → Int32) → List (Nat × Int32)
  | 0, _, _ => []
  | n + 1, j, f => if f j = 0 then kp_cl n (j + 1) f else (j, 0) :: kp_cl n (j + 1) (upd f j 0)
def kp_fi : Nat → Nat → Nat → (Nat → Int32) → List (Nat × Int32)
  | 0, _, _, f => (36, 0) :: kp_cl 9 37 (upd f 36 0)
  | n + 1, i, q, f => (q + i, f (38 + i)) :: kp_fi n (i + 1) q (upd f (q + i) (f (38 + i)))
def kp_ch : Nat → Nat → Nat → Nat → (Nat → Int32) → (Nat → Int32) → List (Nat × Int32)
  | 0, _, N, q, _, f => (37, nI (q + 256 * N)) :: (36, 1) :: kp_fi N 0 q (upd (upd f 37 (nI (q + 256 * N))) 36 1)
  | n + 1, i, N, q, g, f => (38 + i, g i) :: kp_ch n (i + 1) N q g (upd f (38 + i) (g i))
def kp_fm : Nat → Nat → (Nat → Int32) → List (Nat × Int32)
  | 0, _, _ => [(0, 1396855379)]
  | n + 1, j, g => (j, g j) :: kp_fm n (j + 1) g
/-- a word that the journal's place 37 holds: where to, how many -/
def kp_J (f : Nat → Int32) (q n : Nat) : Prop := f 37 = nI (q + 256 * n) ∧ q + n ≤ 80 ∧ n ≤ 8
theorem kp_J_and {q n : Nat} (h : q + n ≤ 80) (h8 : n ≤ 8) : nI (q + 256 * n) &&& 255 = nI q := by
  rw [pk_andN (by omega) 8 (by decide)]
  congr 1
  omega
theorem kp_J_shr {q n : Nat} (h : q + n ≤ 80) (h8 : n ≤ 8) : kv_us (nI (q + 256 * n)) 8 = nI n := by
  unfold kv_us
  rw [pk_ushrN (by omega) 8 8 (by decide)]
  congr 1
  omega
/-- the slots: which are active -/
def kp_ac (f : Nat → Int32) (k : Nat) : Int32 := if f (4 + 8 * k) = 1 then 1 else 0
theorem kp_ac_z (f : Nat → Int32) (k : Nat) : narrow .boolean (.int (kp_ac f k)) = .int (kp_ac f k) := by
  unfold kp_ac
  by_cases h : f (4 + 8 * k) = 1
  · rw [if_pos h]; decide
  · rw [if_neg h]; decide
/-- the reference's plan: places, words, how many, the disk as it will be -/
abbrev kp_P : Type := (Nat → Int32) × (Nat → Int32) × Nat × (Nat → Int32)
def kp_p1 (μ : kp_P) (p : Nat) (x : Int32) : kp_P := (upd μ.1 μ.2.2.1 (nI p), upd μ.2.1 μ.2.2.1 x, μ.2.2.1 + 1, upd μ.2.2.2 p x)
def kp_ps : List (Nat × Int32) → kp_P → kp_P
  | [], μ => μ
  | q :: xs, μ => kp_ps xs (kp_p1 μ q.1 q.2)
def kp_at (f : Nat → Int32) (x : Int32) : Int32 := if x < 0 then 0 else if 80 ≤ x then 0 else f x.toNatClampNeg
theorem kp_ix {x : Int32} (h1 : ¬ x < 0) (h2 : ¬ (80 : Int32) ≤ x) : ∃ j : Nat, j < 80 ∧ x = nI j := by
  rcases pk_ix x (n := 80) (by decide) with h | h | h
  · exact absurd h h1
  · exact absurd h h2
  · exact h
theorem kp_at_n (f : Nat → Int32) {j : Nat} (hj : j < 80) : kp_at f (nI j) = f j := by
  rw [kp_at, if_neg (nI_pos (by omega)), if_neg (show ¬ (80 : Int32) ≤ nI j from nI_ge hj (by decide)), nI_clamp (by omega)]
theorem kp_run_nz {xs : List (Nat × Int32)} {σ : kp_S} (h : ¬ (kp_run xs σ).1 = 0) : (kp_run xs σ).1 = 1 := by
  rcases kp_run_01 xs σ with q | q
  · exact absurd q h
  · exact q
theorem kp_stepf {F : (Nat → Int32) → List (Nat × Int32)} {q : Nat × Int32} {τ : kp_S} {T : Int32 × kp_S} (h : ¬ (kp_run [q] τ).1 = 0) (hT : kp_run (q :: F (upd τ.1 q.1 q.2)) τ = T) : kp_run (F (kp_run [q] τ).2.1) (kp_run [q] τ).2 = T := by
  rw [← hT, kp_run_g q (F (upd τ.1 q.1 q.2)) τ h, kp_run_1 q τ h]
  rfl
theorem kp_stop {q : Nat × Int32} {xs : List (Nat × Int32)} {τ : kp_S} {T : Int32 × kp_S} (h : (kp_run [q] τ).1 = 0) (hT : kp_run (q :: xs) τ = T) : kp_run [q] τ = T := by
  rw [← hT, kp_run_s q xs τ h]
def kp_se (q n : Nat) (f : Nat → Int32) : List (Nat × Int32) := if f 36 = 1 then kp_fi n 0 q f else kp_cl 9 37 f
def kp_wh (g : Nat → Int32) (q hf : Nat) (x pw sd : Int32) : Nat → Int32 :=
  upd (upd (upd g (q + 2 + hf) (kp_E (kp_K pw (g (q + 1)) (nI hf)) (kp_H sd (nI (hf + 1))))) (q + 2 + hf + 2) (kp_E (kp_K pw (g (q + 1)) (nI hf)) (kp_H sd (nI (hf + 3))))) (q + 2 + hf + 4) (kp_E (kp_K pw (g (q + 1)) (nI hf)) (kp_M (kp_H sd (nI (hf + 1))) (kp_H sd (nI (hf + 3))) (nI hf) ^^^ x))
def kp_wo (g : Nat → Int32) (q : Nat) (a b pw sd : Int32) : Nat → Int32 := kp_wh (kp_wh (upd (upd g q 1) (q + 1) (kp_H sd 0)) q 0 a pw sd) q 1 b pw sd
/-- the class's world -/
abbrev vo_W (h d w r : Nat) (cA : ClassId) (σ : kp_S) (g : Nat → Int32) (dv dk pk : Int32) : va_W :=
  [(h, .inr (1, [.ref d, .ref r, .int dv, .int dk, .int pk])), (d, .inr (0, [.ref w, .int σ.2.1, .int σ.2.2])), (w, .inl (cA, 80, .inl σ.1)), (r, .inl (cA, 80, .inl g))]
end
section
abbrev kr_CI_mix : Room := { frames := 0, cells := 0, slots := 0, locals := 0 }
set_option maxRecDepth 100000 in
set_option maxHeartbeats 4000000 in
theorem kc_CI_mix (l : Launch) (D : va_G) (a : Int32) (b : Int32) : kv_I (fun _ => True) l yX0_mix wsX0_mix kr_CI_mix D [] [.int a, .int b] [] (kp_H a b) [] := by
  refine kv_openI (cc := cX0_mix) (maxL := 3) (rt := .int) (by decide) rfl (rfl) (Nat.le_of_ble_eq_true rfl) ?_
  intro p e s m args below meth c A H locs ls Q S hl hB K
  have hl : lv_has ls 3 [(0, .int a), (1, .int b)] := hl
  refine lv_iload_n S.1 S.2.1 dX0_mix_0 rfl (lv_at hl 0 rfl) ?_
  refine lv_ldc (v := 1517746329) S.1 S.2.1 S.2.2.2.1 (S.2.2.2.2 _ (List.mem_cons_of_mem _ kn_56)) dX0_mix_1 ?_
  refine lv_ixor S.1 S.2.1 dX0_mix_3 ?_
  refine lv_ldc (v := 916191069) S.1 S.2.1 S.2.2.2.1 (S.2.2.2.2 _ (List.mem_cons_of_mem _ kn_57)) dX0_mix_4 ?_
  refine lv_imul S.1 S.2.1 dX0_mix_6 ?_
  refine lv_iload_n S.1 S.2.1 dX0_mix_7 rfl (lv_at hl 1 rfl) ?_
  refine lv_iadd S.1 S.2.1 dX0_mix_8 ?_
  refine lv_topi (fun x_1 ex_1 => ?_)
  refine lv_istore_n S.1 S.2.1 dX0_mix_9 rfl hl (by decide) rfl (fun ls hl => ?_)
  have hl : lv_has ls 3 [(2, .int x_1), (0, .int a), (1, .int b)] := hl
  refine lv_iload_n S.1 S.2.1 dX0_mix_10 rfl (lv_at hl 0 rfl) ?_
  refine lv_iload_n S.1 S.2.1 dX0_mix_11 rfl (lv_at hl 0 rfl) ?_
  refine lv_bipush (v := 15) S.1 S.2.1 dX0_mix_12 (by decide) ?_
  refine lv_iushr (v := kv_us x_1 15) S.1 S.2.1 dX0_mix_14 rfl ?_
  refine lv_ixor S.1 S.2.1 dX0_mix_15 ?_
  refine lv_topi (fun x_2 ex_2 => ?_)
  refine lv_istore_n S.1 S.2.1 dX0_mix_16 rfl hl (by decide) rfl (fun ls hl => ?_)
  have hl : lv_has ls 3 [(2, .int x_2), (0, .int a), (1, .int b)] := hl
  refine lv_iload_n S.1 S.2.1 dX0_mix_17 rfl (lv_at hl 0 rfl) ?_
  refine lv_ldc (v := 1406938949) S.1 S.2.1 S.2.2.2.1 (S.2.2.2.2 _ (List.mem_cons_of_mem _ kn_58)) dX0_mix_18 ?_
  refine lv_imul S.1 S.2.1 dX0_mix_20 ?_
  refine lv_topi (fun x_3 ex_3 => ?_)
  refine lv_istore_n S.1 S.2.1 dX0_mix_21 rfl hl (by decide) rfl (fun ls hl => ?_)
  have hl : lv_has ls 3 [(2, .int x_3), (0, .int a), (1, .int b)] := hl
  refine lv_iload_n S.1 S.2.1 dX0_mix_22 rfl (lv_at hl 0 rfl) ?_
  refine lv_iload_n S.1 S.2.1 dX0_mix_23 rfl (lv_at hl 0 rfl) ?_
  refine lv_bipush (v := 13) S.1 S.2.1 dX0_mix_24 (by decide) ?_
  refine lv_iushr (v := kv_us x_3 13) S.1 S.2.1 dX0_mix_26 rfl ?_
  refine lv_ixor S.1 S.2.1 dX0_mix_27 ?_
  exact K _ _ _ _ _ _ hB (by subst_vars; rfl) (rfl) dX0_mix_28

abbrev kr_CI_roundMask : Room := { frames := 1, cells := 0, slots := 0, locals := 22 }
set_option maxRecDepth 100000 in
set_option maxHeartbeats 4000000 in
theorem kc_CI_roundMask (l : Launch) (D : va_G) (a : Int32) (j : Int32) (b : Int32) : kv_I (fun _ => True) l yX0_roundMask wsX0_roundMask kr_CI_roundMask D [] [.int a, .int j, .int b] [] (kp_R a j b) [] := by
  refine kv_openI (cc := cX0_roundMask) (maxL := 3) (rt := .int) (by decide) rfl (rfl) (Nat.le_of_ble_eq_true rfl) ?_
  intro p e s m args below meth c A H locs ls Q S hl hB K
  have hl : lv_has ls 3 [(0, .int a), (1, .int j), (2, .int b)] := hl
  refine lv_iload_n S.1 S.2.1 dX0_roundMask_0 rfl (lv_at hl 0 rfl) ?_
  refine lv_iload_n S.1 S.2.1 dX0_roundMask_1 rfl (lv_at hl 1 rfl) ?_
  refine kv_sP (As := [.int a, .int j]) (rest := []) S (kc_CI_mix l D a j  ) (kn_cS S kn_62 kn_54 kn_5 kn_55 kd_X0_mix rfl rfl ⟨Nat.le_of_ble_eq_true rfl, Nat.le_of_ble_eq_true rfl⟩) hB rfl hl.1 rfl (Nat.le_of_ble_eq_true rfl) dX0_roundMask_2 ⟨Nat.zero_le _, Nat.zero_le _⟩ (fun H locs hB => ?_)
  refine lv_iload_n S.1 S.2.1 dX0_roundMask_5 rfl (lv_at hl 2 rfl) ?_
  refine kv_sP (As := [.int (kp_H a j), .int b]) (rest := []) S (kc_CI_mix l D (kp_H a j) b  ) (kn_cS S kn_62 kn_54 kn_5 kn_55 kd_X0_mix rfl rfl ⟨Nat.le_of_ble_eq_true rfl, Nat.le_of_ble_eq_true rfl⟩) hB rfl hl.1 rfl (Nat.le_of_ble_eq_true rfl) dX0_roundMask_6 ⟨Nat.zero_le _, Nat.zero_le _⟩ (fun H locs hB => ?_)
  refine lv_ldc (v := 65535) S.1 S.2.1 S.2.2.2.1 (S.2.2.2.2 _ (List.mem_cons_of_mem _ kn_82)) dX0_roundMask_9 ?_
  refine lv_iand S.1 S.2.1 dX0_roundMask_11 ?_
  exact K _ _ _ _ _ _ hB (rfl) (rfl) dX0_roundMask_12

abbrev kr_CI_encipher : Room := { frames := 2, cells := 0, slots := 0, locals := 44 }
set_option maxRecDepth 100000 in
set_option maxHeartbeats 4000000 in
theorem kc_CI_encipher (l : Launch) (D : va_G) (a : Int32) (b : Int32) : kv_I (fun _ => True) l yX0_encipher wsX0_encipher kr_CI_encipher D [] [.int a, .int b] [] (kp_E a b) [] := by
  refine kv_openI (cc := cX0_encipher) (maxL := 6) (rt := .int) (by decide) rfl (rfl) (Nat.le_of_ble_eq_true rfl) ?_
  intro p e s m args below meth c A H locs ls Q S hl hB K
  have hl : lv_has ls 6 [(0, .int a), (1, .int b)] := hl
  refine lv_iload_n S.1 S.2.1 dX0_encipher_0 rfl (lv_at hl 1 rfl) ?_
  refine lv_bipush (v := 16) S.1 S.2.1 dX0_encipher_1 (by decide) ?_
  refine lv_iushr (v := kv_us b 16) S.1 S.2.1 dX0_encipher_3 rfl ?_
  refine lv_topi (fun x_1 ex_1 => ?_)
  refine lv_istore_n S.1 S.2.1 dX0_encipher_4 rfl hl (by decide) rfl (fun ls hl => ?_)
  have hl : lv_has ls 6 [(2, .int x_1), (0, .int a), (1, .int b)] := hl
  refine lv_iload_n S.1 S.2.1 dX0_encipher_5 rfl (lv_at hl 2 rfl) ?_
  refine lv_ldc (v := 65535) S.1 S.2.1 S.2.2.2.1 (S.2.2.2.2 _ (List.mem_cons_of_mem _ kn_82)) dX0_encipher_6 ?_
  refine lv_iand S.1 S.2.1 dX0_encipher_8 ?_
  refine lv_topi (fun x_2 ex_2 => ?_)
  refine lv_istore_n S.1 S.2.1 dX0_encipher_9 rfl hl (by decide) rfl (fun ls hl => ?_)
  have hl : lv_has ls 6 [(3, .int x_2), (2, .int x_1), (0, .int a), (1, .int b)] := hl
  refine lv_iconst (v := 0) S.1 S.2.1 dX0_encipher_10 (by decide) ?_
  refine lv_istore S.1 S.2.1 dX0_encipher_11 hl (by decide) rfl (fun ls hl => ?_)
  have hl : lv_has ls 6 [(4, .int 0), (3, .int x_2), (2, .int x_1), (0, .int a), (1, .int b)] := hl
  refine lv_iload S.1 S.2.1 dX0_encipher_13 (lv_at hl 0 rfl) ?_
  refine lv_iconst (v := 4) S.1 S.2.1 dX0_encipher_15 (by decide) ?_
  refine kv_bge (x := 0) (y := 4) (tgt := 41) S (by omega) (by omega) dX0_encipher_16 (by decide) (fun h => absurd h (by omega)) (fun h_16 => ?_)
  refine lv_iload_n S.1 S.2.1 dX0_encipher_19 rfl (lv_at hl 2 rfl) ?_
  refine lv_istore S.1 S.2.1 dX0_encipher_20 hl (by decide) rfl (fun ls hl => ?_)
  have hl : lv_has ls 6 [(5, .int x_1), (4, .int 0), (3, .int x_2), (2, .int x_1), (0, .int a), (1, .int b)] := hl
  refine lv_iload_n S.1 S.2.1 dX0_encipher_22 rfl (lv_at hl 2 rfl) ?_
  refine lv_istore_n S.1 S.2.1 dX0_encipher_23 rfl hl (by decide) rfl (fun ls hl => ?_)
  have hl : lv_has ls 6 [(2, .int x_2), (5, .int x_1), (4, .int 0), (3, .int x_2), (0, .int a), (1, .int b)] := hl
  refine lv_iload S.1 S.2.1 dX0_encipher_24 (lv_at hl 1 rfl) ?_
  refine lv_iload_n S.1 S.2.1 dX0_encipher_26 rfl (lv_at hl 4 rfl) ?_
  refine lv_iload S.1 S.2.1 dX0_encipher_27 (lv_at hl 2 rfl) ?_
  refine lv_iload_n S.1 S.2.1 dX0_encipher_29 rfl (lv_at hl 3 rfl) ?_
  refine kv_sP (As := [.int a, .int 0, .int x_2]) (rest := [.int x_1]) S (kc_CI_roundMask l D a 0 x_2  ) (kn_cS S kn_83 kn_84 kn_5 kn_85 kd_X0_roundMask rfl rfl ⟨Nat.le_of_ble_eq_true rfl, Nat.le_of_ble_eq_true rfl⟩) hB rfl hl.1 rfl (Nat.le_of_ble_eq_true rfl) dX0_encipher_30 ⟨Nat.zero_le _, Nat.zero_le _⟩ (fun H locs hB => ?_)
  refine lv_ixor S.1 S.2.1 dX0_encipher_33 ?_
  refine lv_topi (fun x_3 ex_3 => ?_)
  refine lv_istore_n S.1 S.2.1 dX0_encipher_34 rfl hl (by decide) rfl (fun ls hl => ?_)
  have hl : lv_has ls 6 [(3, .int x_3), (2, .int x_2), (5, .int x_1), (4, .int 0), (0, .int a), (1, .int b)] := hl
  refine lv_iinc (k := 3) (v := 1) S.1 S.2.1 dX0_encipher_35 hl rfl (by decide) (by decide) rfl (fun ls hl => ?_)
  have hl : lv_has ls 6 [(4, .int 1), (3, .int x_3), (2, .int x_2), (5, .int x_1), (0, .int a), (1, .int b)] := hl
  refine lv_goto (tgt := 13) S.1 S.2.1 dX0_encipher_38 (by decide) ?_
  refine lv_iload S.1 S.2.1 dX0_encipher_13 (lv_at hl 0 rfl) ?_
  refine lv_iconst (v := 4) S.1 S.2.1 dX0_encipher_15 (by decide) ?_
  refine kv_bge (x := 1) (y := 4) (tgt := 41) S (by omega) (by omega) dX0_encipher_16 (by decide) (fun h => absurd h (by omega)) (fun h_16 => ?_)
  refine lv_iload_n S.1 S.2.1 dX0_encipher_19 rfl (lv_at hl 2 rfl) ?_
  refine lv_istore S.1 S.2.1 dX0_encipher_20 hl (by decide) rfl (fun ls hl => ?_)
  have hl : lv_has ls 6 [(5, .int x_2), (4, .int 1), (3, .int x_3), (2, .int x_2), (0, .int a), (1, .int b)] := hl
  refine lv_iload_n S.1 S.2.1 dX0_encipher_22 rfl (lv_at hl 2 rfl) ?_
  refine lv_istore_n S.1 S.2.1 dX0_encipher_23 rfl hl (by decide) rfl (fun ls hl => ?_)
  have hl : lv_has ls 6 [(2, .int x_3), (5, .int x_2), (4, .int 1), (3, .int x_3), (0, .int a), (1, .int b)] := hl
  refine lv_iload S.1 S.2.1 dX0_encipher_24 (lv_at hl 1 rfl) ?_
  refine lv_iload_n S.1 S.2.1 dX0_encipher_26 rfl (lv_at hl 4 rfl) ?_
  refine lv_iload S.1 S.2.1 dX0_encipher_27 (lv_at hl 2 rfl) ?_
  refine lv_iload_n S.1 S.2.1 dX0_encipher_29 rfl (lv_at hl 3 rfl) ?_
  refine kv_sP (As := [.int a, .int 1, .int x_3]) (rest := [.int x_2]) S (kc_CI_roundMask l D a 1 x_3  ) (kn_cS S kn_83 kn_84 kn_5 kn_85 kd_X0_roundMask rfl rfl ⟨Nat.le_of_ble_eq_true rfl, Nat.le_of_ble_eq_true rfl⟩) hB rfl hl.1 rfl (Nat.le_of_ble_eq_true rfl) dX0_encipher_30 ⟨Nat.zero_le _, Nat.zero_le _⟩ (fun H locs hB => ?_)
  refine lv_ixor S.1 S.2.1 dX0_encipher_33 ?_
  refine lv_topi (fun x_4 ex_4 => ?_)
  refine lv_istore_n S.1 S.2.1 dX0_encipher_34 rfl hl (by decide) rfl (fun ls hl => ?_)
  have hl : lv_has ls 6 [(3, .int x_4), (2, .int x_3), (5, .int x_2), (4, .int 1), (0, .int a), (1, .int b)] := hl
  refine lv_iinc (k := 3) (v := 2) S.1 S.2.1 dX0_encipher_35 hl rfl (by decide) (by decide) rfl (fun ls hl => ?_)
  have hl : lv_has ls 6 [(4, .int 2), (3, .int x_4), (2, .int x_3), (5, .int x_2), (0, .int a), (1, .int b)] := hl
  refine lv_goto (tgt := 13) S.1 S.2.1 dX0_encipher_38 (by decide) ?_
  refine lv_iload S.1 S.2.1 dX0_encipher_13 (lv_at hl 0 rfl) ?_
  refine lv_iconst (v := 4) S.1 S.2.1 dX0_encipher_15 (by decide) ?_
  refine kv_bge (x := 2) (y := 4) (tgt := 41) S (by omega) (by omega) dX0_encipher_16 (by decide) (fun h => absurd h (by omega)) (fun h_16 => ?_)
  refine lv_iload_n S.1 S.2.1 dX0_encipher_19 rfl (lv_at hl 2 rfl) ?_
  refine lv_istore S.1 S.2.1 dX0_encipher_20 hl (by decide) rfl (fun ls hl => ?_)
  have hl : lv_has ls 6 [(5, .int x_3), (4, .int 2), (3, .int x_4), (2, .int x_3), (0, .int a), (1, .int b)] := hl
  refine lv_iload_n S.1 S.2.1 dX0_encipher_22 rfl (lv_at hl 2 rfl) ?_
  refine lv_istore_n S.1 S.2.1 dX0_encipher_23 rfl hl (by decide) rfl (fun ls hl => ?_)
  have hl : lv_has ls 6 [(2, .int x_4), (5, .int x_3), (4, .int 2), (3, .int x_4), (0, .int a), (1, .int b)] := hl
  refine lv_iload S.1 S.2.1 dX0_encipher_24 (lv_at hl 1 rfl) ?_
  refine lv_iload_n S.1 S.2.1 dX0_encipher_26 rfl (lv_at hl 4 rfl) ?_
  refine lv_iload S.1 S.2.1 dX0_encipher_27 (lv_at hl 2 rfl) ?_
  refine lv_iload_n S.1 S.2.1 dX0_encipher_29 rfl (lv_at hl 3 rfl) ?_
  refine kv_sP (As := [.int a, .int 2, .int x_4]) (rest := [.int x_3]) S (kc_CI_roundMask l D a 2 x_4  ) (kn_cS S kn_83 kn_84 kn_5 kn_85 kd_X0_roundMask rfl rfl ⟨Nat.le_of_ble_eq_true rfl, Nat.le_of_ble_eq_true rfl⟩) hB rfl hl.1 rfl (Nat.le_of_ble_eq_true rfl) dX0_encipher_30 ⟨Nat.zero_le _, Nat.zero_le _⟩ (fun H locs hB => ?_)
  refine lv_ixor S.1 S.2.1 dX0_encipher_33 ?_
  refine lv_topi (fun x_5 ex_5 => ?_)
  refine lv_istore_n S.1 S.2.1 dX0_encipher_34 rfl hl (by decide) rfl (fun ls hl => ?_)
  have hl : lv_has ls 6 [(3, .int x_5), (2, .int x_4), (5, .int x_3), (4, .int 2), (0, .int a), (1, .int b)] := hl
  refine lv_iinc (k := 3) (v := 3) S.1 S.2.1 dX0_encipher_35 hl rfl (by decide) (by decide) rfl (fun ls hl => ?_)
  have hl : lv_has ls 6 [(4, .int 3), (3, .int x_5), (2, .int x_4), (5, .int x_3), (0, .int a), (1, .int b)] := hl
  refine lv_goto (tgt := 13) S.1 S.2.1 dX0_encipher_38 (by decide) ?_
  refine lv_iload S.1 S.2.1 dX0_encipher_13 (lv_at hl 0 rfl) ?_
  refine lv_iconst (v := 4) S.1 S.2.1 dX0_encipher_15 (by decide) ?_
  refine kv_bge (x := 3) (y := 4) (tgt := 41) S (by omega) (by omega) dX0_encipher_16 (by decide) (fun h => absurd h (by omega)) (fun h_16 => ?_)
  refine lv_iload_n S.1 S.2.1 dX0_encipher_19 rfl (lv_at hl 2 rfl) ?_
  refine lv_istore S.1 S.2.1 dX0_encipher_20 hl (by decide) rfl (fun ls hl => ?_)
  have hl : lv_has ls 6 [(5, .int x_4), (4, .int 3), (3, .int x_5), (2, .int x_4), (0, .int a), (1, .int b)] := hl
  refine lv_iload_n S.1 S.2.1 dX0_encipher_22 rfl (lv_at hl 2 rfl) ?_
  refine lv_istore_n S.1 S.2.1 dX0_encipher_23 rfl hl (by decide) rfl (fun ls hl => ?_)
  have hl : lv_has ls 6 [(2, .int x_5), (5, .int x_4), (4, .int 3), (3, .int x_5), (0, .int a), (1, .int b)] := hl
  refine lv_iload S.1 S.2.1 dX0_encipher_24 (lv_at hl 1 rfl) ?_
  refine lv_iload_n S.1 S.2.1 dX0_encipher_26 rfl (lv_at hl 4 rfl) ?_
  refine lv_iload S.1 S.2.1 dX0_encipher_27 (lv_at hl 2 rfl) ?_
  refine lv_iload_n S.1 S.2.1 dX0_encipher_29 rfl (lv_at hl 3 rfl) ?_
  refine kv_sP (As := [.int a, .int 3, .int x_5]) (rest := [.int x_4]) S (kc_CI_roundMask l D a 3 x_5  ) (kn_cS S kn_83 kn_84 kn_5 kn_85 kd_X0_roundMask rfl rfl ⟨Nat.le_of_ble_eq_true rfl, Nat.le_of_ble_eq_true rfl⟩) hB rfl hl.1 rfl (Nat.le_of_ble_eq_true rfl) dX0_encipher_30 ⟨Nat.zero_le _, Nat.zero_le _⟩ (fun H locs hB => ?_)
  refine lv_ixor S.1 S.2.1 dX0_encipher_33 ?_
  refine lv_topi (fun x_6 ex_6 => ?_)
  refine lv_istore_n S.1 S.2.1 dX0_encipher_34 rfl hl (by decide) rfl (fun ls hl => ?_)
  have hl : lv_has ls 6 [(3, .int x_6), (2, .int x_5), (5, .int x_4), (4, .int 3), (0, .int a), (1, .int b)] := hl
  refine lv_iinc (k := 3) (v := 4) S.1 S.2.1 dX0_encipher_35 hl rfl (by decide) (by decide) rfl (fun ls hl => ?_)
  have hl : lv_has ls 6 [(4, .int 4), (3, .int x_6), (2, .int x_5), (5, .int x_4), (0, .int a), (1, .int b)] := hl
  refine lv_goto (tgt := 13) S.1 S.2.1 dX0_encipher_38 (by decide) ?_
  refine lv_iload S.1 S.2.1 dX0_encipher_13 (lv_at hl 0 rfl) ?_
  refine lv_iconst (v := 4) S.1 S.2.1 dX0_encipher_15 (by decide) ?_
  refine kv_bge (x := 4) (y := 4) (tgt := 41) S (by omega) (by omega) dX0_encipher_16 (by decide) (fun h_16 => ?_) (fun h => absurd h (by omega))
  refine lv_iload_n S.1 S.2.1 dX0_encipher_41 rfl (lv_at hl 2 rfl) ?_
  refine lv_bipush (v := 16) S.1 S.2.1 dX0_encipher_42 (by decide) ?_
  refine lv_ishl S.1 S.2.1 dX0_encipher_44 ?_
  refine lv_iload_n S.1 S.2.1 dX0_encipher_45 rfl (lv_at hl 1 rfl) ?_
  refine lv_ior S.1 S.2.1 dX0_encipher_46 ?_
  exact K _ _ _ _ _ _ hB (by subst_vars; rfl) (rfl) dX0_encipher_47

abbrev kr_CI_decipher : Room := { frames := 2, cells := 0, slots := 0, locals := 44 }
set_option maxRecDepth 100000 in
set_option maxHeartbeats 4000000 in
theorem kc_CI_decipher (l : Launch) (D : va_G) (a : Int32) (b : Int32) : kv_I (fun _ => True) l yX0_decipher wsX0_decipher kr_CI_decipher D [] [.int a, .int b] [] (kp_D a b) [] := by
  refine kv_openI (cc := cX0_decipher) (maxL := 6) (rt := .int) (by decide) rfl (rfl) (Nat.le_of_ble_eq_true rfl) ?_
  intro p e s m args below meth c A H locs ls Q S hl hB K
  have hl : lv_has ls 6 [(0, .int a), (1, .int b)] := hl
  refine lv_iload_n S.1 S.2.1 dX0_decipher_0 rfl (lv_at hl 1 rfl) ?_
  refine lv_bipush (v := 16) S.1 S.2.1 dX0_decipher_1 (by decide) ?_
  refine lv_iushr (v := kv_us b 16) S.1 S.2.1 dX0_decipher_3 rfl ?_
  refine lv_topi (fun x_1 ex_1 => ?_)
  refine lv_istore_n S.1 S.2.1 dX0_decipher_4 rfl hl (by decide) rfl (fun ls hl => ?_)
  have hl : lv_has ls 6 [(2, .int x_1), (0, .int a), (1, .int b)] := hl
  refine lv_iload_n S.1 S.2.1 dX0_decipher_5 rfl (lv_at hl 2 rfl) ?_
  refine lv_ldc (v := 65535) S.1 S.2.1 S.2.2.2.1 (S.2.2.2.2 _ (List.mem_cons_of_mem _ kn_82)) dX0_decipher_6 ?_
  refine lv_iand S.1 S.2.1 dX0_decipher_8 ?_
  refine lv_topi (fun x_2 ex_2 => ?_)
  refine lv_istore_n S.1 S.2.1 dX0_decipher_9 rfl hl (by decide) rfl (fun ls hl => ?_)
  have hl : lv_has ls 6 [(3, .int x_2), (2, .int x_1), (0, .int a), (1, .int b)] := hl
  refine lv_iconst (v := 3) S.1 S.2.1 dX0_decipher_10 (by decide) ?_
  refine lv_istore S.1 S.2.1 dX0_decipher_11 hl (by decide) rfl (fun ls hl => ?_)
  have hl : lv_has ls 6 [(4, .int 3), (3, .int x_2), (2, .int x_1), (0, .int a), (1, .int b)] := hl
  refine lv_iload S.1 S.2.1 dX0_decipher_13 (lv_at hl 0 rfl) ?_
  refine lv_if_lt (tgt := 40) S.1 S.2.1 dX0_decipher_15 (by decide) (fun h => absurd h (by decide)) (fun h_15 => ?_)
  refine lv_iload_n S.1 S.2.1 dX0_decipher_18 rfl (lv_at hl 1 rfl) ?_
  refine lv_istore S.1 S.2.1 dX0_decipher_19 hl (by decide) rfl (fun ls hl => ?_)
  have hl : lv_has ls 6 [(5, .int x_2), (4, .int 3), (3, .int x_2), (2, .int x_1), (0, .int a), (1, .int b)] := hl
  refine lv_iload_n S.1 S.2.1 dX0_decipher_21 rfl (lv_at hl 3 rfl) ?_
  refine lv_istore_n S.1 S.2.1 dX0_decipher_22 rfl hl (by decide) rfl (fun ls hl => ?_)
  have hl : lv_has ls 6 [(3, .int x_1), (5, .int x_2), (4, .int 3), (2, .int x_1), (0, .int a), (1, .int b)] := hl
  refine lv_iload S.1 S.2.1 dX0_decipher_23 (lv_at hl 1 rfl) ?_
  refine lv_iload_n S.1 S.2.1 dX0_decipher_25 rfl (lv_at hl 4 rfl) ?_
  refine lv_iload S.1 S.2.1 dX0_decipher_26 (lv_at hl 2 rfl) ?_
  refine lv_iload_n S.1 S.2.1 dX0_decipher_28 rfl (lv_at hl 3 rfl) ?_
  refine kv_sP (As := [.int a, .int 3, .int x_1]) (rest := [.int x_2]) S (kc_CI_roundMask l D a 3 x_1  ) (kn_cS S kn_83 kn_84 kn_5 kn_85 kd_X0_roundMask rfl rfl ⟨Nat.le_of_ble_eq_true rfl, Nat.le_of_ble_eq_true rfl⟩) hB rfl hl.1 rfl (Nat.le_of_ble_eq_true rfl) dX0_decipher_29 ⟨Nat.zero_le _, Nat.zero_le _⟩ (fun H locs hB => ?_)
  refine lv_ixor S.1 S.2.1 dX0_decipher_32 ?_
  refine lv_topi (fun x_3 ex_3 => ?_)
  refine lv_istore_n S.1 S.2.1 dX0_decipher_33 rfl hl (by decide) rfl (fun ls hl => ?_)
  have hl : lv_has ls 6 [(2, .int x_3), (3, .int x_1), (5, .int x_2), (4, .int 3), (0, .int a), (1, .int b)] := hl
  refine lv_iinc (k := 3) (v := 2) S.1 S.2.1 dX0_decipher_34 hl rfl (by decide) (by decide) rfl (fun ls hl => ?_)
  have hl : lv_has ls 6 [(4, .int 2), (2, .int x_3), (3, .int x_1), (5, .int x_2), (0, .int a), (1, .int b)] := hl
  refine lv_goto (tgt := 13) S.1 S.2.1 dX0_decipher_37 (by decide) ?_
  refine lv_iload S.1 S.2.1 dX0_decipher_13 (lv_at hl 0 rfl) ?_
  refine lv_if_lt (tgt := 40) S.1 S.2.1 dX0_decipher_15 (by decide) (fun h => absurd h (by decide)) (fun h_15 => ?_)
  refine lv_iload_n S.1 S.2.1 dX0_decipher_18 rfl (lv_at hl 2 rfl) ?_
  refine lv_istore S.1 S.2.1 dX0_decipher_19 hl (by decide) rfl (fun ls hl => ?_)
  have hl : lv_has ls 6 [(5, .int x_1), (4, .int 2), (2, .int x_3), (3, .int x_1), (0, .int a), (1, .int b)] := hl
  refine lv_iload_n S.1 S.2.1 dX0_decipher_21 rfl (lv_at hl 2 rfl) ?_
  refine lv_istore_n S.1 S.2.1 dX0_decipher_22 rfl hl (by decide) rfl (fun ls hl => ?_)
  have hl : lv_has ls 6 [(3, .int x_3), (5, .int x_1), (4, .int 2), (2, .int x_3), (0, .int a), (1, .int b)] := hl
  refine lv_iload S.1 S.2.1 dX0_decipher_23 (lv_at hl 1 rfl) ?_
  refine lv_iload_n S.1 S.2.1 dX0_decipher_25 rfl (lv_at hl 4 rfl) ?_
  refine lv_iload S.1 S.2.1 dX0_decipher_26 (lv_at hl 2 rfl) ?_
  refine lv_iload_n S.1 S.2.1 dX0_decipher_28 rfl (lv_at hl 3 rfl) ?_
  refine kv_sP (As := [.int a, .int 2, .int x_3]) (rest := [.int x_1]) S (kc_CI_roundMask l D a 2 x_3  ) (kn_cS S kn_83 kn_84 kn_5 kn_85 kd_X0_roundMask rfl rfl ⟨Nat.le_of_ble_eq_true rfl, Nat.le_of_ble_eq_true rfl⟩) hB rfl hl.1 rfl (Nat.le_of_ble_eq_true rfl) dX0_decipher_29 ⟨Nat.zero_le _, Nat.zero_le _⟩ (fun H locs hB => ?_)
  refine lv_ixor S.1 S.2.1 dX0_decipher_32 ?_
  refine lv_topi (fun x_4 ex_4 => ?_)
  refine lv_istore_n S.1 S.2.1 dX0_decipher_33 rfl hl (by decide) rfl (fun ls hl => ?_)
  have hl : lv_has ls 6 [(2, .int x_4), (3, .int x_3), (5, .int x_1), (4, .int 2), (0, .int a), (1, .int b)] := hl
  refine lv_iinc (k := 3) (v := 1) S.1 S.2.1 dX0_decipher_34 hl rfl (by decide) (by decide) rfl (fun ls hl => ?_)
  have hl : lv_has ls 6 [(4, .int 1), (2, .int x_4), (3, .int x_3), (5, .int x_1), (0, .int a), (1, .int b)] := hl
  refine lv_goto (tgt := 13) S.1 S.2.1 dX0_decipher_37 (by decide) ?_
  refine lv_iload S.1 S.2.1 dX0_decipher_13 (lv_at hl 0 rfl) ?_
  refine lv_if_lt (tgt := 40) S.1 S.2.1 dX0_decipher_15 (by decide) (fun h => absurd h (by decide)) (fun h_15 => ?_)
  refine lv_iload_n S.1 S.2.1 dX0_decipher_18 rfl (lv_at hl 2 rfl) ?_
  refine lv_istore S.1 S.2.1 dX0_decipher_19 hl (by decide) rfl (fun ls hl => ?_)
  have hl : lv_has ls 6 [(5, .int x_3), (4, .int 1), (2, .int x_4), (3, .int x_3), (0, .int a), (1, .int b)] := hl
  refine lv_iload_n S.1 S.2.1 dX0_decipher_21 rfl (lv_at hl 2 rfl) ?_
  refine lv_istore_n S.1 S.2.1 dX0_decipher_22 rfl hl (by decide) rfl (fun ls hl => ?_)
  have hl : lv_has ls 6 [(3, .int x_4), (5, .int x_3), (4, .int 1), (2, .int x_4), (0, .int a), (1, .int b)] := hl
  refine lv_iload S.1 S.2.1 dX0_decipher_23 (lv_at hl 1 rfl) ?_
  refine lv_iload_n S.1 S.2.1 dX0_decipher_25 rfl (lv_at hl 4 rfl) ?_
  refine lv_iload S.1 S.2.1 dX0_decipher_26 (lv_at hl 2 rfl) ?_
  refine lv_iload_n S.1 S.2.1 dX0_decipher_28 rfl (lv_at hl 3 rfl) ?_
  refine kv_sP (As := [.int a, .int 1, .int x_4]) (rest := [.int x_3]) S (kc_CI_roundMask l D a 1 x_4  ) (kn_cS S kn_83 kn_84 kn_5 kn_85 kd_X0_roundMask rfl rfl ⟨Nat.le_of_ble_eq_true rfl, Nat.le_of_ble_eq_true rfl⟩) hB rfl hl.1 rfl (Nat.le_of_ble_eq_true rfl) dX0_decipher_29 ⟨Nat.zero_le _, Nat.zero_le _⟩ (fun H locs hB => ?_)
  refine lv_ixor S.1 S.2.1 dX0_decipher_32 ?_
  refine lv_topi (fun x_5 ex_5 => ?_)
  refine lv_istore_n S.1 S.2.1 dX0_decipher_33 rfl hl (by decide) rfl (fun ls hl => ?_)
  have hl : lv_has ls 6 [(2, .int x_5), (3, .int x_4), (5, .int x_3), (4, .int 1), (0, .int a), (1, .int b)] := hl
  refine lv_iinc (k := 3) (v := 0) S.1 S.2.1 dX0_decipher_34 hl rfl (by decide) (by decide) rfl (fun ls hl => ?_)
  have hl : lv_has ls 6 [(4, .int 0), (2, .int x_5), (3, .int x_4), (5, .int x_3), (0, .int a), (1, .int b)] := hl
  refine lv_goto (tgt := 13) S.1 S.2.1 dX0_decipher_37 (by decide) ?_
  refine lv_iload S.1 S.2.1 dX0_decipher_13 (lv_at hl 0 rfl) ?_
  refine lv_if_lt (tgt := 40) S.1 S.2.1 dX0_decipher_15 (by decide) (fun h => absurd h (by decide)) (fun h_15 => ?_)
  refine lv_iload_n S.1 S.2.1 dX0_decipher_18 rfl (lv_at hl 2 rfl) ?_
  refine lv_istore S.1 S.2.1 dX0_decipher_19 hl (by decide) rfl (fun ls hl => ?_)
  have hl : lv_has ls 6 [(5, .int x_4), (4, .int 0), (2, .int x_5), (3, .int x_4), (0, .int a), (1, .int b)] := hl
  refine lv_iload_n S.1 S.2.1 dX0_decipher_21 rfl (lv_at hl 2 rfl) ?_
  refine lv_istore_n S.1 S.2.1 dX0_decipher_22 rfl hl (by decide) rfl (fun ls hl => ?_)
  have hl : lv_has ls 6 [(3, .int x_5), (5, .int x_4), (4, .int 0), (2, .int x_5), (0, .int a), (1, .int b)] := hl
  refine lv_iload S.1 S.2.1 dX0_decipher_23 (lv_at hl 1 rfl) ?_
  refine lv_iload_n S.1 S.2.1 dX0_decipher_25 rfl (lv_at hl 4 rfl) ?_
  refine lv_iload S.1 S.2.1 dX0_decipher_26 (lv_at hl 2 rfl) ?_
  refine lv_iload_n S.1 S.2.1 dX0_decipher_28 rfl (lv_at hl 3 rfl) ?_
  refine kv_sP (As := [.int a, .int 0, .int x_5]) (rest := [.int x_4]) S (kc_CI_roundMask l D a 0 x_5  ) (kn_cS S kn_83 kn_84 kn_5 kn_85 kd_X0_roundMask rfl rfl ⟨Nat.le_of_ble_eq_true rfl, Nat.le_of_ble_eq_true rfl⟩) hB rfl hl.1 rfl (Nat.le_of_ble_eq_true rfl) dX0_decipher_29 ⟨Nat.zero_le _, Nat.zero_le _⟩ (fun H locs hB => ?_)
  refine lv_ixor S.1 S.2.1 dX0_decipher_32 ?_
  refine lv_topi (fun x_6 ex_6 => ?_)
  refine lv_istore_n S.1 S.2.1 dX0_decipher_33 rfl hl (by decide) rfl (fun ls hl => ?_)
  have hl : lv_has ls 6 [(2, .int x_6), (3, .int x_5), (5, .int x_4), (4, .int 0), (0, .int a), (1, .int b)] := hl
  refine lv_iinc (k := 3) (v := (-1)) S.1 S.2.1 dX0_decipher_34 hl rfl (by decide) (by decide) rfl (fun ls hl => ?_)
  have hl : lv_has ls 6 [(4, .int (-1)), (2, .int x_6), (3, .int x_5), (5, .int x_4), (0, .int a), (1, .int b)] := hl
  refine lv_goto (tgt := 13) S.1 S.2.1 dX0_decipher_37 (by decide) ?_
  refine lv_iload S.1 S.2.1 dX0_decipher_13 (lv_at hl 0 rfl) ?_
  refine lv_if_lt (tgt := 40) S.1 S.2.1 dX0_decipher_15 (by decide) (fun h_15 => ?_) (fun h => absurd h (by decide))
  refine lv_iload_n S.1 S.2.1 dX0_decipher_40 rfl (lv_at hl 1 rfl) ?_
  refine lv_bipush (v := 16) S.1 S.2.1 dX0_decipher_41 (by decide) ?_
  refine lv_ishl S.1 S.2.1 dX0_decipher_43 ?_
  refine lv_iload_n S.1 S.2.1 dX0_decipher_44 rfl (lv_at hl 2 rfl) ?_
  refine lv_ior S.1 S.2.1 dX0_decipher_45 ?_
  exact K _ _ _ _ _ _ hB (by subst_vars; rfl) (rfl) dX0_decipher_46

abbrev kr_CI_slotKey : Room := { frames := 1, cells := 0, slots := 0, locals := 22 }
set_option maxRecDepth 100000 in
set_option maxHeartbeats 4000000 in
theorem kc_CI_slotKey (l : Launch) (D : va_G) (a : Int32) (b : Int32) (j : Int32) : kv_I (fun _ => True) l yX0_slotKey wsX0_slotKey kr_CI_slotKey D [] [.int a, .int b, .int j] [] (kp_K a b j) [] := by
  refine kv_openI (cc := cX0_slotKey) (maxL := 6) (rt := .int) (by decide) rfl (rfl) (Nat.le_of_ble_eq_true rfl) ?_
  intro p e s m args below meth c A H locs ls Q S hl hB K
  have hl : lv_has ls 6 [(0, .int a), (1, .int b), (2, .int j)] := hl
  refine lv_iload_n S.1 S.2.1 dX0_slotKey_0 rfl (lv_at hl 0 rfl) ?_
  refine lv_iload_n S.1 S.2.1 dX0_slotKey_1 rfl (lv_at hl 1 rfl) ?_
  refine kv_sP (As := [.int a, .int b]) (rest := []) S (kc_CI_mix l D a b  ) (kn_cS S kn_62 kn_54 kn_5 kn_55 kd_X0_mix rfl rfl ⟨Nat.le_of_ble_eq_true rfl, Nat.le_of_ble_eq_true rfl⟩) hB rfl hl.1 rfl (Nat.le_of_ble_eq_true rfl) dX0_slotKey_2 ⟨Nat.zero_le _, Nat.zero_le _⟩ (fun H locs hB => ?_)
  refine lv_iload_n S.1 S.2.1 dX0_slotKey_5 rfl (lv_at hl 2 rfl) ?_
  refine kv_sP (As := [.int (kp_H a b), .int j]) (rest := []) S (kc_CI_mix l D (kp_H a b) j  ) (kn_cS S kn_62 kn_54 kn_5 kn_55 kd_X0_mix rfl rfl ⟨Nat.le_of_ble_eq_true rfl, Nat.le_of_ble_eq_true rfl⟩) hB rfl hl.1 rfl (Nat.le_of_ble_eq_true rfl) dX0_slotKey_6 ⟨Nat.zero_le _, Nat.zero_le _⟩ (fun H locs hB => ?_)
  refine lv_topi (fun x_1 ex_1 => ?_)
  refine lv_istore_n S.1 S.2.1 dX0_slotKey_9 rfl hl (by decide) rfl (fun ls hl => ?_)
  have hl : lv_has ls 6 [(3, .int x_1), (0, .int a), (1, .int b), (2, .int j)] := hl
  refine lv_iload_n S.1 S.2.1 dX0_slotKey_10 rfl (lv_at hl 0 rfl) ?_
  refine lv_istore S.1 S.2.1 dX0_slotKey_11 hl (by decide) rfl (fun ls hl => ?_)
  have hl : lv_has ls 6 [(4, .int x_1), (3, .int x_1), (0, .int a), (1, .int b), (2, .int j)] := hl
  refine lv_iconst (v := 0) S.1 S.2.1 dX0_slotKey_13 (by decide) ?_
  refine lv_istore S.1 S.2.1 dX0_slotKey_14 hl (by decide) rfl (fun ls hl => ?_)
  have hl : lv_has ls 6 [(5, .int 0), (4, .int x_1), (3, .int x_1), (0, .int a), (1, .int b), (2, .int j)] := hl
  refine lv_iload S.1 S.2.1 dX0_slotKey_16 (lv_at hl 0 rfl) ?_
  refine lv_bipush (v := 7) S.1 S.2.1 dX0_slotKey_18 (by decide) ?_
  refine kv_bge (x := 0) (y := 7) (tgt := 41) S (by omega) (by omega) dX0_slotKey_20 (by decide) (fun h => absurd h (by omega)) (fun h_20 => ?_)
  refine lv_iload_n S.1 S.2.1 dX0_slotKey_23 rfl (lv_at hl 3 rfl) ?_
  refine lv_iload_n S.1 S.2.1 dX0_slotKey_24 rfl (lv_at hl 2 rfl) ?_
  refine kv_sP (As := [.int a, .int x_1]) (rest := []) S (kc_CI_mix l D a x_1  ) (kn_cS S kn_62 kn_54 kn_5 kn_55 kd_X0_mix rfl rfl ⟨Nat.le_of_ble_eq_true rfl, Nat.le_of_ble_eq_true rfl⟩) hB rfl hl.1 rfl (Nat.le_of_ble_eq_true rfl) dX0_slotKey_25 ⟨Nat.zero_le _, Nat.zero_le _⟩ (fun H locs hB => ?_)
  refine lv_topi (fun x_2 ex_2 => ?_)
  refine lv_istore_n S.1 S.2.1 dX0_slotKey_28 rfl hl (by decide) rfl (fun ls hl => ?_)
  have hl : lv_has ls 6 [(3, .int x_2), (5, .int 0), (4, .int x_1), (0, .int a), (1, .int b), (2, .int j)] := hl
  refine lv_iload S.1 S.2.1 dX0_slotKey_29 (lv_at hl 2 rfl) ?_
  refine lv_iload_n S.1 S.2.1 dX0_slotKey_31 rfl (lv_at hl 0 rfl) ?_
  refine lv_ixor S.1 S.2.1 dX0_slotKey_32 ?_
  refine lv_topi (fun x_3 ex_3 => ?_)
  refine lv_istore S.1 S.2.1 dX0_slotKey_33 hl (by decide) rfl (fun ls hl => ?_)
  have hl : lv_has ls 6 [(4, .int x_3), (3, .int x_2), (5, .int 0), (0, .int a), (1, .int b), (2, .int j)] := hl
  refine lv_iinc (k := 2) (v := 1) S.1 S.2.1 dX0_slotKey_35 hl rfl (by decide) (by decide) rfl (fun ls hl => ?_)
  have hl : lv_has ls 6 [(5, .int 1), (4, .int x_3), (3, .int x_2), (0, .int a), (1, .int b), (2, .int j)] := hl
  refine lv_goto (tgt := 16) S.1 S.2.1 dX0_slotKey_38 (by decide) ?_
  refine lv_iload S.1 S.2.1 dX0_slotKey_16 (lv_at hl 0 rfl) ?_
  refine lv_bipush (v := 7) S.1 S.2.1 dX0_slotKey_18 (by decide) ?_
  refine kv_bge (x := 1) (y := 7) (tgt := 41) S (by omega) (by omega) dX0_slotKey_20 (by decide) (fun h => absurd h (by omega)) (fun h_20 => ?_)
  refine lv_iload_n S.1 S.2.1 dX0_slotKey_23 rfl (lv_at hl 3 rfl) ?_
  refine lv_iload_n S.1 S.2.1 dX0_slotKey_24 rfl (lv_at hl 2 rfl) ?_
  refine kv_sP (As := [.int a, .int x_2]) (rest := []) S (kc_CI_mix l D a x_2  ) (kn_cS S kn_62 kn_54 kn_5 kn_55 kd_X0_mix rfl rfl ⟨Nat.le_of_ble_eq_true rfl, Nat.le_of_ble_eq_true rfl⟩) hB rfl hl.1 rfl (Nat.le_of_ble_eq_true rfl) dX0_slotKey_25 ⟨Nat.zero_le _, Nat.zero_le _⟩ (fun H locs hB => ?_)
  refine lv_topi (fun x_4 ex_4 => ?_)
  refine lv_istore_n S.1 S.2.1 dX0_slotKey_28 rfl hl (by decide) rfl (fun ls hl => ?_)
  have hl : lv_has ls 6 [(3, .int x_4), (5, .int 1), (4, .int x_3), (0, .int a), (1, .int b), (2, .int j)] := hl
  refine lv_iload S.1 S.2.1 dX0_slotKey_29 (lv_at hl 2 rfl) ?_
  refine lv_iload_n S.1 S.2.1 dX0_slotKey_31 rfl (lv_at hl 0 rfl) ?_
  refine lv_ixor S.1 S.2.1 dX0_slotKey_32 ?_
  refine lv_topi (fun x_5 ex_5 => ?_)
  refine lv_istore S.1 S.2.1 dX0_slotKey_33 hl (by decide) rfl (fun ls hl => ?_)
  have hl : lv_has ls 6 [(4, .int x_5), (3, .int x_4), (5, .int 1), (0, .int a), (1, .int b), (2, .int j)] := hl
  refine lv_iinc (k := 2) (v := 2) S.1 S.2.1 dX0_slotKey_35 hl rfl (by decide) (by decide) rfl (fun ls hl => ?_)
  have hl : lv_has ls 6 [(5, .int 2), (4, .int x_5), (3, .int x_4), (0, .int a), (1, .int b), (2, .int j)] := hl
  refine lv_goto (tgt := 16) S.1 S.2.1 dX0_slotKey_38 (by decide) ?_
  refine lv_iload S.1 S.2.1 dX0_slotKey_16 (lv_at hl 0 rfl) ?_
  refine lv_bipush (v := 7) S.1 S.2.1 dX0_slotKey_18 (by decide) ?_
  refine kv_bge (x := 2) (y := 7) (tgt := 41) S (by omega) (by omega) dX0_slotKey_20 (by decide) (fun h => absurd h (by omega)) (fun h_20 => ?_)
  refine lv_iload_n S.1 S.2.1 dX0_slotKey_23 rfl (lv_at hl 3 rfl) ?_
  refine lv_iload_n S.1 S.2.1 dX0_slotKey_24 rfl (lv_at hl 2 rfl) ?_
  refine kv_sP (As := [.int a, .int x_4]) (rest := []) S (kc_CI_mix l D a x_4  ) (kn_cS S kn_62 kn_54 kn_5 kn_55 kd_X0_mix rfl rfl ⟨Nat.le_of_ble_eq_true rfl, Nat.le_of_ble_eq_true rfl⟩) hB rfl hl.1 rfl (Nat.le_of_ble_eq_true rfl) dX0_slotKey_25 ⟨Nat.zero_le _, Nat.zero_le _⟩ (fun H locs hB => ?_)
  refine lv_topi (fun x_6 ex_6 => ?_)
  refine lv_istore_n S.1 S.2.1 dX0_slotKey_28 rfl hl (by decide) rfl (fun ls hl => ?_)
  have hl : lv_has ls 6 [(3, .int x_6), (5, .int 2), (4, .int x_5), (0, .int a), (1, .int b), (2, .int j)] := hl
  refine lv_iload S.1 S.2.1 dX0_slotKey_29 (lv_at hl 2 rfl) ?_
  refine lv_iload_n S.1 S.2.1 dX0_slotKey_31 rfl (lv_at hl 0 rfl) ?_
  refine lv_ixor S.1 S.2.1 dX0_slotKey_32 ?_
  refine lv_topi (fun x_7 ex_7 => ?_)
  refine lv_istore S.1 S.2.1 dX0_slotKey_33 hl (by decide) rfl (fun ls hl => ?_)
  have hl : lv_has ls 6 [(4, .int x_7), (3, .int x_6), (5, .int 2), (0, .int a), (1, .int b), (2, .int j)] := hl
  refine lv_iinc (k := 2) (v := 3) S.1 S.2.1 dX0_slotKey_35 hl rfl (by decide) (by decide) rfl (fun ls hl => ?_)
  have hl : lv_has ls 6 [(5, .int 3), (4, .int x_7), (3, .int x_6), (0, .int a), (1, .int b), (2, .int j)] := hl
  refine lv_goto (tgt := 16) S.1 S.2.1 dX0_slotKey_38 (by decide) ?_
  refine lv_iload S.1 S.2.1 dX0_slotKey_16 (lv_at hl 0 rfl) ?_
  refine lv_bipush (v := 7) S.1 S.2.1 dX0_slotKey_18 (by decide) ?_
  refine kv_bge (x := 3) (y := 7) (tgt := 41) S (by omega) (by omega) dX0_slotKey_20 (by decide) (fun h => absurd h (by omega)) (fun h_20 => ?_)
  refine lv_iload_n S.1 S.2.1 dX0_slotKey_23 rfl (lv_at hl 3 rfl) ?_
  refine lv_iload_n S.1 S.2.1 dX0_slotKey_24 rfl (lv_at hl 2 rfl) ?_
  refine kv_sP (As := [.int a, .int x_6]) (rest := []) S (kc_CI_mix l D a x_6  ) (kn_cS S kn_62 kn_54 kn_5 kn_55 kd_X0_mix rfl rfl ⟨Nat.le_of_ble_eq_true rfl, Nat.le_of_ble_eq_true rfl⟩) hB rfl hl.1 rfl (Nat.le_of_ble_eq_true rfl) dX0_slotKey_25 ⟨Nat.zero_le _, Nat.zero_le _⟩ (fun H locs hB => ?_)
  refine lv_topi (fun x_8 ex_8 => ?_)
  refine lv_istore_n S.1 S.2.1 dX0_slotKey_28 rfl hl (by decide) rfl (fun ls hl => ?_)
  have hl : lv_has ls 6 [(3, .int x_8), (5, .int 3), (4, .int x_7), (0, .int a), (1, .int b), (2, .int j)] := hl
  refine lv_iload S.1 S.2.1 dX0_slotKey_29 (lv_at hl 2 rfl) ?_
  refine lv_iload_n S.1 S.2.1 dX0_slotKey_31 rfl (lv_at hl 0 rfl) ?_
  refine lv_ixor S.1 S.2.1 dX0_slotKey_32 ?_
  refine lv_topi (fun x_9 ex_9 => ?_)
  refine lv_istore S.1 S.2.1 dX0_slotKey_33 hl (by decide) rfl (fun ls hl => ?_)
  have hl : lv_has ls 6 [(4, .int x_9), (3, .int x_8), (5, .int 3), (0, .int a), (1, .int b), (2, .int j)] := hl
  refine lv_iinc (k := 2) (v := 4) S.1 S.2.1 dX0_slotKey_35 hl rfl (by decide) (by decide) rfl (fun ls hl => ?_)
  have hl : lv_has ls 6 [(5, .int 4), (4, .int x_9), (3, .int x_8), (0, .int a), (1, .int b), (2, .int j)] := hl
  refine lv_goto (tgt := 16) S.1 S.2.1 dX0_slotKey_38 (by decide) ?_
  refine lv_iload S.1 S.2.1 dX0_slotKey_16 (lv_at hl 0 rfl) ?_
  refine lv_bipush (v := 7) S.1 S.2.1 dX0_slotKey_18 (by decide) ?_
  refine kv_bge (x := 4) (y := 7) (tgt := 41) S (by omega) (by omega) dX0_slotKey_20 (by decide) (fun h => absurd h (by omega)) (fun h_20 => ?_)
  refine lv_iload_n S.1 S.2.1 dX0_slotKey_23 rfl (lv_at hl 3 rfl) ?_
  refine lv_iload_n S.1 S.2.1 dX0_slotKey_24 rfl (lv_at hl 2 rfl) ?_
  refine kv_sP (As := [.int a, .int x_8]) (rest := []) S (kc_CI_mix l D a x_8  ) (kn_cS S kn_62 kn_54 kn_5 kn_55 kd_X0_mix rfl rfl ⟨Nat.le_of_ble_eq_true rfl, Nat.le_of_ble_eq_true rfl⟩) hB rfl hl.1 rfl (Nat.le_of_ble_eq_true rfl) dX0_slotKey_25 ⟨Nat.zero_le _, Nat.zero_le _⟩ (fun H locs hB => ?_)
  refine lv_topi (fun x_10 ex_10 => ?_)
  refine lv_istore_n S.1 S.2.1 dX0_slotKey_28 rfl hl (by decide) rfl (fun ls hl => ?_)
  have hl : lv_has ls 6 [(3, .int x_10), (5, .int 4), (4, .int x_9), (0, .int a), (1, .int b), (2, .int j)] := hl
  refine lv_iload S.1 S.2.1 dX0_slotKey_29 (lv_at hl 2 rfl) ?_
  refine lv_iload_n S.1 S.2.1 dX0_slotKey_31 rfl (lv_at hl 0 rfl) ?_
  refine lv_ixor S.1 S.2.1 dX0_slotKey_32 ?_
  refine lv_topi (fun x_11 ex_11 => ?_)
  refine lv_istore S.1 S.2.1 dX0_slotKey_33 hl (by decide) rfl (fun ls hl => ?_)
  have hl : lv_has ls 6 [(4, .int x_11), (3, .int x_10), (5, .int 4), (0, .int a), (1, .int b), (2, .int j)] := hl
  refine lv_iinc (k := 2) (v := 5) S.1 S.2.1 dX0_slotKey_35 hl rfl (by decide) (by decide) rfl (fun ls hl => ?_)
  have hl : lv_has ls 6 [(5, .int 5), (4, .int x_11), (3, .int x_10), (0, .int a), (1, .int b), (2, .int j)] := hl
  refine lv_goto (tgt := 16) S.1 S.2.1 dX0_slotKey_38 (by decide) ?_
  refine lv_iload S.1 S.2.1 dX0_slotKey_16 (lv_at hl 0 rfl) ?_
  refine lv_bipush (v := 7) S.1 S.2.1 dX0_slotKey_18 (by decide) ?_
  refine kv_bge (x := 5) (y := 7) (tgt := 41) S (by omega) (by omega) dX0_slotKey_20 (by decide) (fun h => absurd h (by omega)) (fun h_20 => ?_)
  refine lv_iload_n S.1 S.2.1 dX0_slotKey_23 rfl (lv_at hl 3 rfl) ?_
  refine lv_iload_n S.1 S.2.1 dX0_slotKey_24 rfl (lv_at hl 2 rfl) ?_
  refine kv_sP (As := [.int a, .int x_10]) (rest := []) S (kc_CI_mix l D a x_10  ) (kn_cS S kn_62 kn_54 kn_5 kn_55 kd_X0_mix rfl rfl ⟨Nat.le_of_ble_eq_true rfl, Nat.le_of_ble_eq_true rfl⟩) hB rfl hl.1 rfl (Nat.le_of_ble_eq_true rfl) dX0_slotKey_25 ⟨Nat.zero_le _, Nat.zero_le _⟩ (fun H locs hB => ?_)
  refine lv_topi (fun x_12 ex_12 => ?_)
  refine lv_istore_n S.1 S.2.1 dX0_slotKey_28 rfl hl (by decide) rfl (fun ls hl => ?_)
  have hl : lv_has ls 6 [(3, .int x_12), (5, .int 5), (4, .int x_11), (0, .int a), (1, .int b), (2, .int j)] := hl
  refine lv_iload S.1 S.2.1 dX0_slotKey_29 (lv_at hl 2 rfl) ?_
  refine lv_iload_n S.1 S.2.1 dX0_slotKey_31 rfl (lv_at hl 0 rfl) ?_
  refine lv_ixor S.1 S.2.1 dX0_slotKey_32 ?_
  refine lv_topi (fun x_13 ex_13 => ?_)
  refine lv_istore S.1 S.2.1 dX0_slotKey_33 hl (by decide) rfl (fun ls hl => ?_)
  have hl : lv_has ls 6 [(4, .int x_13), (3, .int x_12), (5, .int 5), (0, .int a), (1, .int b), (2, .int j)] := hl
  refine lv_iinc (k := 2) (v := 6) S.1 S.2.1 dX0_slotKey_35 hl rfl (by decide) (by decide) rfl (fun ls hl => ?_)
  have hl : lv_has ls 6 [(5, .int 6), (4, .int x_13), (3, .int x_12), (0, .int a), (1, .int b), (2, .int j)] := hl
  refine lv_goto (tgt := 16) S.1 S.2.1 dX0_slotKey_38 (by decide) ?_
  refine lv_iload S.1 S.2.1 dX0_slotKey_16 (lv_at hl 0 rfl) ?_
  refine lv_bipush (v := 7) S.1 S.2.1 dX0_slotKey_18 (by decide) ?_
  refine kv_bge (x := 6) (y := 7) (tgt := 41) S (by omega) (by omega) dX0_slotKey_20 (by decide) (fun h => absurd h (by omega)) (fun h_20 => ?_)
  refine lv_iload_n S.1 S.2.1 dX0_slotKey_23 rfl (lv_at hl 3 rfl) ?_
  refine lv_iload_n S.1 S.2.1 dX0_slotKey_24 rfl (lv_at hl 2 rfl) ?_
  refine kv_sP (As := [.int a, .int x_12]) (rest := []) S (kc_CI_mix l D a x_12  ) (kn_cS S kn_62 kn_54 kn_5 kn_55 kd_X0_mix rfl rfl ⟨Nat.le_of_ble_eq_true rfl, Nat.le_of_ble_eq_true rfl⟩) hB rfl hl.1 rfl (Nat.le_of_ble_eq_true rfl) dX0_slotKey_25 ⟨Nat.zero_le _, Nat.zero_le _⟩ (fun H locs hB => ?_)
  refine lv_topi (fun x_14 ex_14 => ?_)
  refine lv_istore_n S.1 S.2.1 dX0_slotKey_28 rfl hl (by decide) rfl (fun ls hl => ?_)
  have hl : lv_has ls 6 [(3, .int x_14), (5, .int 6), (4, .int x_13), (0, .int a), (1, .int b), (2, .int j)] := hl
  refine lv_iload S.1 S.2.1 dX0_slotKey_29 (lv_at hl 2 rfl) ?_
  refine lv_iload_n S.1 S.2.1 dX0_slotKey_31 rfl (lv_at hl 0 rfl) ?_
  refine lv_ixor S.1 S.2.1 dX0_slotKey_32 ?_
  refine lv_topi (fun x_15 ex_15 => ?_)
  refine lv_istore S.1 S.2.1 dX0_slotKey_33 hl (by decide) rfl (fun ls hl => ?_)
  have hl : lv_has ls 6 [(4, .int x_15), (3, .int x_14), (5, .int 6), (0, .int a), (1, .int b), (2, .int j)] := hl
  refine lv_iinc (k := 2) (v := 7) S.1 S.2.1 dX0_slotKey_35 hl rfl (by decide) (by decide) rfl (fun ls hl => ?_)
  have hl : lv_has ls 6 [(5, .int 7), (4, .int x_15), (3, .int x_14), (0, .int a), (1, .int b), (2, .int j)] := hl
  refine lv_goto (tgt := 16) S.1 S.2.1 dX0_slotKey_38 (by decide) ?_
  refine lv_iload S.1 S.2.1 dX0_slotKey_16 (lv_at hl 0 rfl) ?_
  refine lv_bipush (v := 7) S.1 S.2.1 dX0_slotKey_18 (by decide) ?_
  refine kv_bge (x := 7) (y := 7) (tgt := 41) S (by omega) (by omega) dX0_slotKey_20 (by decide) (fun h_20 => ?_) (fun h => absurd h (by omega))
  refine lv_iload S.1 S.2.1 dX0_slotKey_41 (lv_at hl 1 rfl) ?_
  exact K _ _ _ _ _ _ hB (by subst_vars; rfl) (rfl) dX0_slotKey_43

abbrev kr_CI_digest : Room := { frames := 1, cells := 0, slots := 0, locals := 22 }
set_option maxRecDepth 100000 in
set_option maxHeartbeats 4000000 in
theorem kc_CI_digest (l : Launch) (D : va_G) (a : Int32) (b : Int32) (z : Int32) : kv_I (fun _ => True) l yX0_digest wsX0_digest kr_CI_digest D [] [.int a, .int b, .int z] [] (kp_dg a b z) [] := by
  refine kv_openI (cc := cX0_digest) (maxL := 3) (rt := .int) (by decide) rfl (rfl) (Nat.le_of_ble_eq_true rfl) ?_
  intro p e s m args below meth c A H locs ls Q S hl hB K
  have hl : lv_has ls 3 [(0, .int a), (1, .int b), (2, .int z)] := hl
  refine lv_iload_n S.1 S.2.1 dX0_digest_0 rfl (lv_at hl 0 rfl) ?_
  refine lv_iload_n S.1 S.2.1 dX0_digest_1 rfl (lv_at hl 2 rfl) ?_
  refine kv_sP (As := [.int a, .int z]) (rest := []) S (kc_CI_mix l D a z  ) (kn_cS S kn_62 kn_54 kn_5 kn_55 kd_X0_mix rfl rfl ⟨Nat.le_of_ble_eq_true rfl, Nat.le_of_ble_eq_true rfl⟩) hB rfl hl.1 rfl (Nat.le_of_ble_eq_true rfl) dX0_digest_2 ⟨Nat.zero_le _, Nat.zero_le _⟩ (fun H locs hB => ?_)
  refine lv_iload_n S.1 S.2.1 dX0_digest_5 rfl (lv_at hl 1 rfl) ?_
  refine kv_sP (As := [.int (kp_H a z), .int b]) (rest := []) S (kc_CI_mix l D (kp_H a z) b  ) (kn_cS S kn_62 kn_54 kn_5 kn_55 kd_X0_mix rfl rfl ⟨Nat.le_of_ble_eq_true rfl, Nat.le_of_ble_eq_true rfl⟩) hB rfl hl.1 rfl (Nat.le_of_ble_eq_true rfl) dX0_digest_6 ⟨Nat.zero_le _, Nat.zero_le _⟩ (fun H locs hB => ?_)
  exact K _ _ _ _ _ _ hB (rfl) (rfl) dX0_digest_9

abbrev kr_CI_tweak : Room := { frames := 3, cells := 0, slots := 0, locals := 69 }
set_option maxRecDepth 100000 in
set_option maxHeartbeats 4000000 in
theorem kc_CI_tweak (l : Launch) (D : va_G) (b : Int32) (z : Int32) (n0 : Nat) (hn : n0 < 1000) : kv_I (fun _ => True) l yX0_tweak wsX0_tweak kr_CI_tweak D [] [.int b, .int z, .int (nI n0)] [] (kp_T b z n0) [] := by
  refine kv_openI (cc := cX0_tweak) (maxL := 5) (rt := .int) (by decide) rfl (rfl) (Nat.le_of_ble_eq_true rfl) ?_
  intro p e s m args below meth c A H locs ls Q S hl hB K
  have hl : lv_has ls 5 [(0, .int b), (1, .int z), (2, .int (nI n0))] := hl
  refine lv_iload_n S.1 S.2.1 dX0_tweak_0 rfl (lv_at hl 0 rfl) ?_
  refine lv_iload_n S.1 S.2.1 dX0_tweak_1 rfl (lv_at hl 1 rfl) ?_
  refine kv_sP (As := [.int b, .int z]) (rest := []) S (kc_CI_encipher l D b z  ) (kn_cS S kn_95 kn_80 kn_5 kn_81 kd_X0_encipher rfl rfl ⟨Nat.le_of_ble_eq_true rfl, Nat.le_of_ble_eq_true rfl⟩) hB rfl hl.1 rfl (Nat.le_of_ble_eq_true rfl) dX0_tweak_2 ⟨Nat.zero_le _, Nat.zero_le _⟩ (fun H locs hB => ?_)
  refine lv_topi (fun x_1 ex_1 => ?_)
  refine lv_istore_n S.1 S.2.1 dX0_tweak_5 rfl hl (by decide) rfl (fun ls hl => ?_)
  have hl : lv_has ls 5 [(3, .int x_1), (0, .int b), (1, .int z), (2, .int (nI n0))] := hl
  refine lv_iconst (v := 0) S.1 S.2.1 dX0_tweak_6 (by decide) ?_
  refine lv_istore S.1 S.2.1 dX0_tweak_7 hl (by decide) rfl (fun ls hl => ?_)
  have hl : lv_has ls 5 [(4, .int 0), (3, .int x_1), (0, .int b), (1, .int z), (2, .int (nI n0))] := hl
  have loop9 : ∀ (n : Nat) (j : Nat) (t : Int32) (H : Heap) (locs : List Loc) (ls : Array Slot), (j + n = n0) → (kp_ts n t = kp_T b z n0) → lv_has ls 5 [(4, .int (nI j)), (3, .int t), (2, .int (nI n0)), (0, .int b), (1, .int z)] → kv_B (fun _ => True) D [] A s [] H locs → W p l e kr_CI_tweak s m args below meth c H locs 0 0 Q (F0 m 9 ls []) := by
    intro n
    induction n with
    | zero =>
      intro j t H locs ls hj hT hl hB
      refine lv_iload S.1 S.2.1 dX0_tweak_9 (lv_at hl 0 rfl) ?_
      refine lv_iload_n S.1 S.2.1 dX0_tweak_11 rfl (lv_at hl 2 rfl) ?_
      refine kv_bge (x := j) (y := n0) (tgt := 37) S (by omega) (by omega) dX0_tweak_12 (by decide) (fun h_12 => ?_) (fun h => absurd h (by omega))
      refine lv_iload_n S.1 S.2.1 dX0_tweak_37 rfl (lv_at hl 1 rfl) ?_
      exact K _ _ _ _ _ _ hB (hT) (rfl) dX0_tweak_38
    | succ n ih9 =>
      intro j t H locs ls hj hT hl hB
      refine lv_iload S.1 S.2.1 dX0_tweak_9 (lv_at hl 0 rfl) ?_
      refine lv_iload_n S.1 S.2.1 dX0_tweak_11 rfl (lv_at hl 2 rfl) ?_
      refine kv_bge (x := j) (y := n0) (tgt := 37) S (by omega) (by omega) dX0_tweak_12 (by decide) (fun h => absurd h (by omega)) (fun h_12 => ?_)
      refine lv_iload_n S.1 S.2.1 dX0_tweak_15 rfl (lv_at hl 1 rfl) ?_
      refine lv_iconst (v := 1) S.1 S.2.1 dX0_tweak_16 (by decide) ?_
      refine lv_ishl S.1 S.2.1 dX0_tweak_17 ?_
      refine lv_iload_n S.1 S.2.1 dX0_tweak_18 rfl (lv_at hl 1 rfl) ?_
      refine lv_if_ge (tgt := 28) S.1 S.2.1 dX0_tweak_19 (by decide) (fun h_19 => ?_) (fun h_19 => ?_)
      · skip
        refine lv_iconst (v := 0) S.1 S.2.1 dX0_tweak_28 (by decide) ?_
        refine lv_ixor S.1 S.2.1 dX0_tweak_29 ?_
        refine lv_topi (fun x_2 ex_2 => ?_)
        refine lv_istore_n S.1 S.2.1 dX0_tweak_30 rfl hl (by decide) rfl (fun ls hl => ?_)
        have hl : lv_has ls 5 [(3, .int x_2), (4, .int (nI j)), (2, .int (nI n0)), (0, .int b), (1, .int z)] := hl
        refine lv_iinc (k := 1) (v := nI (j + 1)) S.1 S.2.1 dX0_tweak_31 hl rfl (nI_1 j) (by decide) rfl (fun ls hl => ?_)
        have hl : lv_has ls 5 [(4, .int (nI (j + 1))), (3, .int x_2), (2, .int (nI n0)), (0, .int b), (1, .int z)] := hl
        refine lv_goto (tgt := 9) S.1 S.2.1 dX0_tweak_34 (by decide) ?_
        exact ih9 (j + 1) x_2 _ _ _ (by omega) (by rw [← hT, ex_2]; show _ = kp_ts n (kp_t1 t); first | rw [kp_t1, if_neg (Int32.not_lt.mpr h_19)] | rw [kp_t1, if_pos (Int32.not_le.mp h_19)]) (lv_sub hl [0, 1, 2, 3, 4] rfl) hB
      · skip
        refine lv_sipush (v := 141) S.1 S.2.1 dX0_tweak_22 (by decide) ?_
        refine lv_goto (tgt := 29) S.1 S.2.1 dX0_tweak_25 (by decide) ?_
        refine lv_ixor S.1 S.2.1 dX0_tweak_29 ?_
        refine lv_topi (fun x_3 ex_3 => ?_)
        refine lv_istore_n S.1 S.2.1 dX0_tweak_30 rfl hl (by decide) rfl (fun ls hl => ?_)
        have hl : lv_has ls 5 [(3, .int x_3), (4, .int (nI j)), (2, .int (nI n0)), (0, .int b), (1, .int z)] := hl
        refine lv_iinc (k := 1) (v := nI (j + 1)) S.1 S.2.1 dX0_tweak_31 hl rfl (nI_1 j) (by decide) rfl (fun ls hl => ?_)
        have hl : lv_has ls 5 [(4, .int (nI (j + 1))), (3, .int x_3), (2, .int (nI n0)), (0, .int b), (1, .int z)] := hl
        refine lv_goto (tgt := 9) S.1 S.2.1 dX0_tweak_34 (by decide) ?_
        exact ih9 (j + 1) x_3 _ _ _ (by omega) (by rw [← hT, ex_3]; show _ = kp_ts n (kp_t1 t); first | rw [kp_t1, if_neg (Int32.not_lt.mpr h_19)] | rw [kp_t1, if_pos (Int32.not_le.mp h_19)]) (lv_sub hl [0, 1, 2, 3, 4] rfl) hB
  exact loop9 n0 0 x_1 _ _ _ (by omega) (by rw [ex_1]; rfl) (lv_sub hl [0, 1, 4, 2, 3] rfl) hB

abbrev kr_CI_encipherSectorWord : Room := { frames := 4, cells := 0, slots := 0, locals := 93 }
set_option maxRecDepth 100000 in
set_option maxHeartbeats 4000000 in
theorem kc_CI_encipherSectorWord (l : Launch) (D : va_G) (a : Int32) (b : Int32) (z : Int32) (n0 : Nat) (x : Int32) (hn : n0 < 1000) : kv_I (fun _ => True) l yX0_encipherSectorWord wsX0_encipherSectorWord kr_CI_encipherSectorWord D [] [.int a, .int b, .int z, .int (nI n0), .int x] [] (kp_hide a b z n0 x) [] := by
  refine kv_openI (cc := cX0_encipherSectorWord) (maxL := 6) (rt := .int) (by decide) rfl (rfl) (Nat.le_of_ble_eq_true rfl) ?_
  intro p e s m args below meth c A H locs ls Q S hl hB K
  have hl : lv_has ls 6 [(0, .int a), (1, .int b), (2, .int z), (3, .int (nI n0)), (4, .int x)] := hl
  refine lv_iload_n S.1 S.2.1 dX0_encipherSectorWord_0 rfl (lv_at hl 1 rfl) ?_
  refine lv_iload_n S.1 S.2.1 dX0_encipherSectorWord_1 rfl (lv_at hl 2 rfl) ?_
  refine lv_iload_n S.1 S.2.1 dX0_encipherSectorWord_2 rfl (lv_at hl 3 rfl) ?_
  refine kv_sP (As := [.int b, .int z, .int (nI n0)]) (rest := []) S (kc_CI_tweak l D b z n0  (by omega)) (kn_cS S kn_92 kn_93 kn_5 kn_94 kd_X0_tweak rfl rfl ⟨Nat.le_of_ble_eq_true rfl, Nat.le_of_ble_eq_true rfl⟩) hB rfl hl.1 rfl (Nat.le_of_ble_eq_true rfl) dX0_encipherSectorWord_3 ⟨Nat.zero_le _, Nat.zero_le _⟩ (fun H locs hB => ?_)
  refine lv_topi (fun x_1 ex_1 => ?_)
  refine lv_istore S.1 S.2.1 dX0_encipherSectorWord_6 hl (by decide) rfl (fun ls hl => ?_)
  have hl : lv_has ls 6 [(5, .int x_1), (0, .int a), (1, .int b), (2, .int z), (3, .int (nI n0)), (4, .int x)] := hl
  refine lv_iload_n S.1 S.2.1 dX0_encipherSectorWord_8 rfl (lv_at hl 1 rfl) ?_
  refine lv_iload S.1 S.2.1 dX0_encipherSectorWord_9 (lv_at hl 5 rfl) ?_
  refine lv_iload S.1 S.2.1 dX0_encipherSectorWord_11 (lv_at hl 0 rfl) ?_
  refine lv_ixor S.1 S.2.1 dX0_encipherSectorWord_13 ?_
  refine kv_sP (As := [.int a, .int (x ^^^ x_1)]) (rest := []) S (kc_CI_encipher l D a (x ^^^ x_1)  ) (kn_cS S kn_95 kn_80 kn_5 kn_81 kd_X0_encipher rfl rfl ⟨Nat.le_of_ble_eq_true rfl, Nat.le_of_ble_eq_true rfl⟩) hB rfl hl.1 rfl (Nat.le_of_ble_eq_true rfl) dX0_encipherSectorWord_14 ⟨Nat.zero_le _, Nat.zero_le _⟩ (fun H locs hB => ?_)
  refine lv_iload S.1 S.2.1 dX0_encipherSectorWord_17 (lv_at hl 0 rfl) ?_
  refine lv_ixor S.1 S.2.1 dX0_encipherSectorWord_19 ?_
  exact K _ _ _ _ _ _ hB (by subst_vars; rfl) (rfl) dX0_encipherSectorWord_20

abbrev kr_CI_decipherSectorWord : Room := { frames := 4, cells := 0, slots := 0, locals := 93 }
set_option maxRecDepth 100000 in
set_option maxHeartbeats 4000000 in
theorem kc_CI_decipherSectorWord (l : Launch) (D : va_G) (a : Int32) (b : Int32) (z : Int32) (n0 : Nat) (x : Int32) (hn : n0 < 1000) : kv_I (fun _ => True) l yX0_decipherSectorWord wsX0_decipherSectorWord kr_CI_decipherSectorWord D [] [.int a, .int b, .int z, .int (nI n0), .int x] [] (kp_show a b z n0 x) [] := by
  refine kv_openI (cc := cX0_decipherSectorWord) (maxL := 6) (rt := .int) (by decide) rfl (rfl) (Nat.le_of_ble_eq_true rfl) ?_
  intro p e s m args below meth c A H locs ls Q S hl hB K
  have hl : lv_has ls 6 [(0, .int a), (1, .int b), (2, .int z), (3, .int (nI n0)), (4, .int x)] := hl
  refine lv_iload_n S.1 S.2.1 dX0_decipherSectorWord_0 rfl (lv_at hl 1 rfl) ?_
  refine lv_iload_n S.1 S.2.1 dX0_decipherSectorWord_1 rfl (lv_at hl 2 rfl) ?_
  refine lv_iload_n S.1 S.2.1 dX0_decipherSectorWord_2 rfl (lv_at hl 3 rfl) ?_
  refine kv_sP (As := [.int b, .int z, .int (nI n0)]) (rest := []) S (kc_CI_tweak l D b z n0  (by omega)) (kn_cS S kn_92 kn_93 kn_5 kn_94 kd_X0_tweak rfl rfl ⟨Nat.le_of_ble_eq_true rfl, Nat.le_of_ble_eq_true rfl⟩) hB rfl hl.1 rfl (Nat.le_of_ble_eq_true rfl) dX0_decipherSectorWord_3 ⟨Nat.zero_le _, Nat.zero_le _⟩ (fun H locs hB => ?_)
  refine lv_topi (fun x_1 ex_1 => ?_)
  refine lv_istore S.1 S.2.1 dX0_decipherSectorWord_6 hl (by decide) rfl (fun ls hl => ?_)
  have hl : lv_has ls 6 [(5, .int x_1), (0, .int a), (1, .int b), (2, .int z), (3, .int (nI n0)), (4, .int x)] := hl
  refine lv_iload_n S.1 S.2.1 dX0_decipherSectorWord_8 rfl (lv_at hl 1 rfl) ?_
  refine lv_iload S.1 S.2.1 dX0_decipherSectorWord_9 (lv_at hl 5 rfl) ?_
  refine lv_iload S.1 S.2.1 dX0_decipherSectorWord_11 (lv_at hl 0 rfl) ?_
  refine lv_ixor S.1 S.2.1 dX0_decipherSectorWord_13 ?_
  refine kv_sP (As := [.int a, .int (x ^^^ x_1)]) (rest := []) S (kc_CI_decipher l D a (x ^^^ x_1)  ) (kn_cS S kn_208 kn_158 kn_5 kn_159 kd_X0_decipher rfl rfl ⟨Nat.le_of_ble_eq_true rfl, Nat.le_of_ble_eq_true rfl⟩) hB rfl hl.1 rfl (Nat.le_of_ble_eq_true rfl) dX0_decipherSectorWord_14 ⟨Nat.zero_le _, Nat.zero_le _⟩ (fun H locs hB => ?_)
  refine lv_iload S.1 S.2.1 dX0_decipherSectorWord_17 (lv_at hl 0 rfl) ?_
  refine lv_ixor S.1 S.2.1 dX0_decipherSectorWord_19 ?_
  exact K _ _ _ _ _ _ hB (by subst_vars; rfl) (rfl) dX0_decipherSectorWord_20
end
section
abbrev kr_DI_wordAt : Room := { frames := 0, cells := 0, slots := 0, locals := 0 }
set_option maxRecDepth 100000 in
set_option maxHeartbeats 4000000 in
theorem kc_DI_wordAt (l : Launch) (N : State → Prop) (hN : kv_Mv N) (D : va_G) (cA : ClassId) (h d w r : Nat) (σ : kp_S) (g : Nat → Int32) (dv dk pk : Int32) (x : Int32) : kv_I N l yX1_wordAt wsX1_wordAt kr_DI_wordAt D [(cA, .int)] [.ref d, .int x] (vo_W h d w r cA σ g dv dk pk) (kp_at σ.1 x) (vo_W h d w r cA σ g dv dk pk) := by
  refine kv_openI (cc := cX1_wordAt) (maxL := 2) (rt := .int) (by decide) rfl (rfl) (Nat.le_of_ble_eq_true rfl) ?_
  intro p e s m args below meth c A H locs ls Q S hl hB K
  have hl : lv_has ls 2 [(0, .ref d), (1, .int x)] := hl
  refine lv_iload_n S.1 S.2.1 dX1_wordAt_0 rfl (lv_at hl 1 rfl) ?_
  refine lv_if_lt (tgt := 19) S.1 S.2.1 dX1_wordAt_1 (by decide) (fun h_1 => ?_) (fun h_1 => ?_)
  · skip
    refine lv_iconst (v := 0) S.1 S.2.1 dX1_wordAt_19 (by decide) ?_
    exact K _ _ _ _ _ _ hB (by first | rw [kp_at, if_pos h_1] | rw [kp_at, if_neg h_1, if_pos h_7] | rw [kp_at, if_neg h_1, if_neg h_7, ej, nI_clamp (by omega)]) (rfl) dX1_wordAt_20
  · skip
    refine lv_iload_n S.1 S.2.1 dX1_wordAt_4 rfl (lv_at hl 1 rfl) ?_
    refine lv_bipush (v := 80) S.1 S.2.1 dX1_wordAt_5 (by decide) ?_
    refine lv_icmp_ge (tgt := 19) S.1 S.2.1 dX1_wordAt_7 (by decide) (fun h_7 => ?_) (fun h_7 => ?_)
    · skip
      refine lv_iconst (v := 0) S.1 S.2.1 dX1_wordAt_19 (by decide) ?_
      exact K _ _ _ _ _ _ hB (by first | rw [kp_at, if_pos h_1] | rw [kp_at, if_neg h_1, if_pos h_7] | rw [kp_at, if_neg h_1, if_neg h_7, ej, nI_clamp (by omega)]) (rfl) dX1_wordAt_20
    · skip
      refine lv_aload_n S.1 S.2.1 dX1_wordAt_10 rfl (lv_at hl 0 rfl) ?_
      refine kv_get (C := RX1) (T := TX1) (M := 3) (ci := 0) S hB (kn_c kn_iX1) 1 rfl rfl 0 (by decide) (List.mem_cons_of_mem _ kn_22) rfl rfl dX1_wordAt_11 ?_
      refine lv_iload_n S.1 S.2.1 dX1_wordAt_14 rfl (lv_at hl 1 rfl) ?_
      obtain ⟨j, hj, ej⟩ := kp_ix h_1 h_7
      refine kv_iald S hB 2 0 rfl rfl j ej (by omega) (by decide) dX1_wordAt_15 ?_
      refine lv_goto (tgt := 20) S.1 S.2.1 dX1_wordAt_16 (by decide) ?_
      exact K _ _ _ _ _ _ hB (by first | rw [kp_at, if_pos h_1] | rw [kp_at, if_neg h_1, if_pos h_7] | rw [kp_at, if_neg h_1, if_neg h_7, ej, nI_clamp (by omega)]) (rfl) dX1_wordAt_20

theorem kc_DI_wordAtN (l : Launch) (N : State → Prop) (hN : kv_Mv N) (D : va_G) (cA : ClassId) (h d w r : Nat) (σ : kp_S) (g : Nat → Int32) (dv dk pk : Int32) (j : Nat) (hj : j < 80) : kv_I N l yX1_wordAt wsX1_wordAt kr_DI_wordAt D [(cA, .int)] [.ref d, .int (nI j)] (vo_W h d w r cA σ g dv dk pk) (σ.1 j) (vo_W h d w r cA σ g dv dk pk) := by
  have hh := kc_DI_wordAt l N hN D cA h d w r σ g dv dk pk (nI j)
  rw [kp_at_n _ hj] at hh
  exact hh

abbrev kr_DI_put : Room := { frames := 0, cells := 0, slots := 0, locals := 0 }
set_option maxRecDepth 100000 in
set_option maxHeartbeats 4000000 in
theorem kc_DI_put (l : Launch) (N : State → Prop) (hN : kv_Mv N) (D : va_G) (cA : ClassId) (h d w r : Nat) (σ : kp_S) (g : Nat → Int32) (dv dk pk : Int32) (j : Nat) (x : Int32) (hj : j < 80) : kv_I N l yX1_put wsX1_put kr_DI_put D [(cA, .int)] [.ref d, .int (nI j), .int x] (vo_W h d w r cA σ g dv dk pk) ((kp_run [(j, x)] σ).1) (vo_W h d w r cA ((kp_run [(j, x)] σ).2) g dv dk pk) := by
  refine kv_openI (cc := cX1_put) (maxL := 3) (rt := .boolean) (by decide) rfl (kp_run_z _ _) (Nat.le_of_ble_eq_true rfl) ?_
  intro p e s m args below meth c A H locs ls Q S hl hB K
  have hl : lv_has ls 3 [(0, .ref d), (1, .int (nI j)), (2, .int x)] := hl
  refine lv_aload_n S.1 S.2.1 dX1_put_0 rfl (lv_at hl 0 rfl) ?_
  refine kv_get (C := RX1) (T := TX1) (M := 3) (ci := 0) S hB (kn_c kn_iX1) 1 rfl rfl 2 (by decide) (List.mem_cons_of_mem _ kn_24) rfl rfl dX1_put_1 ?_
  refine lv_if_ne (tgt := 14) S.1 S.2.1 dX1_put_4 (by decide) (fun h_4 => ?_) (fun h_4 => ?_)
  · skip
    refine lv_aload_n S.1 S.2.1 dX1_put_14 rfl (lv_at hl 0 rfl) ?_
    refine kv_get (C := RX1) (T := TX1) (M := 3) (ci := 0) S hB (kn_c kn_iX1) 1 rfl rfl 2 (by decide) (List.mem_cons_of_mem _ kn_24) rfl rfl dX1_put_15 ?_
    refine lv_if_le (tgt := 31) S.1 S.2.1 dX1_put_18 (by decide) (fun h_18 => ?_) (fun h_18 => ?_)
    · skip
      refine lv_aload_n S.1 S.2.1 dX1_put_31 rfl (lv_at hl 0 rfl) ?_
      refine lv_dup S.1 S.2.1 dX1_put_32 rfl ?_
      refine kv_get (C := RX1) (T := TX1) (M := 3) (ci := 0) S hB (kn_c kn_iX1) 1 rfl rfl 1 (by decide) (List.mem_cons_of_mem _ kn_23) rfl rfl dX1_put_33 ?_
      refine lv_iconst (v := 1) S.1 S.2.1 dX1_put_36 (by decide) ?_
      refine lv_iadd S.1 S.2.1 dX1_put_37 ?_
      refine kv_put (C := RX1) (T := TX1) (M := 3) (ci := 0) (v := σ.2.1 + 1) S hB (kn_c kn_iX1) tyX1 tyX1_ok nmX1 1 rfl rfl 1 (by decide) (List.mem_cons_of_mem _ kn_23) rfl rfl rfl (Nat.le_of_ble_eq_true rfl) dX1_put_38 (fun H locs hB => ?_)
      have hB : kv_B N D [(cA, .int)] A s (vo_W h d w r cA (σ.1, σ.2.1 + 1, σ.2.2) g dv dk pk) H locs := hB
      refine lv_iload_n S.1 S.2.1 dX1_put_41 rfl (lv_at hl 1 rfl) ?_
      refine kv_blt0 (x := j) (tgt := 58) S (by omega) dX1_put_42 (by decide) ?_
      refine lv_iload_n S.1 S.2.1 dX1_put_45 rfl (lv_at hl 1 rfl) ?_
      refine lv_bipush (v := 80) S.1 S.2.1 dX1_put_46 (by decide) ?_
      refine kv_bge (x := j) (y := 80) (tgt := 58) S (by omega) (by omega) dX1_put_48 (by decide) (fun h => absurd h (by omega)) (fun h_48 => ?_)
      refine lv_aload_n S.1 S.2.1 dX1_put_51 rfl (lv_at hl 0 rfl) ?_
      refine kv_get (C := RX1) (T := TX1) (M := 3) (ci := 0) S hB (kn_c kn_iX1) 1 rfl rfl 0 (by decide) (List.mem_cons_of_mem _ kn_22) rfl rfl dX1_put_52 ?_
      refine lv_iload_n S.1 S.2.1 dX1_put_55 rfl (lv_at hl 1 rfl) ?_
      refine lv_iload_n S.1 S.2.1 dX1_put_56 rfl (lv_at hl 2 rfl) ?_
      refine kv_iast S hB 2 0 rfl rfl j rfl (by omega) (by decide) dX1_put_57 (fun H locs hB => ?_)
      have hB : kv_B N D [(cA, .int)] A s (vo_W h d w r cA (upd σ.1 j x, σ.2.1 + 1, σ.2.2) g dv dk pk) H locs := hB
      refine lv_iconst (v := 1) S.1 S.2.1 dX1_put_58 (by decide) ?_
      exact K _ _ _ _ _ _ hB (by rw [kp_run, if_neg h_4]; rfl) (by rw [kp_run, if_neg h_4]; show _ = vo_W h d w r cA (kp_put σ j x) g dv dk pk; first | rw [kp_put, if_pos h_18] | rw [kp_put, if_neg h_18]) dX1_put_59
    · skip
      refine lv_aload_n S.1 S.2.1 dX1_put_21 rfl (lv_at hl 0 rfl) ?_
      refine lv_dup S.1 S.2.1 dX1_put_22 rfl ?_
      refine kv_get (C := RX1) (T := TX1) (M := 3) (ci := 0) S hB (kn_c kn_iX1) 1 rfl rfl 2 (by decide) (List.mem_cons_of_mem _ kn_24) rfl rfl dX1_put_23 ?_
      refine lv_iconst (v := 1) S.1 S.2.1 dX1_put_26 (by decide) ?_
      refine lv_isub S.1 S.2.1 dX1_put_27 ?_
      refine kv_put (C := RX1) (T := TX1) (M := 3) (ci := 0) (v := σ.2.2 - 1) S hB (kn_c kn_iX1) tyX1 tyX1_ok nmX1 1 rfl rfl 2 (by decide) (List.mem_cons_of_mem _ kn_24) rfl rfl rfl (Nat.le_of_ble_eq_true rfl) dX1_put_28 (fun H locs hB => ?_)
      have hB : kv_B N D [(cA, .int)] A s (vo_W h d w r cA (σ.1, σ.2.1, σ.2.2 - 1) g dv dk pk) H locs := hB
      refine lv_aload_n S.1 S.2.1 dX1_put_31 rfl (lv_at hl 0 rfl) ?_
      refine lv_dup S.1 S.2.1 dX1_put_32 rfl ?_
      refine kv_get (C := RX1) (T := TX1) (M := 3) (ci := 0) S hB (kn_c kn_iX1) 1 rfl rfl 1 (by decide) (List.mem_cons_of_mem _ kn_23) rfl rfl dX1_put_33 ?_
      refine lv_iconst (v := 1) S.1 S.2.1 dX1_put_36 (by decide) ?_
      refine lv_iadd S.1 S.2.1 dX1_put_37 ?_
      refine kv_put (C := RX1) (T := TX1) (M := 3) (ci := 0) (v := σ.2.1 + 1) S hB (kn_c kn_iX1) tyX1 tyX1_ok nmX1 1 rfl rfl 1 (by decide) (List.mem_cons_of_mem _ kn_23) rfl rfl rfl (Nat.le_of_ble_eq_true rfl) dX1_put_38 (fun H locs hB => ?_)
      have hB : kv_B N D [(cA, .int)] A s (vo_W h d w r cA (σ.1, σ.2.1 + 1, σ.2.2 - 1) g dv dk pk) H locs := hB
      refine lv_iload_n S.1 S.2.1 dX1_put_41 rfl (lv_at hl 1 rfl) ?_
      refine kv_blt0 (x := j) (tgt := 58) S (by omega) dX1_put_42 (by decide) ?_
      refine lv_iload_n S.1 S.2.1 dX1_put_45 rfl (lv_at hl 1 rfl) ?_
      refine lv_bipush (v := 80) S.1 S.2.1 dX1_put_46 (by decide) ?_
      refine kv_bge (x := j) (y := 80) (tgt := 58) S (by omega) (by omega) dX1_put_48 (by decide) (fun h => absurd h (by omega)) (fun h_48 => ?_)
      refine lv_aload_n S.1 S.2.1 dX1_put_51 rfl (lv_at hl 0 rfl) ?_
      refine kv_get (C := RX1) (T := TX1) (M := 3) (ci := 0) S hB (kn_c kn_iX1) 1 rfl rfl 0 (by decide) (List.mem_cons_of_mem _ kn_22) rfl rfl dX1_put_52 ?_
      refine lv_iload_n S.1 S.2.1 dX1_put_55 rfl (lv_at hl 1 rfl) ?_
      refine lv_iload_n S.1 S.2.1 dX1_put_56 rfl (lv_at hl 2 rfl) ?_
      refine kv_iast S hB 2 0 rfl rfl j rfl (by omega) (by decide) dX1_put_57 (fun H locs hB => ?_)
      have hB : kv_B N D [(cA, .int)] A s (vo_W h d w r cA (upd σ.1 j x, σ.2.1 + 1, σ.2.2 - 1) g dv dk pk) H locs := hB
      refine lv_iconst (v := 1) S.1 S.2.1 dX1_put_58 (by decide) ?_
      exact K _ _ _ _ _ _ hB (by rw [kp_run, if_neg h_4]; rfl) (by rw [kp_run, if_neg h_4]; show _ = vo_W h d w r cA (kp_put σ j x) g dv dk pk; first | rw [kp_put, if_pos h_18] | rw [kp_put, if_neg h_18]) dX1_put_59
  · skip
    refine lv_aload_n S.1 S.2.1 dX1_put_7 rfl (lv_at hl 0 rfl) ?_
    refine lv_iconst (v := (-1)) S.1 S.2.1 dX1_put_8 (by decide) ?_
    refine kv_put (C := RX1) (T := TX1) (M := 3) (ci := 0) (v := (-1)) S hB (kn_c kn_iX1) tyX1 tyX1_ok nmX1 1 rfl rfl 2 (by decide) (List.mem_cons_of_mem _ kn_24) rfl rfl rfl (Nat.le_of_ble_eq_true rfl) dX1_put_9 (fun H locs hB => ?_)
    have hB : kv_B N D [(cA, .int)] A s (vo_W h d w r cA (σ.1, σ.2.1, (-1)) g dv dk pk) H locs := hB
    refine lv_iconst (v := 0) S.1 S.2.1 dX1_put_12 (by decide) ?_
    exact K _ _ _ _ _ _ hB (by rw [kp_run, if_pos h_4]) (by rw [kp_run, if_pos h_4]; rfl) dX1_put_13

abbrev kr_DI_clearJournal : Room := { frames := 1, cells := 0, slots := 0, locals := 22 }
set_option maxRecDepth 100000 in
set_option maxHeartbeats 4000000 in
theorem kc_DI_clearJournal (l : Launch) (N : State → Prop) (hN : kv_Mv N) (D : va_G) (cA : ClassId) (h d w r : Nat) (σ : kp_S) (g : Nat → Int32) (dv dk pk : Int32) : kv_I N l yX1_clearJournal wsX1_clearJournal kr_DI_clearJournal D [(cA, .int)] [.ref d] (vo_W h d w r cA σ g dv dk pk) ((kp_run (kp_cl 9 37 σ.1) σ).1) (vo_W h d w r cA ((kp_run (kp_cl 9 37 σ.1) σ).2) g dv dk pk) := by
  refine kv_openI (cc := cX1_clearJournal) (maxL := 2) (rt := .boolean) (by decide) rfl (kp_run_z _ _) (Nat.le_of_ble_eq_true rfl) ?_
  intro p e s m args below meth c A H locs ls Q S hl hB K
  have hl : lv_has ls 2 [(0, .ref d)] := hl
  refine lv_bipush (v := 37) S.1 S.2.1 dX1_clearJournal_0 (by decide) ?_
  refine lv_istore_n S.1 S.2.1 dX1_clearJournal_2 rfl hl (by decide) rfl (fun ls hl => ?_)
  have hl : lv_has ls 2 [(1, .int 37), (0, .ref d)] := hl
  have loop3 : ∀ (n : Nat) (j : Nat) (τ : kp_S) (H : Heap) (locs : List Loc) (ls : Array Slot), (j + n = 46) → (kp_run (kp_cl n j τ.1) τ = kp_run (kp_cl 9 37 σ.1) σ) → lv_has ls 2 [(1, .int (nI j)), (0, .ref d)] → kv_B N D [(cA, .int)] A s (vo_W h d w r cA τ g dv dk pk) H locs → W p l e kr_DI_clearJournal s m args below meth c H locs 0 0 Q (F0 m 3 ls []) := by
    intro n
    induction n with
    | zero =>
      intro j τ H locs ls hj hT hl hB
      refine lv_iload_n S.1 S.2.1 dX1_clearJournal_3 rfl (lv_at hl 0 rfl) ?_
      refine lv_bipush (v := 45) S.1 S.2.1 dX1_clearJournal_4 (by decide) ?_
      refine kv_bgt (x := j) (y := 45) (tgt := 34) S (by omega) (by omega) dX1_clearJournal_6 (by decide) (fun h_6 => ?_) (fun h => absurd h (by omega))
      refine lv_iconst (v := 1) S.1 S.2.1 dX1_clearJournal_34 (by decide) ?_
      exact K _ _ _ _ _ _ hB (by rw [← hT]; rfl) (by rw [← hT]; rfl) dX1_clearJournal_35
    | succ n ih3 =>
      intro j τ H locs ls hj hT hl hB
      refine lv_iload_n S.1 S.2.1 dX1_clearJournal_3 rfl (lv_at hl 0 rfl) ?_
      refine lv_bipush (v := 45) S.1 S.2.1 dX1_clearJournal_4 (by decide) ?_
      refine kv_bgt (x := j) (y := 45) (tgt := 34) S (by omega) (by omega) dX1_clearJournal_6 (by decide) (fun h => absurd h (by omega)) (fun h_6 => ?_)
      refine lv_aload_n S.1 S.2.1 dX1_clearJournal_9 rfl (lv_at hl 1 rfl) ?_
      refine lv_iload_n S.1 S.2.1 dX1_clearJournal_10 rfl (lv_at hl 0 rfl) ?_
      refine kv_vI (As := [.int (nI j)]) (rest := []) hN S (kc_DI_wordAtN l N hN D cA h d w r τ g dv dk pk j  (by omega)) (kn_cV (C := RX1) S kn_122 kn_115 kn_116 kn_2 kn_117 rfl kd_X1_wordAt rfl rfl ⟨Nat.le_of_ble_eq_true rfl, Nat.le_of_ble_eq_true rfl⟩) hB 1 rfl rfl rfl hl.1 rfl (Nat.le_of_ble_eq_true rfl) dX1_clearJournal_11 ⟨Nat.zero_le _, Nat.zero_le _⟩ (fun H locs hB => ?_)
      refine lv_if_eq (tgt := 28) S.1 S.2.1 dX1_clearJournal_14 (by decide) (fun h_14 => ?_) (fun h_14 => ?_)
      · skip
        refine lv_iinc (k := 0) (v := nI (j + 1)) S.1 S.2.1 dX1_clearJournal_28 hl rfl (nI_1 j) (by decide) rfl (fun ls hl => ?_)
        have hl : lv_has ls 2 [(1, .int (nI (j + 1))), (0, .ref d)] := hl
        refine lv_goto (tgt := 3) S.1 S.2.1 dX1_clearJournal_31 (by decide) ?_
        exact ih3 (j + 1) τ _ _ _ (by omega) (by rw [← hT, kp_cl, if_pos h_14]) (lv_sub hl [0, 1] rfl) hB
      · skip
        have hT1 : kp_run ((j, 0) :: kp_cl n (j + 1) (upd τ.1 j 0)) τ = kp_run (kp_cl 9 37 σ.1) σ := by rw [← hT, kp_cl, if_neg h_14]
        refine lv_aload_n S.1 S.2.1 dX1_clearJournal_17 rfl (lv_at hl 1 rfl) ?_
        refine lv_iload_n S.1 S.2.1 dX1_clearJournal_18 rfl (lv_at hl 0 rfl) ?_
        refine lv_iconst (v := 0) S.1 S.2.1 dX1_clearJournal_19 (by decide) ?_
        refine kv_vI (As := [.int (nI j), .int 0]) (rest := []) hN S (kc_DI_put l N hN D cA h d w r τ g dv dk pk j 0  (by omega)) (kn_cV (C := RX1) S kn_126 kn_100 kn_101 kn_2 kn_102 rfl kd_X1_put rfl rfl ⟨Nat.le_of_ble_eq_true rfl, Nat.le_of_ble_eq_true rfl⟩) hB 1 rfl rfl rfl hl.1 rfl (Nat.le_of_ble_eq_true rfl) dX1_clearJournal_20 ⟨Nat.zero_le _, Nat.zero_le _⟩ (fun H locs hB => ?_)
        have hB : kv_B N D [(cA, .int)] A s (vo_W h d w r cA ((kp_run [(j, 0)] τ).2) g dv dk pk) H locs := hB
        refine lv_if_ne (tgt := 28) S.1 S.2.1 dX1_clearJournal_23 (by decide) (fun h_23 => ?_) (fun h_23 => ?_)
        · skip
          refine lv_iinc (k := 0) (v := nI (j + 1)) S.1 S.2.1 dX1_clearJournal_28 hl rfl (nI_1 j) (by decide) rfl (fun ls hl => ?_)
          have hl : lv_has ls 2 [(1, .int (nI (j + 1))), (0, .ref d)] := hl
          refine lv_goto (tgt := 3) S.1 S.2.1 dX1_clearJournal_31 (by decide) ?_
          exact ih3 (j + 1) ((kp_run [(j, 0)] τ).2) _ _ _ (by omega) (kp_stepf (F := fun f => kp_cl n (j + 1) f) h_23 hT1) (lv_sub hl [0, 1] rfl) hB
        · skip
          refine lv_iconst (v := 0) S.1 S.2.1 dX1_clearJournal_26 (by decide) ?_
          exact K _ _ _ _ _ _ hB (by rw [← kp_stop h_23 hT1]; exact h_23.symm) (by rw [kp_stop h_23 hT1]) dX1_clearJournal_27
  exact loop3 9 37 σ _ _ _ (rfl) (rfl) (lv_sub hl [0, 1] rfl) hB

abbrev kr_DI_finishJournal : Room := { frames := 2, cells := 0, slots := 0, locals := 43 }
set_option maxRecDepth 100000 in
set_option maxHeartbeats 4000000 in
theorem kc_DI_finishJournal (l : Launch) (N : State → Prop) (hN : kv_Mv N) (D : va_G) (cA : ClassId) (h d w r : Nat) (σ : kp_S) (g : Nat → Int32) (dv dk pk : Int32) (q : Nat) (n0 : Nat) (hJ : kp_J σ.1 q n0) : kv_I N l yX1_finishJournal wsX1_finishJournal kr_DI_finishJournal D [(cA, .int)] [.ref d] (vo_W h d w r cA σ g dv dk pk) ((kp_run (kp_fi n0 0 q σ.1) σ).1) (vo_W h d w r cA ((kp_run (kp_fi n0 0 q σ.1) σ).2) g dv dk pk) := by
  refine kv_openI (cc := cX1_finishJournal) (maxL := 4) (rt := .boolean) (by decide) rfl (kp_run_z _ _) (Nat.le_of_ble_eq_true rfl) ?_
  intro p e s m args below meth c A H locs ls Q S hl hB K
  have hl : lv_has ls 4 [(0, .ref d)] := hl
  have hJ0 := hJ.1
  have hJ1 := hJ.2.1
  have hJ2 := hJ.2.2
  refine lv_aload_n S.1 S.2.1 dX1_finishJournal_0 rfl (lv_at hl 0 rfl) ?_
  refine lv_bipush (v := 37) S.1 S.2.1 dX1_finishJournal_1 (by decide) ?_
  refine kv_vI (As := [.int 37]) (rest := []) hN S (kc_DI_wordAtN l N hN D cA h d w r σ g dv dk pk 37  (by omega)) (kn_cV (C := RX1) S kn_122 kn_115 kn_116 kn_2 kn_117 rfl kd_X1_wordAt rfl rfl ⟨Nat.le_of_ble_eq_true rfl, Nat.le_of_ble_eq_true rfl⟩) hB 1 rfl rfl rfl hl.1 rfl (Nat.le_of_ble_eq_true rfl) dX1_finishJournal_3 ⟨Nat.zero_le _, Nat.zero_le _⟩ (fun H locs hB => ?_)
  refine lv_sipush (v := 255) S.1 S.2.1 dX1_finishJournal_6 (by decide) ?_
  refine lv_iand S.1 S.2.1 dX1_finishJournal_9 ?_
  refine kv_top (y := nI q) (by rw [hJ0]; exact kp_J_and hJ1 hJ2) ?_
  refine lv_istore_n S.1 S.2.1 dX1_finishJournal_10 rfl hl (by decide) rfl (fun ls hl => ?_)
  have hl : lv_has ls 4 [(1, .int (nI q)), (0, .ref d)] := hl
  refine lv_aload_n S.1 S.2.1 dX1_finishJournal_11 rfl (lv_at hl 1 rfl) ?_
  refine lv_bipush (v := 37) S.1 S.2.1 dX1_finishJournal_12 (by decide) ?_
  refine kv_vI (As := [.int 37]) (rest := []) hN S (kc_DI_wordAtN l N hN D cA h d w r σ g dv dk pk 37  (by omega)) (kn_cV (C := RX1) S kn_122 kn_115 kn_116 kn_2 kn_117 rfl kd_X1_wordAt rfl rfl ⟨Nat.le_of_ble_eq_true rfl, Nat.le_of_ble_eq_true rfl⟩) hB 1 rfl rfl rfl hl.1 rfl (Nat.le_of_ble_eq_true rfl) dX1_finishJournal_14 ⟨Nat.zero_le _, Nat.zero_le _⟩ (fun H locs hB => ?_)
  refine lv_bipush (v := 8) S.1 S.2.1 dX1_finishJournal_17 (by decide) ?_
  refine lv_iushr (v := kv_us (σ.1 37) 8) S.1 S.2.1 dX1_finishJournal_19 rfl ?_
  refine kv_top (y := nI n0) (by rw [hJ0]; exact kp_J_shr hJ1 hJ2) ?_
  refine lv_istore_n S.1 S.2.1 dX1_finishJournal_20 rfl hl (by decide) rfl (fun ls hl => ?_)
  have hl : lv_has ls 4 [(2, .int (nI n0)), (1, .int (nI q)), (0, .ref d)] := hl
  refine lv_iconst (v := 0) S.1 S.2.1 dX1_finishJournal_21 (by decide) ?_
  refine lv_istore_n S.1 S.2.1 dX1_finishJournal_22 rfl hl (by decide) rfl (fun ls hl => ?_)
  have hl : lv_has ls 4 [(3, .int 0), (2, .int (nI n0)), (1, .int (nI q)), (0, .ref d)] := hl
  have loop23 : ∀ (n : Nat) (i : Nat) (τ : kp_S) (H : Heap) (locs : List Loc) (ls : Array Slot), (i + n = n0) → (kp_run (kp_fi n i q τ.1) τ = kp_run (kp_fi n0 0 q σ.1) σ) → lv_has ls 4 [(3, .int (nI i)), (2, .int (nI n0)), (1, .int (nI q)), (0, .ref d)] → kv_B N D [(cA, .int)] A s (vo_W h d w r cA τ g dv dk pk) H locs → W p l e kr_DI_finishJournal s m args below meth c H locs 0 0 Q (F0 m 23 ls []) := by
    intro n
    induction n with
    | zero =>
      intro i τ H locs ls hi hT hl hB
      have hT0 : kp_run ((36, 0) :: kp_cl 9 37 (upd τ.1 36 0)) τ = kp_run (kp_fi n0 0 q σ.1) σ := hT
      refine lv_iload_n S.1 S.2.1 dX1_finishJournal_23 rfl (lv_at hl 0 rfl) ?_
      refine lv_iload_n S.1 S.2.1 dX1_finishJournal_24 rfl (lv_at hl 1 rfl) ?_
      refine kv_bge (x := i) (y := n0) (tgt := 60) S (by omega) (by omega) dX1_finishJournal_25 (by decide) (fun h_25 => ?_) (fun h => absurd h (by omega))
      refine lv_aload_n S.1 S.2.1 dX1_finishJournal_60 rfl (lv_at hl 3 rfl) ?_
      refine lv_bipush (v := 36) S.1 S.2.1 dX1_finishJournal_61 (by decide) ?_
      refine lv_iconst (v := 0) S.1 S.2.1 dX1_finishJournal_63 (by decide) ?_
      refine kv_vI (As := [.int 36, .int 0]) (rest := []) hN S (kc_DI_put l N hN D cA h d w r τ g dv dk pk 36 0  (by omega)) (kn_cV (C := RX1) S kn_126 kn_100 kn_101 kn_2 kn_102 rfl kd_X1_put rfl rfl ⟨Nat.le_of_ble_eq_true rfl, Nat.le_of_ble_eq_true rfl⟩) hB 1 rfl rfl rfl hl.1 rfl (Nat.le_of_ble_eq_true rfl) dX1_finishJournal_64 ⟨Nat.zero_le _, Nat.zero_le _⟩ (fun H locs hB => ?_)
      have hB : kv_B N D [(cA, .int)] A s (vo_W h d w r cA ((kp_run [(36, 0)] τ).2) g dv dk pk) H locs := hB
      refine lv_if_eq (tgt := 81) S.1 S.2.1 dX1_finishJournal_67 (by decide) (fun h_67 => ?_) (fun h_67 => ?_)
      · skip
        refine lv_iconst (v := 0) S.1 S.2.1 dX1_finishJournal_81 (by decide) ?_
        exact K _ _ _ _ _ _ hB (by first | (rw [← hT2]; exact h_74.symm) | (rw [← hT2]; exact (kp_run_nz h_74).symm) | (rw [← kp_stop h_67 hT0]; exact h_67.symm)) (by first | rw [hT2] | rw [kp_stop h_67 hT0]) dX1_finishJournal_82
      · skip
        have hT2 := kp_stepf (F := fun f => kp_cl 9 37 f) h_67 hT0
        refine lv_aload_n S.1 S.2.1 dX1_finishJournal_70 rfl (lv_at hl 3 rfl) ?_
        refine kv_vI (As := []) (rest := []) hN S (kc_DI_clearJournal l N hN D cA h d w r ((kp_run [(36, 0)] τ).2) g dv dk pk   ) (kn_cV (C := RX1) S kn_127 kn_128 kn_397 kn_2 kn_129 rfl kd_X1_clearJournal rfl rfl ⟨Nat.le_of_ble_eq_true rfl, Nat.le_of_ble_eq_true rfl⟩) hB 1 rfl rfl rfl hl.1 rfl (Nat.le_of_ble_eq_true rfl) dX1_finishJournal_71 ⟨Nat.zero_le _, Nat.zero_le _⟩ (fun H locs hB => ?_)
        have hB : kv_B N D [(cA, .int)] A s (vo_W h d w r cA ((kp_run (kp_cl 9 37 ((kp_run [(36, 0)] τ).2).1) ((kp_run [(36, 0)] τ).2)).2) g dv dk pk) H locs := hB
        refine lv_if_eq (tgt := 81) S.1 S.2.1 dX1_finishJournal_74 (by decide) (fun h_74 => ?_) (fun h_74 => ?_)
        · skip
          refine lv_iconst (v := 0) S.1 S.2.1 dX1_finishJournal_81 (by decide) ?_
          exact K _ _ _ _ _ _ hB (by first | (rw [← hT2]; exact h_74.symm) | (rw [← hT2]; exact (kp_run_nz h_74).symm) | (rw [← kp_stop h_67 hT0]; exact h_67.symm)) (by first | rw [hT2] | rw [kp_stop h_67 hT0]) dX1_finishJournal_82
        · skip
          refine lv_iconst (v := 1) S.1 S.2.1 dX1_finishJournal_77 (by decide) ?_
          refine lv_goto (tgt := 82) S.1 S.2.1 dX1_finishJournal_78 (by decide) ?_
          exact K _ _ _ _ _ _ hB (by first | (rw [← hT2]; exact h_74.symm) | (rw [← hT2]; exact (kp_run_nz h_74).symm) | (rw [← kp_stop h_67 hT0]; exact h_67.symm)) (by first | rw [hT2] | rw [kp_stop h_67 hT0]) dX1_finishJournal_82
    | succ n ih23 =>
      intro i τ H locs ls hi hT hl hB
      have hT0 : kp_run ((q + i, τ.1 (38 + i)) :: kp_fi n (i + 1) q (upd τ.1 (q + i) (τ.1 (38 + i)))) τ = kp_run (kp_fi n0 0 q σ.1) σ := hT
      refine lv_iload_n S.1 S.2.1 dX1_finishJournal_23 rfl (lv_at hl 0 rfl) ?_
      refine lv_iload_n S.1 S.2.1 dX1_finishJournal_24 rfl (lv_at hl 1 rfl) ?_
      refine kv_bge (x := i) (y := n0) (tgt := 60) S (by omega) (by omega) dX1_finishJournal_25 (by decide) (fun h => absurd h (by omega)) (fun h_25 => ?_)
      refine lv_iload_n S.1 S.2.1 dX1_finishJournal_28 rfl (lv_at hl 0 rfl) ?_
      refine lv_bipush (v := 8) S.1 S.2.1 dX1_finishJournal_29 (by decide) ?_
      refine kv_bge (x := i) (y := 8) (tgt := 60) S (by omega) (by omega) dX1_finishJournal_31 (by decide) (fun h => absurd h (by omega)) (fun h_31 => ?_)
      refine lv_aload_n S.1 S.2.1 dX1_finishJournal_34 rfl (lv_at hl 3 rfl) ?_
      refine lv_iload_n S.1 S.2.1 dX1_finishJournal_35 rfl (lv_at hl 2 rfl) ?_
      refine lv_iload_n S.1 S.2.1 dX1_finishJournal_36 rfl (lv_at hl 0 rfl) ?_
      refine lv_iadd S.1 S.2.1 dX1_finishJournal_37 ?_
      refine kv_top (y := nI (q + i)) (nI_add q i) ?_
      refine lv_aload_n S.1 S.2.1 dX1_finishJournal_38 rfl (lv_at hl 3 rfl) ?_
      refine lv_bipush (v := 38) S.1 S.2.1 dX1_finishJournal_39 (by decide) ?_
      refine lv_iload_n S.1 S.2.1 dX1_finishJournal_41 rfl (lv_at hl 0 rfl) ?_
      refine lv_iadd S.1 S.2.1 dX1_finishJournal_42 ?_
      refine kv_top (y := nI (38 + i)) (nI_add 38 i) ?_
      refine kv_vI (As := [.int (nI (38 + i))]) (rest := [.int (nI (q + i)), .ref d]) hN S (kc_DI_wordAtN l N hN D cA h d w r τ g dv dk pk (38 + i)  (by omega)) (kn_cV (C := RX1) S kn_122 kn_115 kn_116 kn_2 kn_117 rfl kd_X1_wordAt rfl rfl ⟨Nat.le_of_ble_eq_true rfl, Nat.le_of_ble_eq_true rfl⟩) hB 1 rfl rfl rfl hl.1 rfl (Nat.le_of_ble_eq_true rfl) dX1_finishJournal_43 ⟨Nat.zero_le _, Nat.zero_le _⟩ (fun H locs hB => ?_)
      refine kv_vI (As := [.int (nI (q + i)), .int (τ.1 (38 + i))]) (rest := []) hN S (kc_DI_put l N hN D cA h d w r τ g dv dk pk (q + i) (τ.1 (38 + i))  (by omega)) (kn_cV (C := RX1) S kn_126 kn_100 kn_101 kn_2 kn_102 rfl kd_X1_put rfl rfl ⟨Nat.le_of_ble_eq_true rfl, Nat.le_of_ble_eq_true rfl⟩) hB 1 rfl rfl rfl hl.1 rfl (Nat.le_of_ble_eq_true rfl) dX1_finishJournal_46 ⟨Nat.zero_le _, Nat.zero_le _⟩ (fun H locs hB => ?_)
      have hB : kv_B N D [(cA, .int)] A s (vo_W h d w r cA ((kp_run [(q + i, τ.1 (38 + i))] τ).2) g dv dk pk) H locs := hB
      refine lv_if_ne (tgt := 54) S.1 S.2.1 dX1_finishJournal_49 (by decide) (fun h_49 => ?_) (fun h_49 => ?_)
      · skip
        refine lv_iinc (k := 0) (v := nI (i + 1)) S.1 S.2.1 dX1_finishJournal_54 hl rfl (nI_1 i) (by decide) rfl (fun ls hl => ?_)
        have hl : lv_has ls 4 [(3, .int (nI (i + 1))), (2, .int (nI n0)), (1, .int (nI q)), (0, .ref d)] := hl
        refine lv_goto (tgt := 23) S.1 S.2.1 dX1_finishJournal_57 (by decide) ?_
        exact ih23 (i + 1) ((kp_run [(q + i, τ.1 (38 + i))] τ).2) _ _ _ (by omega) (kp_stepf (F := fun f => kp_fi n (i + 1) q f) h_49 hT0) (lv_sub hl [0, 1, 2, 3] rfl) hB
      · skip
        refine lv_iconst (v := 0) S.1 S.2.1 dX1_finishJournal_52 (by decide) ?_
        exact K _ _ _ _ _ _ hB (by rw [← kp_stop h_49 hT0]; exact h_49.symm) (by rw [kp_stop h_49 hT0]) dX1_finishJournal_53
  exact loop23 n0 0 σ _ _ _ (by omega) (rfl) (lv_sub hl [0, 1, 2, 3] rfl) hB

abbrev kr_DI_settleJournal : Room := { frames := 3, cells := 0, slots := 0, locals := 66 }
set_option maxRecDepth 100000 in
set_option maxHeartbeats 4000000 in
theorem kc_DI_settleJournal (l : Launch) (N : State → Prop) (hN : kv_Mv N) (D : va_G) (cA : ClassId) (h d w r : Nat) (σ : kp_S) (g : Nat → Int32) (dv dk pk : Int32) (q : Nat) (n0 : Nat) (hJ : σ.1 36 = 1 → kp_J σ.1 q n0) : kv_I N l yX1_settleJournal wsX1_settleJournal kr_DI_settleJournal D [(cA, .int)] [.ref d] (vo_W h d w r cA σ g dv dk pk) ((kp_run (kp_se q n0 σ.1) σ).1) (vo_W h d w r cA ((kp_run (kp_se q n0 σ.1) σ).2) g dv dk pk) := by
  refine kv_openI (cc := cX1_settleJournal) (maxL := 1) (rt := .boolean) (by decide) rfl (kp_run_z _ _) (Nat.le_of_ble_eq_true rfl) ?_
  intro p e s m args below meth c A H locs ls Q S hl hB K
  have hl : lv_has ls 1 [(0, .ref d)] := hl
  refine lv_aload_n S.1 S.2.1 dX1_settleJournal_0 rfl (lv_at hl 0 rfl) ?_
  refine lv_bipush (v := 36) S.1 S.2.1 dX1_settleJournal_1 (by decide) ?_
  refine kv_vI (As := [.int 36]) (rest := []) hN S (kc_DI_wordAtN l N hN D cA h d w r σ g dv dk pk 36  (by omega)) (kn_cV (C := RX1) S kn_122 kn_115 kn_116 kn_2 kn_117 rfl kd_X1_wordAt rfl rfl ⟨Nat.le_of_ble_eq_true rfl, Nat.le_of_ble_eq_true rfl⟩) hB 1 rfl rfl rfl hl.1 rfl (Nat.le_of_ble_eq_true rfl) dX1_settleJournal_3 ⟨Nat.zero_le _, Nat.zero_le _⟩ (fun H locs hB => ?_)
  refine lv_iconst (v := 1) S.1 S.2.1 dX1_settleJournal_6 (by decide) ?_
  refine lv_icmp_ne (tgt := 17) S.1 S.2.1 dX1_settleJournal_7 (by decide) (fun h_7 => ?_) (fun h_7 => ?_)
  · skip
    refine lv_aload_n S.1 S.2.1 dX1_settleJournal_17 rfl (lv_at hl 0 rfl) ?_
    refine kv_vI (As := []) (rest := []) hN S (kc_DI_clearJournal l N hN D cA h d w r σ g dv dk pk   ) (kn_cV (C := RX1) S kn_127 kn_128 kn_397 kn_2 kn_129 rfl kd_X1_clearJournal rfl rfl ⟨Nat.le_of_ble_eq_true rfl, Nat.le_of_ble_eq_true rfl⟩) hB 1 rfl rfl rfl hl.1 rfl (Nat.le_of_ble_eq_true rfl) dX1_settleJournal_18 ⟨Nat.zero_le _, Nat.zero_le _⟩ (fun H locs hB => ?_)
    have hB : kv_B N D [(cA, .int)] A s (vo_W h d w r cA ((kp_run (kp_cl 9 37 σ.1) σ).2) g dv dk pk) H locs := hB
    exact K _ _ _ _ _ _ hB (by first | rw [kp_se, if_pos h_7] | rw [kp_se, if_neg h_7]) (by first | rw [kp_se, if_pos h_7] | rw [kp_se, if_neg h_7]) dX1_settleJournal_21
  · skip
    refine lv_aload_n S.1 S.2.1 dX1_settleJournal_10 rfl (lv_at hl 0 rfl) ?_
    refine kv_vI (As := []) (rest := []) hN S (kc_DI_finishJournal l N hN D cA h d w r σ g dv dk pk  q n0 (hJ h_7)) (kn_cV (C := RX1) S kn_123 kn_124 kn_396 kn_2 kn_125 rfl kd_X1_finishJournal rfl rfl ⟨Nat.le_of_ble_eq_true rfl, Nat.le_of_ble_eq_true rfl⟩) hB 1 rfl rfl rfl hl.1 rfl (Nat.le_of_ble_eq_true rfl) dX1_settleJournal_11 ⟨Nat.zero_le _, Nat.zero_le _⟩ (fun H locs hB => ?_)
    have hB : kv_B N D [(cA, .int)] A s (vo_W h d w r cA ((kp_run (kp_fi n0 0 q σ.1) σ).2) g dv dk pk) H locs := hB
    refine lv_goto (tgt := 21) S.1 S.2.1 dX1_settleJournal_14 (by decide) ?_
    exact K _ _ _ _ _ _ hB (by first | rw [kp_se, if_pos h_7] | rw [kp_se, if_neg h_7]) (by first | rw [kp_se, if_pos h_7] | rw [kp_se, if_neg h_7]) dX1_settleJournal_21

abbrev kr_DI_replaceByJournal : Room := { frames := 3, cells := 0, slots := 0, locals := 66 }
set_option maxRecDepth 100000 in
set_option maxHeartbeats 4000000 in
theorem kc_DI_replaceByJournal (l : Launch) (N : State → Prop) (hN : kv_Mv N) (D : va_G) (cA : ClassId) (h d w r : Nat) (σ : kp_S) (g : Nat → Int32) (dv dk pk : Int32) (q : Nat) (n0 : Nat) (hq : q + n0 ≤ 80) (hn : n0 ≤ 8) : kv_I N l yX1_replaceByJournal wsX1_replaceByJournal kr_DI_replaceByJournal D [(cA, .int)] [.ref d, .int (nI q), .int (nI n0), .ref r] (vo_W h d w r cA σ g dv dk pk) ((kp_run (kp_ch n0 0 n0 q g σ.1) σ).1) (vo_W h d w r cA ((kp_run (kp_ch n0 0 n0 q g σ.1) σ).2) g dv dk pk) := by
  refine kv_openI (cc := cX1_replaceByJournal) (maxL := 5) (rt := .boolean) (by decide) rfl (kp_run_z _ _) (Nat.le_of_ble_eq_true rfl) ?_
  intro p e s m args below meth c A H locs ls Q S hl hB K
  have hl : lv_has ls 5 [(0, .ref d), (1, .int (nI q)), (2, .int (nI n0)), (3, .ref r)] := hl
  refine lv_iconst (v := 0) S.1 S.2.1 dX1_replaceByJournal_0 (by decide) ?_
  refine lv_istore S.1 S.2.1 dX1_replaceByJournal_1 hl (by decide) rfl (fun ls hl => ?_)
  have hl : lv_has ls 5 [(4, .int 0), (0, .ref d), (1, .int (nI q)), (2, .int (nI n0)), (3, .ref r)] := hl
  have loop3 : ∀ (n : Nat) (i : Nat) (τ : kp_S) (H : Heap) (locs : List Loc) (ls : Array Slot), (i + n = n0) → (kp_run (kp_ch n i n0 q g τ.1) τ = kp_run (kp_ch n0 0 n0 q g σ.1) σ) → lv_has ls 5 [(4, .int (nI i)), (0, .ref d), (1, .int (nI q)), (2, .int (nI n0)), (3, .ref r)] → kv_B N D [(cA, .int)] A s (vo_W h d w r cA τ g dv dk pk) H locs → W p l e kr_DI_replaceByJournal s m args below meth c H locs 0 0 Q (F0 m 3 ls []) := by
    intro n
    induction n with
    | zero =>
      intro i τ H locs ls hi hT hl hB
      have hT0 : kp_run ((37, nI (q + 256 * n0)) :: (36, 1) :: kp_fi n0 0 q (upd (upd τ.1 37 (nI (q + 256 * n0))) 36 1)) τ = kp_run (kp_ch n0 0 n0 q g σ.1) σ := hT
      refine lv_iload S.1 S.2.1 dX1_replaceByJournal_3 (lv_at hl 0 rfl) ?_
      refine lv_iload_n S.1 S.2.1 dX1_replaceByJournal_5 rfl (lv_at hl 3 rfl) ?_
      refine kv_bge (x := i) (y := n0) (tgt := 40) S (by omega) (by omega) dX1_replaceByJournal_6 (by decide) (fun h_6 => ?_) (fun h => absurd h (by omega))
      refine lv_aload_n S.1 S.2.1 dX1_replaceByJournal_40 rfl (lv_at hl 1 rfl) ?_
      refine lv_bipush (v := 37) S.1 S.2.1 dX1_replaceByJournal_41 (by decide) ?_
      refine lv_iload_n S.1 S.2.1 dX1_replaceByJournal_43 rfl (lv_at hl 2 rfl) ?_
      refine lv_sipush (v := 256) S.1 S.2.1 dX1_replaceByJournal_44 (by decide) ?_
      refine lv_iload_n S.1 S.2.1 dX1_replaceByJournal_47 rfl (lv_at hl 3 rfl) ?_
      refine lv_imul S.1 S.2.1 dX1_replaceByJournal_48 ?_
      refine kv_top (y := nI (256 * n0)) (pk_mul 256 n0) ?_
      refine lv_iadd S.1 S.2.1 dX1_replaceByJournal_49 ?_
      refine kv_top (y := nI (q + (256 * n0))) (nI_add q (256 * n0)) ?_
      refine kv_vI (As := [.int 37, .int (nI (q + (256 * n0)))]) (rest := []) hN S (kc_DI_put l N hN D cA h d w r τ g dv dk pk 37 (nI (q + (256 * n0)))  (by omega)) (kn_cV (C := RX1) S kn_126 kn_100 kn_101 kn_2 kn_102 rfl kd_X1_put rfl rfl ⟨Nat.le_of_ble_eq_true rfl, Nat.le_of_ble_eq_true rfl⟩) hB 1 rfl rfl rfl hl.1 rfl (Nat.le_of_ble_eq_true rfl) dX1_replaceByJournal_50 ⟨Nat.zero_le _, Nat.zero_le _⟩ (fun H locs hB => ?_)
      have hB : kv_B N D [(cA, .int)] A s (vo_W h d w r cA ((kp_run [(37, nI (q + (256 * n0)))] τ).2) g dv dk pk) H locs := hB
      refine lv_if_eq (tgt := 77) S.1 S.2.1 dX1_replaceByJournal_53 (by decide) (fun h_53 => ?_) (fun h_53 => ?_)
      · skip
        refine lv_iconst (v := 0) S.1 S.2.1 dX1_replaceByJournal_77 (by decide) ?_
        exact K _ _ _ _ _ _ hB (by first | (rw [← hT3]; exact h_70.symm) | (rw [← hT3]; exact (kp_run_nz h_70).symm) | (rw [← kp_stop h_63 hT2]; exact h_63.symm) | (rw [← kp_stop h_53 hT0]; exact h_53.symm)) (by first | rw [hT3] | rw [kp_stop h_63 hT2] | rw [kp_stop h_53 hT0]) dX1_replaceByJournal_78
      · skip
        have hT2 := kp_stepf (F := fun f => (36, 1) :: kp_fi n0 0 q (upd f 36 1)) h_53 hT0
        refine lv_aload_n S.1 S.2.1 dX1_replaceByJournal_56 rfl (lv_at hl 1 rfl) ?_
        refine lv_bipush (v := 36) S.1 S.2.1 dX1_replaceByJournal_57 (by decide) ?_
        refine lv_iconst (v := 1) S.1 S.2.1 dX1_replaceByJournal_59 (by decide) ?_
        refine kv_vI (As := [.int 36, .int 1]) (rest := []) hN S (kc_DI_put l N hN D cA h d w r ((kp_run [(37, nI (q + (256 * n0)))] τ).2) g dv dk pk 36 1  (by omega)) (kn_cV (C := RX1) S kn_126 kn_100 kn_101 kn_2 kn_102 rfl kd_X1_put rfl rfl ⟨Nat.le_of_ble_eq_true rfl, Nat.le_of_ble_eq_true rfl⟩) hB 1 rfl rfl rfl hl.1 rfl (Nat.le_of_ble_eq_true rfl) dX1_replaceByJournal_60 ⟨Nat.zero_le _, Nat.zero_le _⟩ (fun H locs hB => ?_)
        have hB : kv_B N D [(cA, .int)] A s (vo_W h d w r cA ((kp_run [(36, 1)] ((kp_run [(37, nI (q + (256 * n0)))] τ).2)).2) g dv dk pk) H locs := hB
        refine lv_if_eq (tgt := 77) S.1 S.2.1 dX1_replaceByJournal_63 (by decide) (fun h_63 => ?_) (fun h_63 => ?_)
        · skip
          refine lv_iconst (v := 0) S.1 S.2.1 dX1_replaceByJournal_77 (by decide) ?_
          exact K _ _ _ _ _ _ hB (by first | (rw [← hT3]; exact h_70.symm) | (rw [← hT3]; exact (kp_run_nz h_70).symm) | (rw [← kp_stop h_63 hT2]; exact h_63.symm) | (rw [← kp_stop h_53 hT0]; exact h_53.symm)) (by first | rw [hT3] | rw [kp_stop h_63 hT2] | rw [kp_stop h_53 hT0]) dX1_replaceByJournal_78
        · skip
          have hT3 := kp_stepf (F := fun f => kp_fi n0 0 q f) h_63 hT2
          refine lv_aload_n S.1 S.2.1 dX1_replaceByJournal_66 rfl (lv_at hl 1 rfl) ?_
          refine kv_vI (As := []) (rest := []) hN S (kc_DI_finishJournal l N hN D cA h d w r ((kp_run [(36, 1)] ((kp_run [(37, nI (q + (256 * n0)))] τ).2)).2) g dv dk pk  q n0 (⟨by rw [kp_run_1 _ _ h_63, kp_run_1 _ _ h_53]; rfl, hq, hn⟩)) (kn_cV (C := RX1) S kn_123 kn_124 kn_396 kn_2 kn_125 rfl kd_X1_finishJournal rfl rfl ⟨Nat.le_of_ble_eq_true rfl, Nat.le_of_ble_eq_true rfl⟩) hB 1 rfl rfl rfl hl.1 rfl (Nat.le_of_ble_eq_true rfl) dX1_replaceByJournal_67 ⟨Nat.zero_le _, Nat.zero_le _⟩ (fun H locs hB => ?_)
          have hB : kv_B N D [(cA, .int)] A s (vo_W h d w r cA ((kp_run (kp_fi n0 0 q ((kp_run [(36, 1)] ((kp_run [(37, nI (q + (256 * n0)))] τ).2)).2).1) ((kp_run [(36, 1)] ((kp_run [(37, nI (q + (256 * n0)))] τ).2)).2)).2) g dv dk pk) H locs := hB
          refine lv_if_eq (tgt := 77) S.1 S.2.1 dX1_replaceByJournal_70 (by decide) (fun h_70 => ?_) (fun h_70 => ?_)
          · skip
            refine lv_iconst (v := 0) S.1 S.2.1 dX1_replaceByJournal_77 (by decide) ?_
            exact K _ _ _ _ _ _ hB (by first | (rw [← hT3]; exact h_70.symm) | (rw [← hT3]; exact (kp_run_nz h_70).symm) | (rw [← kp_stop h_63 hT2]; exact h_63.symm) | (rw [← kp_stop h_53 hT0]; exact h_53.symm)) (by first | rw [hT3] | rw [kp_stop h_63 hT2] | rw [kp_stop h_53 hT0]) dX1_replaceByJournal_78
          · skip
            refine lv_iconst (v := 1) S.1 S.2.1 dX1_replaceByJournal_73 (by decide) ?_
            refine lv_goto (tgt := 78) S.1 S.2.1 dX1_replaceByJournal_74 (by decide) ?_
            exact K _ _ _ _ _ _ hB (by first | (rw [← hT3]; exact h_70.symm) | (rw [← hT3]; exact (kp_run_nz h_70).symm) | (rw [← kp_stop h_63 hT2]; exact h_63.symm) | (rw [← kp_stop h_53 hT0]; exact h_53.symm)) (by first | rw [hT3] | rw [kp_stop h_63 hT2] | rw [kp_stop h_53 hT0]) dX1_replaceByJournal_78
    | succ n ih3 =>
      intro i τ H locs ls hi hT hl hB
      have hT0 : kp_run ((38 + i, g i) :: kp_ch n (i + 1) n0 q g (upd τ.1 (38 + i) (g i))) τ = kp_run (kp_ch n0 0 n0 q g σ.1) σ := hT
      refine lv_iload S.1 S.2.1 dX1_replaceByJournal_3 (lv_at hl 0 rfl) ?_
      refine lv_iload_n S.1 S.2.1 dX1_replaceByJournal_5 rfl (lv_at hl 3 rfl) ?_
      refine kv_bge (x := i) (y := n0) (tgt := 40) S (by omega) (by omega) dX1_replaceByJournal_6 (by decide) (fun h => absurd h (by omega)) (fun h_6 => ?_)
      refine lv_iload S.1 S.2.1 dX1_replaceByJournal_9 (lv_at hl 0 rfl) ?_
      refine lv_aload_n S.1 S.2.1 dX1_replaceByJournal_11 rfl (lv_at hl 4 rfl) ?_
      refine kv_alen S hB 3 0 rfl rfl dX1_replaceByJournal_12 ?_
      refine kv_bge (x := i) (y := 80) (tgt := 40) S (by omega) (by omega) dX1_replaceByJournal_13 (by decide) (fun h => absurd h (by omega)) (fun h_13 => ?_)
      refine lv_aload_n S.1 S.2.1 dX1_replaceByJournal_16 rfl (lv_at hl 1 rfl) ?_
      refine lv_bipush (v := 38) S.1 S.2.1 dX1_replaceByJournal_17 (by decide) ?_
      refine lv_iload S.1 S.2.1 dX1_replaceByJournal_19 (lv_at hl 0 rfl) ?_
      refine lv_iadd S.1 S.2.1 dX1_replaceByJournal_21 ?_
      refine kv_top (y := nI (38 + i)) (nI_add 38 i) ?_
      refine lv_aload_n S.1 S.2.1 dX1_replaceByJournal_22 rfl (lv_at hl 4 rfl) ?_
      refine lv_iload S.1 S.2.1 dX1_replaceByJournal_23 (lv_at hl 0 rfl) ?_
      refine kv_iald S hB 3 0 rfl rfl i rfl (by omega) (by decide) dX1_replaceByJournal_25 ?_
      refine kv_vI (As := [.int (nI (38 + i)), .int (g i)]) (rest := []) hN S (kc_DI_put l N hN D cA h d w r τ g dv dk pk (38 + i) (g i)  (by omega)) (kn_cV (C := RX1) S kn_126 kn_100 kn_101 kn_2 kn_102 rfl kd_X1_put rfl rfl ⟨Nat.le_of_ble_eq_true rfl, Nat.le_of_ble_eq_true rfl⟩) hB 1 rfl rfl rfl hl.1 rfl (Nat.le_of_ble_eq_true rfl) dX1_replaceByJournal_26 ⟨Nat.zero_le _, Nat.zero_le _⟩ (fun H locs hB => ?_)
      have hB : kv_B N D [(cA, .int)] A s (vo_W h d w r cA ((kp_run [(38 + i, g i)] τ).2) g dv dk pk) H locs := hB
      refine lv_if_ne (tgt := 34) S.1 S.2.1 dX1_replaceByJournal_29 (by decide) (fun h_29 => ?_) (fun h_29 => ?_)
      · skip
        refine lv_iinc (k := 0) (v := nI (i + 1)) S.1 S.2.1 dX1_replaceByJournal_34 hl rfl (nI_1 i) (by decide) rfl (fun ls hl => ?_)
        have hl : lv_has ls 5 [(4, .int (nI (i + 1))), (0, .ref d), (1, .int (nI q)), (2, .int (nI n0)), (3, .ref r)] := hl
        refine lv_goto (tgt := 3) S.1 S.2.1 dX1_replaceByJournal_37 (by decide) ?_
        exact ih3 (i + 1) ((kp_run [(38 + i, g i)] τ).2) _ _ _ (by omega) (kp_stepf (F := fun f => kp_ch n (i + 1) n0 q g f) h_29 hT0) (lv_sub hl [0, 1, 2, 3, 4] rfl) hB
      · skip
        refine lv_iconst (v := 0) S.1 S.2.1 dX1_replaceByJournal_32 (by decide) ?_
        exact K _ _ _ _ _ _ hB (by rw [← kp_stop h_29 hT0]; exact h_29.symm) (by rw [kp_stop h_29 hT0]) dX1_replaceByJournal_33
  exact loop3 n0 0 σ _ _ _ (by omega) (rfl) (lv_sub hl [0, 1, 2, 3, 4] rfl) hB
end
section
abbrev kr_SL_mask : Room := { frames := 1, cells := 0, slots := 0, locals := 22 }
set_option maxRecDepth 100000 in
set_option maxHeartbeats 4000000 in
theorem kc_SL_mask (l : Launch) (D : va_G) (a : Int32) (b : Int32) (z : Int32) : kv_I (fun _ => True) l yX2_mask wsX2_mask kr_SL_mask D [] [.int a, .int b, .int z] [] (kp_M a b z) [] := by
  refine kv_openI (cc := cX2_mask) (maxL := 3) (rt := .int) (by decide) rfl (rfl) (Nat.le_of_ble_eq_true rfl) ?_
  intro p e s m args below meth c A H locs ls Q S hl hB K
  have hl : lv_has ls 3 [(0, .int a), (1, .int b), (2, .int z)] := hl
  refine lv_iload_n S.1 S.2.1 dX2_mask_0 rfl (lv_at hl 0 rfl) ?_
  refine lv_iload_n S.1 S.2.1 dX2_mask_1 rfl (lv_at hl 2 rfl) ?_
  refine lv_iconst (v := 1) S.1 S.2.1 dX2_mask_2 (by decide) ?_
  refine lv_iadd S.1 S.2.1 dX2_mask_3 ?_
  refine kv_sP (As := [.int a, .int (z + 1)]) (rest := []) S (kc_CI_mix l D a (z + 1)  ) (kn_cS S kn_69 kn_54 kn_5 kn_55 kd_X0_mix rfl rfl ⟨Nat.le_of_ble_eq_true rfl, Nat.le_of_ble_eq_true rfl⟩) hB rfl hl.1 rfl (Nat.le_of_ble_eq_true rfl) dX2_mask_4 ⟨Nat.zero_le _, Nat.zero_le _⟩ (fun H locs hB => ?_)
  refine lv_iload_n S.1 S.2.1 dX2_mask_7 rfl (lv_at hl 1 rfl) ?_
  refine lv_ixor S.1 S.2.1 dX2_mask_8 ?_
  refine lv_iload_n S.1 S.2.1 dX2_mask_9 rfl (lv_at hl 2 rfl) ?_
  refine lv_iconst (v := 1) S.1 S.2.1 dX2_mask_10 (by decide) ?_
  refine lv_iadd S.1 S.2.1 dX2_mask_11 ?_
  refine kv_sP (As := [.int ((kp_H a (z + 1)) ^^^ b), .int (z + 1)]) (rest := []) S (kc_CI_mix l D ((kp_H a (z + 1)) ^^^ b) (z + 1)  ) (kn_cS S kn_69 kn_54 kn_5 kn_55 kd_X0_mix rfl rfl ⟨Nat.le_of_ble_eq_true rfl, Nat.le_of_ble_eq_true rfl⟩) hB rfl hl.1 rfl (Nat.le_of_ble_eq_true rfl) dX2_mask_12 ⟨Nat.zero_le _, Nat.zero_le _⟩ (fun H locs hB => ?_)
  exact K _ _ _ _ _ _ hB (rfl) (rfl) dX2_mask_15

abbrev kr_SL_workOutHalf : Room := { frames := 3, cells := 0, slots := 0, locals := 69 }
set_option maxRecDepth 100000 in
set_option maxHeartbeats 4000000 in
theorem kc_SL_workOutHalf (l : Launch) (N : State → Prop) (hN : kv_Mv N) (D : va_G) (cA : ClassId) (h d w r : Nat) (σ : kp_S) (g : Nat → Int32) (dv dk pk : Int32) (q : Nat) (hf : Nat) (x : Int32) (pw : Int32) (sd : Int32) (hq : q + 8 ≤ 80) (hh : hf < 2) : kv_V N l yX2_workOutHalf wsX2_workOutHalf kr_SL_workOutHalf D [(cA, .int)] [.ref r, .int (nI q), .int (nI hf), .int x, .int pw, .int sd] (vo_W h d w r cA σ g dv dk pk)  (vo_W h d w r cA σ (kp_wh g q hf x pw sd) dv dk pk) := by
  refine kv_openV (cc := cX2_workOutHalf) (maxL := 11) (by decide) rfl (Nat.le_of_ble_eq_true rfl) ?_
  intro p e s m args below meth c A H locs ls Q S hl hB K
  have hl : lv_has ls 11 [(0, .ref r), (1, .int (nI q)), (2, .int (nI hf)), (3, .int x), (4, .int pw), (5, .int sd)] := hl
  refine lv_iload S.1 S.2.1 dX2_workOutHalf_0 (lv_at hl 4 rfl) ?_
  refine lv_aload_n S.1 S.2.1 dX2_workOutHalf_2 rfl (lv_at hl 0 rfl) ?_
  refine lv_iload_n S.1 S.2.1 dX2_workOutHalf_3 rfl (lv_at hl 1 rfl) ?_
  refine lv_iconst (v := 1) S.1 S.2.1 dX2_workOutHalf_4 (by decide) ?_
  refine lv_iadd S.1 S.2.1 dX2_workOutHalf_5 ?_
  refine kv_top (y := nI (q + 1)) (nI_add q 1) ?_
  refine kv_iald S hB 3 0 rfl rfl (q + 1) rfl (by omega) (by decide) dX2_workOutHalf_6 ?_
  refine lv_iload_n S.1 S.2.1 dX2_workOutHalf_7 rfl (lv_at hl 2 rfl) ?_
  refine kv_sP (As := [.int pw, .int (g (q + 1)), .int (nI hf)]) (rest := []) S (kc_CI_slotKey l D pw (g (q + 1)) (nI hf)  ) (kn_cS S kn_73 kn_74 kn_5 kn_75 kd_X0_slotKey rfl rfl ⟨Nat.le_of_ble_eq_true rfl, Nat.le_of_ble_eq_true rfl⟩) hB rfl hl.1 rfl (Nat.le_of_ble_eq_true rfl) dX2_workOutHalf_8 ⟨Nat.zero_le _, Nat.zero_le _⟩ (fun H locs hB => ?_)
  refine lv_topi (fun x_1 ex_1 => ?_)
  refine lv_istore S.1 S.2.1 dX2_workOutHalf_11 hl (by decide) rfl (fun ls hl => ?_)
  have hl : lv_has ls 11 [(6, .int x_1), (0, .ref r), (1, .int (nI q)), (2, .int (nI hf)), (3, .int x), (4, .int pw), (5, .int sd)] := hl
  refine lv_iload S.1 S.2.1 dX2_workOutHalf_13 (lv_at hl 6 rfl) ?_
  refine lv_iload_n S.1 S.2.1 dX2_workOutHalf_15 rfl (lv_at hl 3 rfl) ?_
  refine lv_iconst (v := 1) S.1 S.2.1 dX2_workOutHalf_16 (by decide) ?_
  refine lv_iadd S.1 S.2.1 dX2_workOutHalf_17 ?_
  refine kv_top (y := nI (hf + 1)) (nI_add hf 1) ?_
  refine kv_sP (As := [.int sd, .int (nI (hf + 1))]) (rest := []) S (kc_CI_mix l D sd (nI (hf + 1))  ) (kn_cS S kn_69 kn_54 kn_5 kn_55 kd_X0_mix rfl rfl ⟨Nat.le_of_ble_eq_true rfl, Nat.le_of_ble_eq_true rfl⟩) hB rfl hl.1 rfl (Nat.le_of_ble_eq_true rfl) dX2_workOutHalf_18 ⟨Nat.zero_le _, Nat.zero_le _⟩ (fun H locs hB => ?_)
  refine lv_topi (fun x_2 ex_2 => ?_)
  refine lv_istore S.1 S.2.1 dX2_workOutHalf_21 hl (by decide) rfl (fun ls hl => ?_)
  have hl : lv_has ls 11 [(7, .int x_2), (6, .int x_1), (0, .ref r), (1, .int (nI q)), (2, .int (nI hf)), (3, .int x), (4, .int pw), (5, .int sd)] := hl
  refine lv_iload S.1 S.2.1 dX2_workOutHalf_23 (lv_at hl 7 rfl) ?_
  refine lv_iload_n S.1 S.2.1 dX2_workOutHalf_25 rfl (lv_at hl 4 rfl) ?_
  refine lv_iconst (v := 3) S.1 S.2.1 dX2_workOutHalf_26 (by decide) ?_
  refine lv_iadd S.1 S.2.1 dX2_workOutHalf_27 ?_
  refine kv_top (y := nI (hf + 3)) (nI_add hf 3) ?_
  refine kv_sP (As := [.int sd, .int (nI (hf + 3))]) (rest := []) S (kc_CI_mix l D sd (nI (hf + 3))  ) (kn_cS S kn_69 kn_54 kn_5 kn_55 kd_X0_mix rfl rfl ⟨Nat.le_of_ble_eq_true rfl, Nat.le_of_ble_eq_true rfl⟩) hB rfl hl.1 rfl (Nat.le_of_ble_eq_true rfl) dX2_workOutHalf_28 ⟨Nat.zero_le _, Nat.zero_le _⟩ (fun H locs hB => ?_)
  refine lv_topi (fun x_3 ex_3 => ?_)
  refine lv_istore S.1 S.2.1 dX2_workOutHalf_31 hl (by decide) rfl (fun ls hl => ?_)
  have hl : lv_has ls 11 [(8, .int x_3), (7, .int x_2), (6, .int x_1), (0, .ref r), (1, .int (nI q)), (2, .int (nI hf)), (3, .int x), (4, .int pw), (5, .int sd)] := hl
  refine lv_iload S.1 S.2.1 dX2_workOutHalf_33 (lv_at hl 1 rfl) ?_
  refine lv_iload S.1 S.2.1 dX2_workOutHalf_35 (lv_at hl 0 rfl) ?_
  refine lv_iload_n S.1 S.2.1 dX2_workOutHalf_37 rfl (lv_at hl 5 rfl) ?_
  refine kv_sP (As := [.int x_2, .int x_3, .int (nI hf)]) (rest := []) S (kc_SL_mask l D x_2 x_3 (nI hf)  ) (kn_cS S kn_76 kn_77 kn_6 kn_78 kd_X2_mask rfl rfl ⟨Nat.le_of_ble_eq_true rfl, Nat.le_of_ble_eq_true rfl⟩) hB rfl hl.1 rfl (Nat.le_of_ble_eq_true rfl) dX2_workOutHalf_38 ⟨Nat.zero_le _, Nat.zero_le _⟩ (fun H locs hB => ?_)
  refine lv_iload_n S.1 S.2.1 dX2_workOutHalf_41 rfl (lv_at hl 6 rfl) ?_
  refine lv_ixor S.1 S.2.1 dX2_workOutHalf_42 ?_
  refine lv_topi (fun x_4 ex_4 => ?_)
  refine lv_istore S.1 S.2.1 dX2_workOutHalf_43 hl (by decide) rfl (fun ls hl => ?_)
  have hl : lv_has ls 11 [(9, .int x_4), (8, .int x_3), (7, .int x_2), (6, .int x_1), (0, .ref r), (1, .int (nI q)), (2, .int (nI hf)), (3, .int x), (4, .int pw), (5, .int sd)] := hl
  refine lv_iload_n S.1 S.2.1 dX2_workOutHalf_45 rfl (lv_at hl 5 rfl) ?_
  refine lv_iconst (v := 2) S.1 S.2.1 dX2_workOutHalf_46 (by decide) ?_
  refine lv_iadd S.1 S.2.1 dX2_workOutHalf_47 ?_
  refine kv_top (y := nI (q + 2)) (nI_add q 2) ?_
  refine lv_iload_n S.1 S.2.1 dX2_workOutHalf_48 rfl (lv_at hl 6 rfl) ?_
  refine lv_iadd S.1 S.2.1 dX2_workOutHalf_49 ?_
  refine kv_top (y := nI ((q + 2) + hf)) (nI_add (q + 2) hf) ?_
  refine lv_istore S.1 S.2.1 dX2_workOutHalf_50 hl (by decide) rfl (fun ls hl => ?_)
  have hl : lv_has ls 11 [(10, .int (nI ((q + 2) + hf))), (9, .int x_4), (8, .int x_3), (7, .int x_2), (6, .int x_1), (0, .ref r), (1, .int (nI q)), (2, .int (nI hf)), (3, .int x), (4, .int pw), (5, .int sd)] := hl
  refine lv_aload_n S.1 S.2.1 dX2_workOutHalf_52 rfl (lv_at hl 5 rfl) ?_
  refine lv_iload S.1 S.2.1 dX2_workOutHalf_53 (lv_at hl 0 rfl) ?_
  refine lv_iload S.1 S.2.1 dX2_workOutHalf_55 (lv_at hl 4 rfl) ?_
  refine lv_iload S.1 S.2.1 dX2_workOutHalf_57 (lv_at hl 3 rfl) ?_
  refine kv_sP (As := [.int x_1, .int x_2]) (rest := [.int (nI ((q + 2) + hf)), .ref r]) S (kc_CI_encipher l D x_1 x_2  ) (kn_cS S kn_79 kn_80 kn_5 kn_81 kd_X0_encipher rfl rfl ⟨Nat.le_of_ble_eq_true rfl, Nat.le_of_ble_eq_true rfl⟩) hB rfl hl.1 rfl (Nat.le_of_ble_eq_true rfl) dX2_workOutHalf_59 ⟨Nat.zero_le _, Nat.zero_le _⟩ (fun H locs hB => ?_)
  refine kv_iast S hB 3 0 rfl rfl ((q + 2) + hf) rfl (by omega) (by decide) dX2_workOutHalf_62 (fun H locs hB => ?_)
  have hB : kv_B N D [(cA, .int)] A s (vo_W h d w r cA σ (upd g ((q + 2) + hf) (kp_E x_1 x_2)) dv dk pk) H locs := hB
  refine lv_aload_n S.1 S.2.1 dX2_workOutHalf_63 rfl (lv_at hl 5 rfl) ?_
  refine lv_iload S.1 S.2.1 dX2_workOutHalf_64 (lv_at hl 0 rfl) ?_
  refine lv_iconst (v := 2) S.1 S.2.1 dX2_workOutHalf_66 (by decide) ?_
  refine lv_iadd S.1 S.2.1 dX2_workOutHalf_67 ?_
  refine kv_top (y := nI (((q + 2) + hf) + 2)) (nI_add ((q + 2) + hf) 2) ?_
  refine lv_iload S.1 S.2.1 dX2_workOutHalf_68 (lv_at hl 4 rfl) ?_
  refine lv_iload S.1 S.2.1 dX2_workOutHalf_70 (lv_at hl 2 rfl) ?_
  refine kv_sP (As := [.int x_1, .int x_3]) (rest := [.int (nI (((q + 2) + hf) + 2)), .ref r]) S (kc_CI_encipher l D x_1 x_3  ) (kn_cS S kn_79 kn_80 kn_5 kn_81 kd_X0_encipher rfl rfl ⟨Nat.le_of_ble_eq_true rfl, Nat.le_of_ble_eq_true rfl⟩) hB rfl hl.1 rfl (Nat.le_of_ble_eq_true rfl) dX2_workOutHalf_72 ⟨Nat.zero_le _, Nat.zero_le _⟩ (fun H locs hB => ?_)
  refine kv_iast S hB 3 0 rfl rfl (((q + 2) + hf) + 2) rfl (by omega) (by decide) dX2_workOutHalf_75 (fun H locs hB => ?_)
  have hB : kv_B N D [(cA, .int)] A s (vo_W h d w r cA σ (upd (upd g ((q + 2) + hf) (kp_E x_1 x_2)) (((q + 2) + hf) + 2) (kp_E x_1 x_3)) dv dk pk) H locs := hB
  refine lv_aload_n S.1 S.2.1 dX2_workOutHalf_76 rfl (lv_at hl 5 rfl) ?_
  refine lv_iload S.1 S.2.1 dX2_workOutHalf_77 (lv_at hl 0 rfl) ?_
  refine lv_iconst (v := 4) S.1 S.2.1 dX2_workOutHalf_79 (by decide) ?_
  refine lv_iadd S.1 S.2.1 dX2_workOutHalf_80 ?_
  refine kv_top (y := nI (((q + 2) + hf) + 4)) (nI_add ((q + 2) + hf) 4) ?_
  refine lv_iload S.1 S.2.1 dX2_workOutHalf_81 (lv_at hl 4 rfl) ?_
  refine lv_iload S.1 S.2.1 dX2_workOutHalf_83 (lv_at hl 1 rfl) ?_
  refine kv_sP (As := [.int x_1, .int x_4]) (rest := [.int (nI (((q + 2) + hf) + 4)), .ref r]) S (kc_CI_encipher l D x_1 x_4  ) (kn_cS S kn_79 kn_80 kn_5 kn_81 kd_X0_encipher rfl rfl ⟨Nat.le_of_ble_eq_true rfl, Nat.le_of_ble_eq_true rfl⟩) hB rfl hl.1 rfl (Nat.le_of_ble_eq_true rfl) dX2_workOutHalf_85 ⟨Nat.zero_le _, Nat.zero_le _⟩ (fun H locs hB => ?_)
  refine kv_iast S hB 3 0 rfl rfl (((q + 2) + hf) + 4) rfl (by omega) (by decide) dX2_workOutHalf_88 (fun H locs hB => ?_)
  have hB : kv_B N D [(cA, .int)] A s (vo_W h d w r cA σ (upd (upd (upd g ((q + 2) + hf) (kp_E x_1 x_2)) (((q + 2) + hf) + 2) (kp_E x_1 x_3)) (((q + 2) + hf) + 4) (kp_E x_1 x_4)) dv dk pk) H locs := hB
  exact K _ _ _ _ _ hB (by subst_vars; rfl) dX2_workOutHalf_89

abbrev kr_SL_workOut : Room := { frames := 4, cells := 0, slots := 0, locals := 99 }
set_option maxRecDepth 100000 in
set_option maxHeartbeats 4000000 in
theorem kc_SL_workOut (l : Launch) (N : State → Prop) (hN : kv_Mv N) (D : va_G) (cA : ClassId) (h d w r : Nat) (σ : kp_S) (g : Nat → Int32) (dv dk pk : Int32) (q : Nat) (a : Int32) (b : Int32) (pw : Int32) (sd : Int32) (hq : q + 8 ≤ 80) : kv_V N l yX2_workOut wsX2_workOut kr_SL_workOut D [(cA, .int)] [.ref r, .int (nI q), .int a, .int b, .int pw, .int sd] (vo_W h d w r cA σ g dv dk pk)  (vo_W h d w r cA σ (kp_wo g q a b pw sd) dv dk pk) := by
  refine kv_openV (cc := cX2_workOut) (maxL := 6) (by decide) rfl (Nat.le_of_ble_eq_true rfl) ?_
  intro p e s m args below meth c A H locs ls Q S hl hB K
  have hl : lv_has ls 6 [(0, .ref r), (1, .int (nI q)), (2, .int a), (3, .int b), (4, .int pw), (5, .int sd)] := hl
  refine lv_iload_n S.1 S.2.1 dX2_workOut_0 rfl (lv_at hl 1 rfl) ?_
  refine kv_blt0 (x := q) (tgt := 13) S (by omega) dX2_workOut_1 (by decide) ?_
  refine lv_iload_n S.1 S.2.1 dX2_workOut_4 rfl (lv_at hl 1 rfl) ?_
  refine lv_aload_n S.1 S.2.1 dX2_workOut_5 rfl (lv_at hl 0 rfl) ?_
  refine kv_alen S hB 3 0 rfl rfl dX2_workOut_6 ?_
  refine lv_bipush (v := 8) S.1 S.2.1 dX2_workOut_7 (by decide) ?_
  refine lv_isub S.1 S.2.1 dX2_workOut_9 ?_
  refine kv_top (y := 72) (by decide) ?_
  refine kv_ble (x := q) (y := 72) (tgt := 14) S (by omega) (by omega) dX2_workOut_10 (by decide) (fun h_10 => ?_) (fun h => absurd h (by omega))
  refine lv_aload_n S.1 S.2.1 dX2_workOut_14 rfl (lv_at hl 0 rfl) ?_
  refine lv_iload_n S.1 S.2.1 dX2_workOut_15 rfl (lv_at hl 1 rfl) ?_
  refine lv_iconst (v := 1) S.1 S.2.1 dX2_workOut_16 (by decide) ?_
  refine kv_iast S hB 3 0 rfl rfl q rfl (by omega) (by decide) dX2_workOut_17 (fun H locs hB => ?_)
  have hB : kv_B N D [(cA, .int)] A s (vo_W h d w r cA σ (upd g q 1) dv dk pk) H locs := hB
  refine lv_aload_n S.1 S.2.1 dX2_workOut_18 rfl (lv_at hl 0 rfl) ?_
  refine lv_iload_n S.1 S.2.1 dX2_workOut_19 rfl (lv_at hl 1 rfl) ?_
  refine lv_iconst (v := 1) S.1 S.2.1 dX2_workOut_20 (by decide) ?_
  refine lv_iadd S.1 S.2.1 dX2_workOut_21 ?_
  refine kv_top (y := nI (q + 1)) (nI_add q 1) ?_
  refine lv_iload S.1 S.2.1 dX2_workOut_22 (lv_at hl 5 rfl) ?_
  refine lv_iconst (v := 0) S.1 S.2.1 dX2_workOut_24 (by decide) ?_
  refine kv_sP (As := [.int sd, .int 0]) (rest := [.int (nI (q + 1)), .ref r]) S (kc_CI_mix l D sd 0  ) (kn_cS S kn_69 kn_54 kn_5 kn_55 kd_X0_mix rfl rfl ⟨Nat.le_of_ble_eq_true rfl, Nat.le_of_ble_eq_true rfl⟩) hB rfl hl.1 rfl (Nat.le_of_ble_eq_true rfl) dX2_workOut_25 ⟨Nat.zero_le _, Nat.zero_le _⟩ (fun H locs hB => ?_)
  refine kv_iast S hB 3 0 rfl rfl (q + 1) rfl (by omega) (by decide) dX2_workOut_28 (fun H locs hB => ?_)
  have hB : kv_B N D [(cA, .int)] A s (vo_W h d w r cA σ (upd (upd g q 1) (q + 1) (kp_H sd 0)) dv dk pk) H locs := hB
  refine lv_aload_n S.1 S.2.1 dX2_workOut_29 rfl (lv_at hl 0 rfl) ?_
  refine lv_iload_n S.1 S.2.1 dX2_workOut_30 rfl (lv_at hl 1 rfl) ?_
  refine lv_iconst (v := 0) S.1 S.2.1 dX2_workOut_31 (by decide) ?_
  refine lv_iload_n S.1 S.2.1 dX2_workOut_32 rfl (lv_at hl 2 rfl) ?_
  refine lv_iload S.1 S.2.1 dX2_workOut_33 (lv_at hl 4 rfl) ?_
  refine lv_iload S.1 S.2.1 dX2_workOut_35 (lv_at hl 5 rfl) ?_
  refine kv_sV (As := [.ref r, .int (nI q), .int 0, .int a, .int pw, .int sd]) (rest := []) hN S (kc_SL_workOutHalf l N hN D cA h d w r σ (upd (upd g q 1) (q + 1) (kp_H sd 0)) dv dk pk q 0 a pw sd  (by omega) (by omega)) (kn_cS S kn_70 kn_71 kn_6 kn_72 kd_X2_workOutHalf rfl rfl ⟨Nat.le_of_ble_eq_true rfl, Nat.le_of_ble_eq_true rfl⟩) hB rfl hl.1 rfl (Nat.le_of_ble_eq_true rfl) dX2_workOut_37 ⟨Nat.zero_le _, Nat.zero_le _⟩ (fun H locs hB => ?_)
  have hB : kv_B N D [(cA, .int)] A s (vo_W h d w r cA σ (kp_wh (upd (upd g q 1) (q + 1) (kp_H sd 0)) q 0 a pw sd) dv dk pk) H locs := hB
  refine lv_aload_n S.1 S.2.1 dX2_workOut_40 rfl (lv_at hl 0 rfl) ?_
  refine lv_iload_n S.1 S.2.1 dX2_workOut_41 rfl (lv_at hl 1 rfl) ?_
  refine lv_iconst (v := 1) S.1 S.2.1 dX2_workOut_42 (by decide) ?_
  refine lv_iload_n S.1 S.2.1 dX2_workOut_43 rfl (lv_at hl 3 rfl) ?_
  refine lv_iload S.1 S.2.1 dX2_workOut_44 (lv_at hl 4 rfl) ?_
  refine lv_iload S.1 S.2.1 dX2_workOut_46 (lv_at hl 5 rfl) ?_
  refine kv_sV (As := [.ref r, .int (nI q), .int 1, .int b, .int pw, .int sd]) (rest := []) hN S (kc_SL_workOutHalf l N hN D cA h d w r σ (kp_wh (upd (upd g q 1) (q + 1) (kp_H sd 0)) q 0 a pw sd) dv dk pk q 1 b pw sd  (by omega) (by omega)) (kn_cS S kn_70 kn_71 kn_6 kn_72 kd_X2_workOutHalf rfl rfl ⟨Nat.le_of_ble_eq_true rfl, Nat.le_of_ble_eq_true rfl⟩) hB rfl hl.1 rfl (Nat.le_of_ble_eq_true rfl) dX2_workOut_48 ⟨Nat.zero_le _, Nat.zero_le _⟩ (fun H locs hB => ?_)
  have hB : kv_B N D [(cA, .int)] A s (vo_W h d w r cA σ (kp_wh (kp_wh (upd (upd g q 1) (q + 1) (kp_H sd 0)) q 0 a pw sd) q 1 b pw sd) dv dk pk) H locs := hB
  exact K _ _ _ _ _ hB (by subst_vars; rfl) dX2_workOut_51

abbrev kr_SL_openHalf : Room := { frames := 3, cells := 0, slots := 0, locals := 69 }
set_option maxRecDepth 100000 in
set_option maxHeartbeats 4000000 in
theorem kc_SL_openHalf (l : Launch) (N : State → Prop) (hN : kv_Mv N) (D : va_G) (cA : ClassId) (h d w r : Nat) (σ : kp_S) (g : Nat → Int32) (dv dk pk : Int32) (q : Nat) (hf : Nat) (pw : Int32) (hq : q + 8 ≤ 80) (hh : hf < 2) : kv_I N l yX2_openHalf wsX2_openHalf kr_SL_openHalf D [(cA, .int)] [.ref d, .int (nI q), .int (nI hf), .int pw] (vo_W h d w r cA σ g dv dk pk) (kp_oh σ.1 q pw hf) (vo_W h d w r cA σ g dv dk pk) := by
  refine kv_openI (cc := cX2_openHalf) (maxL := 9) (rt := .int) (by decide) rfl (rfl) (Nat.le_of_ble_eq_true rfl) ?_
  intro p e s m args below meth c A H locs ls Q S hl hB K
  have hl : lv_has ls 9 [(0, .ref d), (1, .int (nI q)), (2, .int (nI hf)), (3, .int pw)] := hl
  refine lv_iload_n S.1 S.2.1 dX2_openHalf_0 rfl (lv_at hl 3 rfl) ?_
  refine lv_aload_n S.1 S.2.1 dX2_openHalf_1 rfl (lv_at hl 0 rfl) ?_
  refine lv_iload_n S.1 S.2.1 dX2_openHalf_2 rfl (lv_at hl 1 rfl) ?_
  refine lv_iconst (v := 1) S.1 S.2.1 dX2_openHalf_3 (by decide) ?_
  refine lv_iadd S.1 S.2.1 dX2_openHalf_4 ?_
  refine kv_top (y := nI (q + 1)) (nI_add q 1) ?_
  refine kv_vI (As := [.int (nI (q + 1))]) (rest := [.int pw]) hN S (kc_DI_wordAtN l N hN D cA h d w r σ g dv dk pk (q + 1)  (by omega)) (kn_cV (C := RX1) S kn_156 kn_115 kn_116 kn_2 kn_117 rfl kd_X1_wordAt rfl rfl ⟨Nat.le_of_ble_eq_true rfl, Nat.le_of_ble_eq_true rfl⟩) hB 1 rfl rfl rfl hl.1 rfl (Nat.le_of_ble_eq_true rfl) dX2_openHalf_5 ⟨Nat.zero_le _, Nat.zero_le _⟩ (fun H locs hB => ?_)
  refine lv_iload_n S.1 S.2.1 dX2_openHalf_8 rfl (lv_at hl 2 rfl) ?_
  refine kv_sP (As := [.int pw, .int (σ.1 (q + 1)), .int (nI hf)]) (rest := []) S (kc_CI_slotKey l D pw (σ.1 (q + 1)) (nI hf)  ) (kn_cS S kn_73 kn_74 kn_5 kn_75 kd_X0_slotKey rfl rfl ⟨Nat.le_of_ble_eq_true rfl, Nat.le_of_ble_eq_true rfl⟩) hB rfl hl.1 rfl (Nat.le_of_ble_eq_true rfl) dX2_openHalf_9 ⟨Nat.zero_le _, Nat.zero_le _⟩ (fun H locs hB => ?_)
  refine lv_topi (fun x_1 ex_1 => ?_)
  refine lv_istore S.1 S.2.1 dX2_openHalf_12 hl (by decide) rfl (fun ls hl => ?_)
  have hl : lv_has ls 9 [(4, .int x_1), (0, .ref d), (1, .int (nI q)), (2, .int (nI hf)), (3, .int pw)] := hl
  refine lv_iload_n S.1 S.2.1 dX2_openHalf_14 rfl (lv_at hl 2 rfl) ?_
  refine lv_iconst (v := 2) S.1 S.2.1 dX2_openHalf_15 (by decide) ?_
  refine lv_iadd S.1 S.2.1 dX2_openHalf_16 ?_
  refine kv_top (y := nI (q + 2)) (nI_add q 2) ?_
  refine lv_iload_n S.1 S.2.1 dX2_openHalf_17 rfl (lv_at hl 3 rfl) ?_
  refine lv_iadd S.1 S.2.1 dX2_openHalf_18 ?_
  refine kv_top (y := nI ((q + 2) + hf)) (nI_add (q + 2) hf) ?_
  refine lv_istore S.1 S.2.1 dX2_openHalf_19 hl (by decide) rfl (fun ls hl => ?_)
  have hl : lv_has ls 9 [(5, .int (nI ((q + 2) + hf))), (4, .int x_1), (0, .ref d), (1, .int (nI q)), (2, .int (nI hf)), (3, .int pw)] := hl
  refine lv_iload S.1 S.2.1 dX2_openHalf_21 (lv_at hl 1 rfl) ?_
  refine lv_aload_n S.1 S.2.1 dX2_openHalf_23 rfl (lv_at hl 2 rfl) ?_
  refine lv_iload S.1 S.2.1 dX2_openHalf_24 (lv_at hl 0 rfl) ?_
  refine kv_vI (As := [.int (nI ((q + 2) + hf))]) (rest := [.int x_1]) hN S (kc_DI_wordAtN l N hN D cA h d w r σ g dv dk pk ((q + 2) + hf)  (by omega)) (kn_cV (C := RX1) S kn_156 kn_115 kn_116 kn_2 kn_117 rfl kd_X1_wordAt rfl rfl ⟨Nat.le_of_ble_eq_true rfl, Nat.le_of_ble_eq_true rfl⟩) hB 1 rfl rfl rfl hl.1 rfl (Nat.le_of_ble_eq_true rfl) dX2_openHalf_26 ⟨Nat.zero_le _, Nat.zero_le _⟩ (fun H locs hB => ?_)
  refine kv_sP (As := [.int x_1, .int (σ.1 ((q + 2) + hf))]) (rest := []) S (kc_CI_decipher l D x_1 (σ.1 ((q + 2) + hf))  ) (kn_cS S kn_157 kn_158 kn_5 kn_159 kd_X0_decipher rfl rfl ⟨Nat.le_of_ble_eq_true rfl, Nat.le_of_ble_eq_true rfl⟩) hB rfl hl.1 rfl (Nat.le_of_ble_eq_true rfl) dX2_openHalf_29 ⟨Nat.zero_le _, Nat.zero_le _⟩ (fun H locs hB => ?_)
  refine lv_topi (fun x_2 ex_2 => ?_)
  refine lv_istore S.1 S.2.1 dX2_openHalf_32 hl (by decide) rfl (fun ls hl => ?_)
  have hl : lv_has ls 9 [(6, .int x_2), (5, .int (nI ((q + 2) + hf))), (4, .int x_1), (0, .ref d), (1, .int (nI q)), (2, .int (nI hf)), (3, .int pw)] := hl
  refine lv_iload S.1 S.2.1 dX2_openHalf_34 (lv_at hl 2 rfl) ?_
  refine lv_aload_n S.1 S.2.1 dX2_openHalf_36 rfl (lv_at hl 3 rfl) ?_
  refine lv_iload S.1 S.2.1 dX2_openHalf_37 (lv_at hl 1 rfl) ?_
  refine lv_iconst (v := 2) S.1 S.2.1 dX2_openHalf_39 (by decide) ?_
  refine lv_iadd S.1 S.2.1 dX2_openHalf_40 ?_
  refine kv_top (y := nI (((q + 2) + hf) + 2)) (nI_add ((q + 2) + hf) 2) ?_
  refine kv_vI (As := [.int (nI (((q + 2) + hf) + 2))]) (rest := [.int x_1]) hN S (kc_DI_wordAtN l N hN D cA h d w r σ g dv dk pk (((q + 2) + hf) + 2)  (by omega)) (kn_cV (C := RX1) S kn_156 kn_115 kn_116 kn_2 kn_117 rfl kd_X1_wordAt rfl rfl ⟨Nat.le_of_ble_eq_true rfl, Nat.le_of_ble_eq_true rfl⟩) hB 1 rfl rfl rfl hl.1 rfl (Nat.le_of_ble_eq_true rfl) dX2_openHalf_41 ⟨Nat.zero_le _, Nat.zero_le _⟩ (fun H locs hB => ?_)
  refine kv_sP (As := [.int x_1, .int (σ.1 (((q + 2) + hf) + 2))]) (rest := []) S (kc_CI_decipher l D x_1 (σ.1 (((q + 2) + hf) + 2))  ) (kn_cS S kn_157 kn_158 kn_5 kn_159 kd_X0_decipher rfl rfl ⟨Nat.le_of_ble_eq_true rfl, Nat.le_of_ble_eq_true rfl⟩) hB rfl hl.1 rfl (Nat.le_of_ble_eq_true rfl) dX2_openHalf_44 ⟨Nat.zero_le _, Nat.zero_le _⟩ (fun H locs hB => ?_)
  refine lv_topi (fun x_3 ex_3 => ?_)
  refine lv_istore S.1 S.2.1 dX2_openHalf_47 hl (by decide) rfl (fun ls hl => ?_)
  have hl : lv_has ls 9 [(7, .int x_3), (6, .int x_2), (5, .int (nI ((q + 2) + hf))), (4, .int x_1), (0, .ref d), (1, .int (nI q)), (2, .int (nI hf)), (3, .int pw)] := hl
  refine lv_iload S.1 S.2.1 dX2_openHalf_49 (lv_at hl 3 rfl) ?_
  refine lv_aload_n S.1 S.2.1 dX2_openHalf_51 rfl (lv_at hl 4 rfl) ?_
  refine lv_iload S.1 S.2.1 dX2_openHalf_52 (lv_at hl 2 rfl) ?_
  refine lv_iconst (v := 4) S.1 S.2.1 dX2_openHalf_54 (by decide) ?_
  refine lv_iadd S.1 S.2.1 dX2_openHalf_55 ?_
  refine kv_top (y := nI (((q + 2) + hf) + 4)) (nI_add ((q + 2) + hf) 4) ?_
  refine kv_vI (As := [.int (nI (((q + 2) + hf) + 4))]) (rest := [.int x_1]) hN S (kc_DI_wordAtN l N hN D cA h d w r σ g dv dk pk (((q + 2) + hf) + 4)  (by omega)) (kn_cV (C := RX1) S kn_156 kn_115 kn_116 kn_2 kn_117 rfl kd_X1_wordAt rfl rfl ⟨Nat.le_of_ble_eq_true rfl, Nat.le_of_ble_eq_true rfl⟩) hB 1 rfl rfl rfl hl.1 rfl (Nat.le_of_ble_eq_true rfl) dX2_openHalf_56 ⟨Nat.zero_le _, Nat.zero_le _⟩ (fun H locs hB => ?_)
  refine kv_sP (As := [.int x_1, .int (σ.1 (((q + 2) + hf) + 4))]) (rest := []) S (kc_CI_decipher l D x_1 (σ.1 (((q + 2) + hf) + 4))  ) (kn_cS S kn_157 kn_158 kn_5 kn_159 kd_X0_decipher rfl rfl ⟨Nat.le_of_ble_eq_true rfl, Nat.le_of_ble_eq_true rfl⟩) hB rfl hl.1 rfl (Nat.le_of_ble_eq_true rfl) dX2_openHalf_59 ⟨Nat.zero_le _, Nat.zero_le _⟩ (fun H locs hB => ?_)
  refine lv_topi (fun x_4 ex_4 => ?_)
  refine lv_istore S.1 S.2.1 dX2_openHalf_62 hl (by decide) rfl (fun ls hl => ?_)
  have hl : lv_has ls 9 [(8, .int x_4), (7, .int x_3), (6, .int x_2), (5, .int (nI ((q + 2) + hf))), (4, .int x_1), (0, .ref d), (1, .int (nI q)), (2, .int (nI hf)), (3, .int pw)] := hl
  refine lv_iload S.1 S.2.1 dX2_openHalf_64 (lv_at hl 2 rfl) ?_
  refine lv_iload S.1 S.2.1 dX2_openHalf_66 (lv_at hl 1 rfl) ?_
  refine lv_iload_n S.1 S.2.1 dX2_openHalf_68 rfl (lv_at hl 7 rfl) ?_
  refine kv_sP (As := [.int x_2, .int x_3, .int (nI hf)]) (rest := []) S (kc_SL_mask l D x_2 x_3 (nI hf)  ) (kn_cS S kn_76 kn_77 kn_6 kn_78 kd_X2_mask rfl rfl ⟨Nat.le_of_ble_eq_true rfl, Nat.le_of_ble_eq_true rfl⟩) hB rfl hl.1 rfl (Nat.le_of_ble_eq_true rfl) dX2_openHalf_69 ⟨Nat.zero_le _, Nat.zero_le _⟩ (fun H locs hB => ?_)
  refine lv_iload S.1 S.2.1 dX2_openHalf_72 (lv_at hl 0 rfl) ?_
  refine lv_ixor S.1 S.2.1 dX2_openHalf_74 ?_
  exact K _ _ _ _ _ _ hB (by subst_vars; rfl) (rfl) dX2_openHalf_75
end
section
/-! The class's calls, as functions of its state. -/
abbrev kp_V : Type := kp_S × (Nat → Int32) × Int32 × Int32 × Int32
abbrev vo_T (h d w r : Nat) (cA : ClassId) (v : kp_V) : va_W := vo_W h d w r cA v.1 v.2.1 v.2.2.1 v.2.2.2.1 v.2.2.2.2
def kp_ro (dv : Int32) : Int32 := if dv = 0 then (-2) else if dv = 1 then (-4) else 0
def kp_rs (f : Nat → Int32) (dv x : Int32) : Int32 := if kp_ro dv = 0 then (if x < 0 then (-5) else if x < 4 then (if kp_ac f x.toNatClampNeg = 0 then (-6) else 0) else (-5)) else kp_ro dv
def kp_rw (dv x y : Int32) : Int32 := if kp_ro dv = 0 then (if x < 0 then (-5) else if 8 ≤ x then (-5) else if y < 0 then (-5) else if 4 ≤ y then (-5) else 0) else kp_ro dv
theorem kp_ix4 {x : Int32} (h1 : ¬ x < 0) (h2 : x < 4) : ∃ j : Nat, j < 4 ∧ x = nI j := by
  rcases pk_ix x (n := 4) (by decide) with h | h | h
  · exact absurd h h1
  · exact absurd h2 (Int32.not_lt.mpr h)
  · exact h
theorem kp_ixn {x : Int32} (n : Nat) (hn : n < 2 ^ 31) {y : Int32} (hy : y = nI n) (h1 : ¬ x < 0) (h2 : ¬ y ≤ x) : ∃ j : Nat, j < n ∧ x = nI j := by
  subst hy
  rcases pk_ix x (n := n) hn with h | h | h
  · exact absurd h h1
  · exact absurd h h2
  · exact h
/-- which slots are active: the sum, the number, the least that is not -/
def kp_sm (f : Nat → Int32) : Nat → Nat → Int32 → Int32
  | 0, _, acc => acc
  | n + 1, k, acc => kp_sm f n (k + 1) (acc + if kp_ac f k = 0 then 0 else (1 : Int32) <<< (nI k &&& 31))
def kp_cn (f : Nat → Int32) : Nat → Nat → Int32 → Int32
  | 0, _, acc => acc
  | n + 1, k, acc => kp_cn f n (k + 1) (acc + if kp_ac f k = 0 then 0 else 1)
def kp_lf (f : Nat → Int32) : Nat → Nat → Nat
  | 0, k => k
  | n + 1, k => if kp_ac f k = 0 then k else kp_lf f n (k + 1)
theorem kp_lf_le (f : Nat → Int32) : ∀ n k, kp_lf f n k ≤ k + n
  | 0, k => Nat.le_refl _
  | n + 1, k => by
    unfold kp_lf
    by_cases h : kp_ac f k = 0
    · rw [if_pos h]; omega
    · rw [if_neg h]; have := kp_lf_le f n (k + 1); omega
def kp_b1 (i : Int32) : Int32 := i - (kv_us i 1 &&& 1431655765)
def kp_b2 (i : Int32) : Int32 := (i &&& 858993459) + (kv_us i 2 &&& 858993459)
def kp_b3 (i : Int32) : Int32 := (i + kv_us i 4) &&& 252645135
def kp_b4 (i : Int32) : Int32 := i + kv_us i 8
def kp_b5 (i : Int32) : Int32 := i + kv_us i 16
def kp_bc (i : Int32) : Int32 := kp_b5 (kp_b4 (kp_b3 (kp_b2 (kp_b1 i)))) &&& 63
theorem kp_ac_01 (f : Nat → Int32) (k : Nat) : kp_ac f k = 0 ∨ kp_ac f k = 1 := by
  unfold kp_ac
  by_cases h : f (4 + 8 * k) = 1
  · rw [if_pos h]; exact Or.inr rfl
  · rw [if_neg h]; exact Or.inl rfl
theorem kp_bc_sm (f : Nat → Int32) : kp_bc (kp_sm f 4 0 0) = kp_cn f 4 0 0 := by
  simp only [kp_sm, kp_cn]
  rcases kp_ac_01 f 0 with h0 | h0 <;> rcases kp_ac_01 f (0 + 1) with h1 | h1 <;> rcases kp_ac_01 f (0 + 1 + 1) with h2 | h2 <;> rcases kp_ac_01 f (0 + 1 + 1 + 1) with h3 | h3 <;> rw [h0, h1, h2, h3] <;> decide
/-- a slot opens with the passphrase -/
def kp_om (f : Nat → Int32) (k : Nat) (pw : Int32) : Int32 := if kp_dg (kp_oh f (4 + 8 * k) pw 0) (kp_oh f (4 + 8 * k) pw 1) (f 2) = f 1 then 1 else 0
theorem kp_om_z (f : Nat → Int32) (k : Nat) (pw : Int32) : narrow .boolean (.int (kp_om f k pw)) = .int (kp_om f k pw) := by
  unfold kp_om
  by_cases h : kp_dg (kp_oh f (4 + 8 * k) pw 0) (kp_oh f (4 + 8 * k) pw 1) (f 2) = f 1
  · rw [if_pos h]; decide
  · rw [if_neg h]; decide
/-- unlock from slot k on: the answer, the device, the keys -/
def kp_un (f : Nat → Int32) (pw : Int32) (q : Int32 × Int32 × Int32) : Nat → Nat → Int32 × Int32 × Int32 × Int32
  | 0, _ => (-9, q)
  | n + 1, k => if kp_ac f k = 0 then kp_un f pw q n (k + 1) else if kp_om f k pw = 0 then kp_un f pw q n (k + 1) else (nI k, 2, kp_oh f (4 + 8 * k) pw 0, kp_oh f (4 + 8 * k) pw 1)
/-- write's new words -/
def kp_wl (f : Nat → Int32) (dk pk : Int32) (z i : Nat) (v : Int32) : Nat → Nat → (Nat → Int32) → Nat → Int32
  | 0, _, g => g
  | n + 1, j, g => kp_wl f dk pk z i v n (j + 1) (upd g j (kp_hide dk pk (nI z) j (if j = i then v else kp_show dk pk (nI z) j (f (48 + 4 * z + j)))))
def kp_fin (ok : Int32) (R : Int32 × kp_S) (G : Nat → Int32) (dv dk pk : Int32) : Int32 × kp_V := if R.1 = 0 then (-1, R.2, G, 0, 0, 0) else (ok, R.2, G, dv, dk, pk)
def kp_x_add (v : kp_V) (pw sd : Int32) : Int32 × kp_V :=
  if kp_ro v.2.2.1 = 0 then
    if kp_lf v.1.1 4 0 = 4 then (-7, v)
    else kp_fin (nI (kp_lf v.1.1 4 0)) (kp_run (kp_ch 8 0 8 (4 + 8 * kp_lf v.1.1 4 0) (kp_wo v.2.1 0 v.2.2.2.1 v.2.2.2.2 pw sd) v.1.1) v.1) (kp_wo v.2.1 0 v.2.2.2.1 v.2.2.2.2 pw sd) v.2.2.1 v.2.2.2.1 v.2.2.2.2
  else (kp_ro v.2.2.1, v)
def kp_x_change (v : kp_V) (x pw sd : Int32) : Int32 × kp_V :=
  if kp_rs v.1.1 v.2.2.1 x = 0 then
    kp_fin 0 (kp_run (kp_ch 8 0 8 (4 + 8 * x.toNatClampNeg) (kp_wo v.2.1 0 v.2.2.2.1 v.2.2.2.2 pw sd) v.1.1) v.1) (kp_wo v.2.1 0 v.2.2.2.1 v.2.2.2.2 pw sd) v.2.2.1 v.2.2.2.1 v.2.2.2.2
  else (kp_rs v.1.1 v.2.2.1 x, v)
def kp_x_revoke (v : kp_V) (x : Int32) : Int32 × kp_V :=
  if kp_rs v.1.1 v.2.2.1 x = 0 then
    if kp_bc (kp_sm v.1.1 4 0 0) = 1 then (-8, v)
    else kp_fin 0 (kp_run (kp_ch 8 0 8 (4 + 8 * x.toNatClampNeg) (fun _ => 0) v.1.1) v.1) (fun _ => 0) v.2.2.1 v.2.2.2.1 v.2.2.2.2
  else (kp_rs v.1.1 v.2.2.1 x, v)
def kp_x_write (v : kp_V) (x y t : Int32) : Int32 × kp_V :=
  if kp_rw v.2.2.1 x y = 0 then
    kp_fin 0 (kp_run (kp_ch 4 0 4 (48 + 4 * x.toNatClampNeg) (kp_wl v.1.1 v.2.2.2.1 v.2.2.2.2 x.toNatClampNeg y.toNatClampNeg t 4 0 v.2.1) v.1.1) v.1) (kp_wl v.1.1 v.2.2.2.1 v.2.2.2.2 x.toNatClampNeg y.toNatClampNeg t 4 0 v.2.1) v.2.2.1 v.2.2.2.1 v.2.2.2.2
  else (kp_rw v.2.2.1 x y, v)
def kp_x_read (v : kp_V) (x y : Int32) : Int64 :=
  if kp_rw v.2.2.1 x y = 0 then (kp_show v.2.2.2.1 v.2.2.2.2 x y.toNatClampNeg (v.1.1 (48 + 4 * x.toNatClampNeg + y.toNatClampNeg))).toInt64 &&& 4294967295
  else (kp_rw v.2.2.1 x y).toInt64
def kp_x_format (v : kp_V) (a b pw sd : Int32) : Int32 × kp_V :=
  kp_fin 0 (kp_run ((0, 0) :: kp_fm 79 1 (kp_vol a b pw sd)) v.1) (kp_vol a b pw sd) 1 0 0
def kp_x_mount (v : kp_V) (q n : Nat) : Int32 × kp_V :=
  if v.1.1 0 = 1396855379 then
    if (kp_run (kp_se q n v.1.1) v.1).1 = 0 then (-1, (kp_run (kp_se q n v.1.1) v.1).2, v.2.1, 0, 0, 0)
    else (kp_bc (kp_sm (kp_run (kp_se q n v.1.1) v.1).2.1 4 0 0), (kp_run (kp_se q n v.1.1) v.1).2, v.2.1, 1, 0, 0)
  else (-3, v.1, v.2.1, 0, 0, 0)
def kp_x_unlock (v : kp_V) (pw : Int32) : Int32 × kp_V :=
  if v.2.2.1 = 0 then (-2, v) else ((kp_un v.1.1 pw v.2.2 4 0).1, v.1, v.2.1, (kp_un v.1.1 pw v.2.2 4 0).2)
def kp_x_lock (v : kp_V) : Int32 × kp_V :=
  if v.2.2.1 = 0 then (-2, v) else (if v.2.2.1 = 2 then 1 else 0, v.1, v.2.1, 1, 0, 0)
def kp_x_cut (v : kp_V) (x : Int32) : Int32 × kp_V := if (-1 : Int32) ≤ x then (1, (v.1.1, v.1.2.1, x), v.2) else (0, v)
theorem kp_rs_k {f : Nat → Int32} {dv x : Int32} (h : kp_rs f dv x = 0) : ∃ k : Nat, k < 4 ∧ x = nI k := by
  unfold kp_rs at h
  by_cases h0 : kp_ro dv = 0
  · rw [if_pos h0] at h
    by_cases h1 : x < 0
    · rw [if_pos h1] at h; exact absurd h (by decide)
    · rw [if_neg h1] at h
      by_cases h2 : x < 4
      · exact kp_ix4 h1 h2
      · rw [if_neg h2] at h; exact absurd h (by decide)
  · rw [if_neg h0] at h; exact absurd h h0
theorem kp_rw_k {dv x y : Int32} (h : kp_rw dv x y = 0) : ∃ z : Nat, z < 8 ∧ ∃ i : Nat, i < 4 ∧ x = nI z ∧ y = nI i := by
  unfold kp_rw at h
  by_cases h0 : kp_ro dv = 0
  · rw [if_pos h0] at h
    by_cases h1 : x < 0
    · rw [if_pos h1] at h; exact absurd h (by decide)
    · rw [if_neg h1] at h
      by_cases h2 : (8 : Int32) ≤ x
      · rw [if_pos h2] at h; exact absurd h (by decide)
      · rw [if_neg h2] at h
        by_cases h3 : y < 0
        · rw [if_pos h3] at h; exact absurd h (by decide)
        · rw [if_neg h3] at h
          by_cases h4 : (4 : Int32) ≤ y
          · rw [if_pos h4] at h; exact absurd h (by decide)
          · obtain ⟨z, hz, e1⟩ := kp_ixn 8 (by decide) rfl h1 h2
            obtain ⟨i, hi, e2⟩ := kp_ixn 4 (by decide) rfl h3 h4
            exact ⟨z, hz, i, hi, e1, e2⟩
  · rw [if_neg h0] at h; exact absurd h h0
theorem kp_wo_in (g : Nat → Int32) (q : Nat) (a b pw sd : Int32) {j : Nat} (hj : j < 8) : kp_wo g q a b pw sd (q + j) = kp_sl pw sd a b j := by
  rcases (show j = 0 ∨ j = 1 ∨ j = 2 ∨ j = 3 ∨ j = 4 ∨ j = 5 ∨ j = 6 ∨ j = 7 by omega) with rfl | rfl | rfl | rfl | rfl | rfl | rfl | rfl <;>
    simp [kp_wo, kp_wh, upd, kp_sl, nI, Nat.add_assoc]
theorem kp_wo_out (g : Nat → Int32) (q : Nat) (a b pw sd : Int32) {j : Nat} (hj : j < q ∨ q + 8 ≤ j) : kp_wo g q a b pw sd j = g j := by
  unfold kp_wo kp_wh
  rw [pk_un (by omega), pk_un (by omega), pk_un (by omega), pk_un (by omega), pk_un (by omega), pk_un (by omega), pk_un (by omega), pk_un (by omega)]
theorem kp_vol0 (a b pw sd : Int32) {j : Nat} (hj : j < 48 + 4 * 0) : kp_wo (upd (upd (fun _ => 0) 2 (kp_H sd 5)) 1 (kp_dg a b (kp_H sd 5))) (4 + 8 * 0) a b pw sd j = kp_vol a b pw sd j := by
  by_cases h : 4 ≤ j ∧ j < 12
  · obtain ⟨i, rfl⟩ : ∃ i, j = (4 + 8 * 0) + i := ⟨j - 4, by omega⟩
    rw [kp_wo_in _ _ _ _ _ _ (by omega), kp_vol, if_neg (by omega), if_neg (by omega), if_pos (by omega)]
    congr 1
    omega
  · rw [kp_wo_out _ _ _ _ _ _ (by omega), kp_vol]
    by_cases h1 : j = 1
    · subst h1; rw [if_pos rfl]; exact pk_us
    · rw [if_neg h1, pk_un h1]
      by_cases h2 : j = 2
      · subst h2; rw [if_pos rfl]; exact pk_us
      · rw [if_neg h2, pk_un h2, if_neg h, if_neg (by omega)]
theorem kp_vol_sec (a b pw sd : Int32) {k i : Nat} (hk : k < 8) (hi : i < 4) : kp_vol a b pw sd (48 + 4 * k + i) = kp_hide a b (nI k) i 0 := by
  rw [kp_vol, if_neg (by omega), if_neg (by omega), if_neg (by omega), if_pos (by omega)]
  have e1 : (48 + 4 * k + i - 48) / 4 = k := by omega
  have e2 : (48 + 4 * k + i - 48) % 4 = i := by omega
  rw [e1, e2]
theorem kp_x_cut_z (v : kp_V) (x : Int32) : narrow .boolean (.int (kp_x_cut v x).1) = .int (kp_x_cut v x).1 := by
  unfold kp_x_cut
  by_cases h : (-1 : Int32) ≤ x
  · rw [if_pos h]; show narrow .boolean (.int 1) = .int 1; decide
  · rw [if_neg h]; show narrow .boolean (.int 0) = .int 0; decide
section KVM
variable {N : State → Prop} {p : Program} {l : Launch} {e : Env} {R : Room} {s : State} {m : MethodId} {args : Array Value} {below : List Frame} {meth : Method} {c : Code} {H : Heap} {locs : List Loc} {cells slots : Nat} {Q : State → Prop}
variable {cc : ByteArray} {pc : Nat} {ls : Array Slot} {rest : List Value} {D : va_G} {A : Nat → Prop} {a : Nat} {tys : List (ClassId × FieldType)} {ws : va_W} {nL : Nat} {Ts : List Cond} {own C host : String}
theorem kv_getn (S : CallFix p m c cc nL s args Ts own) (hB : kv_B N D tys A s ws H locs) {T : u_T} {M ci index : Nat} (hin : ∀ w ∈ u_ws C T M, w ∈ Ts) (q0 : Nat) {fs : List Value} (he : ws[q0]? = some (a, .inr (ci, fs))) (hc : vwCl[ci]? = some (C, T, M)) (k : Nat) (hk : k < M) (hlink : va_Nw (.fieldLinkNest own index C (T k).2.1 (T k).2.2.1 host) s) (hC : (T k).1 = C) {v : Value} (hv : fs[k]? = some v) (hdg : decode cc pc = .ok (.getfield index, 3))
    (kk : W p l e R s m args below meth c H locs cells slots Q (F0 m (pc + 3) ls (v :: rest))) : W p l e R s m args below meth c H locs cells slots Q (F0 m pc ls (.ref a :: rest)) :=
  va_getN S.1 S.2.1 S.2.2.2.2 hin S.2.2.2.1 hB.2.2.1 hB.1 q0 he hc k hk (va_Nw.use rfl hlink) (fun x h => by rw [hC] at h; exact h) hv hdg kk
theorem kv_putn (S : CallFix p m c cc nL s args Ts own) (hB : kv_B N D tys A s ws H locs) {T : u_T} {M ci index : Nat} (hin : ∀ w ∈ u_ws C T M, w ∈ Ts) (ty0 : Nat → FieldType) (hty : ∀ k, k < M → parseFieldDescriptor (T k).2.2.1 = some (ty0 k)) (hnm : ∀ a, a < M → ∀ b, b < M → a ≠ b → (T a).2.1 ≠ (T b).2.1) (q0 : Nat) {fs : List Value} (he : ws[q0]? = some (a, .inr (ci, fs))) (hc : vwCl[ci]? = some (C, T, M)) (k : Nat) (hk : k < M) (hlink : va_Nw (.fieldLinkNest own index C (T k).2.1 (T k).2.2.1 host) s) (hC : (T k).1 = C) (hfin : (T k).2.2.2 = false) {v : Int32} (hd : parseFieldDescriptor (T k).2.2.1 = some .int) (hl : k < fs.length)
    (hdg : decode cc pc = .ok (.putfield index, 3)) (kk : ∀ (H1 : Heap) (locs1 : List Loc), kv_B N D tys A s (ws.set q0 (a, .inr (ci, fs.set k (.int v)))) H1 locs1 → W p l e R s m args below meth c H1 locs1 cells slots Q (F0 m (pc + 3) ls rest)) : W p l e R s m args below meth c H locs cells slots Q (F0 m pc ls (.int v :: .ref a :: rest)) :=
  va_putN S.1 S.2.1 S.2.2.2.2 hin ty0 hty hnm S.2.2.2.1 hB.2.2.1 hB.1 hB.2.1 hB.2.2.2.1 q0 he hc k hk (va_Nw.use rfl hlink) (fun x h => by rw [hC] at h; exact h) hfin hd rfl rfl hl hdg (fun H1 locs1 h1 h2 h3 => kk H1 locs1 ⟨h1, h2, hB.2.2.1, h3, hB.2.2.2.2.1, hB.2.2.2.2.2⟩)
end KVM
def kv_N (U : State) : Prop := va_Nw (.fieldLinkNest RX3 24 "StripedKeyVolume$Disk" "writesLeft" "I" "StripedKeyVolume") U ∧ va_Nw (.fieldLinkNest RX3 106 "StripedKeyVolume$Disk" "writesDone" "I" "StripedKeyVolume") U
theorem kv_NM : kv_Mv kv_N := ⟨fun _ _ hW h => ⟨va_Nw.warmF hW h.1, va_Nw.warmF hW h.2⟩, fun _ _ hv h => ⟨va_Nw.same rfl hv h.1, va_Nw.same rfl hv h.2⟩⟩
end
section
abbrev kr_AR_fill : Room := { frames := 0, cells := 0, slots := 0, locals := 0 }
set_option maxRecDepth 100000 in
set_option maxHeartbeats 4000000 in
theorem kc_AR_fill (l : Launch) (N : State → Prop) (hN : kv_Mv N) (D : va_G) (cA : ClassId) (h d w r : Nat) (σ : kp_S) (g : Nat → Int32) (dv dk pk : Int32) (x : Int32) : kv_V N l yJ7_fill wsJ7_fill kr_AR_fill D [(cA, .int)] [.ref r, .int x] (vo_W h d w r cA σ g dv dk pk)  (vo_W h d w r cA σ (fun _ => x) dv dk pk) := by
  refine kv_openV (cc := cJ7_fill) (maxL := 4) (by decide) rfl (Nat.le_of_ble_eq_true rfl) ?_
  intro p e s m args below meth c A H locs ls Q S hl hB K
  have hl : lv_has ls 4 [(0, .ref r), (1, .int x)] := hl
  refine lv_iconst (v := 0) S.1 S.2.1 dJ7_fill_0 (by decide) ?_
  refine lv_istore_n S.1 S.2.1 dJ7_fill_1 rfl hl (by decide) rfl (fun ls hl => ?_)
  have hl : lv_has ls 4 [(2, .int 0), (0, .ref r), (1, .int x)] := hl
  refine lv_aload_n S.1 S.2.1 dJ7_fill_2 rfl (lv_at hl 1 rfl) ?_
  refine kv_alen S hB 3 0 rfl rfl dJ7_fill_3 ?_
  refine lv_istore_n S.1 S.2.1 dJ7_fill_4 rfl hl (by decide) rfl (fun ls hl => ?_)
  have hl : lv_has ls 4 [(3, .int 80), (2, .int 0), (0, .ref r), (1, .int x)] := hl
  have loop5 : ∀ (n : Nat) (j : Nat) (gg : Nat → Int32) (H : Heap) (locs : List Loc) (ls : Array Slot), (j + n = 80) → (∀ i, i < j → gg i = x) → lv_has ls 4 [(2, .int (nI j)), (3, .int 80), (0, .ref r), (1, .int x)] → kv_B N D [(cA, .int)] A s (vo_W h d w r cA σ gg dv dk pk) H locs → W p l e kr_AR_fill s m args below meth c H locs 0 0 Q (F0 m 5 ls []) := by
    intro n
    induction n with
    | zero =>
      intro j gg H locs ls hj hG hl hB
      refine lv_iload_n S.1 S.2.1 dJ7_fill_5 rfl (lv_at hl 0 rfl) ?_
      refine lv_iload_n S.1 S.2.1 dJ7_fill_6 rfl (lv_at hl 1 rfl) ?_
      refine kv_bge (x := j) (y := 80) (tgt := 20) S (by omega) (by omega) dJ7_fill_7 (by decide) (fun h_7 => ?_) (fun h => absurd h (by omega))
      have hB := kv_arr 3 rfl (fun _ => x) (fun i hi => hG i (by omega)) hB
      exact K _ _ _ _ _ hB (rfl) dJ7_fill_20
    | succ n ih5 =>
      intro j gg H locs ls hj hG hl hB
      refine lv_iload_n S.1 S.2.1 dJ7_fill_5 rfl (lv_at hl 0 rfl) ?_
      refine lv_iload_n S.1 S.2.1 dJ7_fill_6 rfl (lv_at hl 1 rfl) ?_
      refine kv_bge (x := j) (y := 80) (tgt := 20) S (by omega) (by omega) dJ7_fill_7 (by decide) (fun h => absurd h (by omega)) (fun h_7 => ?_)
      refine lv_aload_n S.1 S.2.1 dJ7_fill_10 rfl (lv_at hl 2 rfl) ?_
      refine lv_iload_n S.1 S.2.1 dJ7_fill_11 rfl (lv_at hl 0 rfl) ?_
      refine lv_iload_n S.1 S.2.1 dJ7_fill_12 rfl (lv_at hl 3 rfl) ?_
      refine kv_iast S hB 3 0 rfl rfl j rfl (by omega) (by decide) dJ7_fill_13 (fun H locs hB => ?_)
      have hB : kv_B N D [(cA, .int)] A s (vo_W h d w r cA σ (upd gg j x) dv dk pk) H locs := hB
      refine lv_iinc (k := 0) (v := nI (j + 1)) S.1 S.2.1 dJ7_fill_14 hl rfl (nI_1 j) (by decide) rfl (fun ls hl => ?_)
      have hl : lv_has ls 4 [(2, .int (nI (j + 1))), (3, .int 80), (0, .ref r), (1, .int x)] := hl
      refine lv_goto (tgt := 5) S.1 S.2.1 dJ7_fill_17 (by decide) ?_
      exact ih5 (j + 1) (upd gg j x) _ _ _ (by omega) (fun i hi => by by_cases q : i = j <;> first | (subst q; exact pk_us) | (rw [pk_un q]; exact hG i (by omega))) (lv_sub hl [0, 1, 2, 3] rfl) hB
  exact loop5 80 0 g _ _ _ (rfl) (fun i hi => absurd hi (Nat.not_lt_zero i)) (lv_sub hl [1, 0, 2, 3] rfl) hB

abbrev kr_IN_bitCount : Room := { frames := 0, cells := 0, slots := 0, locals := 0 }
set_option maxRecDepth 100000 in
set_option maxHeartbeats 4000000 in
theorem kc_IN_bitCount (l : Launch) (D : va_G) (x : Int32) : kv_I (fun _ => True) l yJ6_bitCount wsJ6_bitCount kr_IN_bitCount D [] [.int x] [] (kp_bc x) [] := by
  refine kv_openI (cc := cJ6_bitCount) (maxL := 1) (rt := .int) (by decide) rfl (rfl) (Nat.le_of_ble_eq_true rfl) ?_
  intro p e s m args below meth c A H locs ls Q S hl hB K
  have hl : lv_has ls 1 [(0, .int x)] := hl
  refine lv_iload_n S.1 S.2.1 dJ6_bitCount_0 rfl (lv_at hl 0 rfl) ?_
  refine lv_iload_n S.1 S.2.1 dJ6_bitCount_1 rfl (lv_at hl 0 rfl) ?_
  refine lv_iconst (v := 1) S.1 S.2.1 dJ6_bitCount_2 (by decide) ?_
  refine lv_iushr (v := kv_us x 1) S.1 S.2.1 dJ6_bitCount_3 rfl ?_
  refine lv_ldcw (v := 1431655765) S.1 S.2.1 S.2.2.2.1 (S.2.2.2.2 _ (List.mem_cons_of_mem _ kn_143)) dJ6_bitCount_4 ?_
  refine lv_iand S.1 S.2.1 dJ6_bitCount_7 ?_
  refine lv_isub S.1 S.2.1 dJ6_bitCount_8 ?_
  refine lv_topi (fun x_1 ex_1 => ?_)
  refine lv_istore_n S.1 S.2.1 dJ6_bitCount_9 rfl hl (by decide) rfl (fun ls hl => ?_)
  have hl : lv_has ls 1 [(0, .int x_1)] := hl
  refine lv_iload_n S.1 S.2.1 dJ6_bitCount_10 rfl (lv_at hl 0 rfl) ?_
  refine lv_ldcw (v := 858993459) S.1 S.2.1 S.2.2.2.1 (S.2.2.2.2 _ (List.mem_cons_of_mem _ kn_144)) dJ6_bitCount_11 ?_
  refine lv_iand S.1 S.2.1 dJ6_bitCount_14 ?_
  refine lv_iload_n S.1 S.2.1 dJ6_bitCount_15 rfl (lv_at hl 0 rfl) ?_
  refine lv_iconst (v := 2) S.1 S.2.1 dJ6_bitCount_16 (by decide) ?_
  refine lv_iushr (v := kv_us x_1 2) S.1 S.2.1 dJ6_bitCount_17 rfl ?_
  refine lv_ldcw (v := 858993459) S.1 S.2.1 S.2.2.2.1 (S.2.2.2.2 _ (List.mem_cons_of_mem _ kn_144)) dJ6_bitCount_18 ?_
  refine lv_iand S.1 S.2.1 dJ6_bitCount_21 ?_
  refine lv_iadd S.1 S.2.1 dJ6_bitCount_22 ?_
  refine lv_topi (fun x_2 ex_2 => ?_)
  refine lv_istore_n S.1 S.2.1 dJ6_bitCount_23 rfl hl (by decide) rfl (fun ls hl => ?_)
  have hl : lv_has ls 1 [(0, .int x_2)] := hl
  refine lv_iload_n S.1 S.2.1 dJ6_bitCount_24 rfl (lv_at hl 0 rfl) ?_
  refine lv_iload_n S.1 S.2.1 dJ6_bitCount_25 rfl (lv_at hl 0 rfl) ?_
  refine lv_iconst (v := 4) S.1 S.2.1 dJ6_bitCount_26 (by decide) ?_
  refine lv_iushr (v := kv_us x_2 4) S.1 S.2.1 dJ6_bitCount_27 rfl ?_
  refine lv_iadd S.1 S.2.1 dJ6_bitCount_28 ?_
  refine lv_ldcw (v := 252645135) S.1 S.2.1 S.2.2.2.1 (S.2.2.2.2 _ (List.mem_cons_of_mem _ kn_145)) dJ6_bitCount_29 ?_
  refine lv_iand S.1 S.2.1 dJ6_bitCount_32 ?_
  refine lv_topi (fun x_3 ex_3 => ?_)
  refine lv_istore_n S.1 S.2.1 dJ6_bitCount_33 rfl hl (by decide) rfl (fun ls hl => ?_)
  have hl : lv_has ls 1 [(0, .int x_3)] := hl
  refine lv_iload_n S.1 S.2.1 dJ6_bitCount_34 rfl (lv_at hl 0 rfl) ?_
  refine lv_iload_n S.1 S.2.1 dJ6_bitCount_35 rfl (lv_at hl 0 rfl) ?_
  refine lv_bipush (v := 8) S.1 S.2.1 dJ6_bitCount_36 (by decide) ?_
  refine lv_iushr (v := kv_us x_3 8) S.1 S.2.1 dJ6_bitCount_38 rfl ?_
  refine lv_iadd S.1 S.2.1 dJ6_bitCount_39 ?_
  refine lv_topi (fun x_4 ex_4 => ?_)
  refine lv_istore_n S.1 S.2.1 dJ6_bitCount_40 rfl hl (by decide) rfl (fun ls hl => ?_)
  have hl : lv_has ls 1 [(0, .int x_4)] := hl
  refine lv_iload_n S.1 S.2.1 dJ6_bitCount_41 rfl (lv_at hl 0 rfl) ?_
  refine lv_iload_n S.1 S.2.1 dJ6_bitCount_42 rfl (lv_at hl 0 rfl) ?_
  refine lv_bipush (v := 16) S.1 S.2.1 dJ6_bitCount_43 (by decide) ?_
  refine lv_iushr (v := kv_us x_4 16) S.1 S.2.1 dJ6_bitCount_45 rfl ?_
  refine lv_iadd S.1 S.2.1 dJ6_bitCount_46 ?_
  refine lv_topi (fun x_5 ex_5 => ?_)
  refine lv_istore_n S.1 S.2.1 dJ6_bitCount_47 rfl hl (by decide) rfl (fun ls hl => ?_)
  have hl : lv_has ls 1 [(0, .int x_5)] := hl
  refine lv_iload_n S.1 S.2.1 dJ6_bitCount_48 rfl (lv_at hl 0 rfl) ?_
  refine lv_bipush (v := 63) S.1 S.2.1 dJ6_bitCount_49 (by decide) ?_
  refine lv_iand S.1 S.2.1 dJ6_bitCount_51 ?_
  exact K _ _ _ _ _ _ hB (by subst_vars; rfl) (rfl) dJ6_bitCount_52
end
section
abbrev kr_VO_slotPlace : Room := { frames := 0, cells := 0, slots := 0, locals := 0 }
set_option maxRecDepth 100000 in
set_option maxHeartbeats 4000000 in
theorem kc_VO_slotPlace (l : Launch) (D : va_G) (k : Nat) : kv_I (fun _ => True) l yX3_slotPlace wsX3_slotPlace kr_VO_slotPlace D [] [.int (nI k)] [] (nI (4 + 8 * k)) [] := by
  refine kv_openI (cc := cX3_slotPlace) (maxL := 1) (rt := .int) (by decide) rfl (rfl) (Nat.le_of_ble_eq_true rfl) ?_
  intro p e s m args below meth c A H locs ls Q S hl hB K
  have hl : lv_has ls 1 [(0, .int (nI k))] := hl
  refine lv_iconst (v := 4) S.1 S.2.1 dX3_slotPlace_0 (by decide) ?_
  refine lv_bipush (v := 8) S.1 S.2.1 dX3_slotPlace_1 (by decide) ?_
  refine lv_iload_n S.1 S.2.1 dX3_slotPlace_3 rfl (lv_at hl 0 rfl) ?_
  refine lv_imul S.1 S.2.1 dX3_slotPlace_4 ?_
  refine kv_top (y := nI (8 * k)) (pk_mul 8 k) ?_
  refine lv_iadd S.1 S.2.1 dX3_slotPlace_5 ?_
  refine kv_top (y := nI (4 + (8 * k))) (nI_add 4 (8 * k)) ?_
  exact K _ _ _ _ _ _ hB (rfl) (rfl) dX3_slotPlace_6

abbrev kr_VO_sectorPlace : Room := { frames := 0, cells := 0, slots := 0, locals := 0 }
set_option maxRecDepth 100000 in
set_option maxHeartbeats 4000000 in
theorem kc_VO_sectorPlace (l : Launch) (D : va_G) (k : Nat) : kv_I (fun _ => True) l yX3_sectorPlace wsX3_sectorPlace kr_VO_sectorPlace D [] [.int (nI k)] [] (nI (48 + 4 * k)) [] := by
  refine kv_openI (cc := cX3_sectorPlace) (maxL := 1) (rt := .int) (by decide) rfl (rfl) (Nat.le_of_ble_eq_true rfl) ?_
  intro p e s m args below meth c A H locs ls Q S hl hB K
  have hl : lv_has ls 1 [(0, .int (nI k))] := hl
  refine lv_bipush (v := 48) S.1 S.2.1 dX3_sectorPlace_0 (by decide) ?_
  refine lv_iconst (v := 4) S.1 S.2.1 dX3_sectorPlace_2 (by decide) ?_
  refine lv_iload_n S.1 S.2.1 dX3_sectorPlace_3 rfl (lv_at hl 0 rfl) ?_
  refine lv_imul S.1 S.2.1 dX3_sectorPlace_4 ?_
  refine kv_top (y := nI (4 * k)) (pk_mul 4 k) ?_
  refine lv_iadd S.1 S.2.1 dX3_sectorPlace_5 ?_
  refine kv_top (y := nI (48 + (4 * k))) (nI_add 48 (4 * k)) ?_
  exact K _ _ _ _ _ _ hB (rfl) (rfl) dX3_sectorPlace_6

abbrev kr_VO_holdNoKeys : Room := { frames := 0, cells := 0, slots := 0, locals := 0 }
set_option maxRecDepth 100000 in
set_option maxHeartbeats 4000000 in
theorem kc_VO_holdNoKeys (l : Launch) (N : State → Prop) (hN : kv_Mv N) (D : va_G) (cA : ClassId) (h d w r : Nat) (σ : kp_S) (g : Nat → Int32) (dv dk pk : Int32) (x : Int32) : kv_V N l yX3_holdNoKeys wsX3_holdNoKeys kr_VO_holdNoKeys D [(cA, .int)] [.ref h, .int x] (vo_W h d w r cA σ g dv dk pk)  (vo_W h d w r cA σ g x 0 0) := by
  refine kv_openV (cc := cX3_holdNoKeys) (maxL := 2) (by decide) rfl (Nat.le_of_ble_eq_true rfl) ?_
  intro p e s m args below meth c A H locs ls Q S hl hB K
  have hl : lv_has ls 2 [(0, .ref h), (1, .int x)] := hl
  refine lv_aload_n S.1 S.2.1 dX3_holdNoKeys_0 rfl (lv_at hl 0 rfl) ?_
  refine lv_iload_n S.1 S.2.1 dX3_holdNoKeys_1 rfl (lv_at hl 1 rfl) ?_
  refine kv_put (C := RX3) (T := TX3) (M := 5) (ci := 1) (v := x) S hB (kn_c kn_iX3) tyX3 tyX3_ok nmX3 0 rfl rfl 2 (by decide) (List.mem_cons_of_mem _ kn_31) rfl rfl rfl (Nat.le_of_ble_eq_true rfl) dX3_holdNoKeys_2 (fun H locs hB => ?_)
  have hB : kv_B N D [(cA, .int)] A s (vo_W h d w r cA σ g x dk pk) H locs := hB
  refine lv_aload_n S.1 S.2.1 dX3_holdNoKeys_5 rfl (lv_at hl 0 rfl) ?_
  refine lv_iconst (v := 0) S.1 S.2.1 dX3_holdNoKeys_6 (by decide) ?_
  refine kv_put (C := RX3) (T := TX3) (M := 5) (ci := 1) (v := 0) S hB (kn_c kn_iX3) tyX3 tyX3_ok nmX3 0 rfl rfl 3 (by decide) (List.mem_cons_of_mem _ kn_32) rfl rfl rfl (Nat.le_of_ble_eq_true rfl) dX3_holdNoKeys_7 (fun H locs hB => ?_)
  have hB : kv_B N D [(cA, .int)] A s (vo_W h d w r cA σ g x 0 pk) H locs := hB
  refine lv_aload_n S.1 S.2.1 dX3_holdNoKeys_10 rfl (lv_at hl 0 rfl) ?_
  refine lv_iconst (v := 0) S.1 S.2.1 dX3_holdNoKeys_11 (by decide) ?_
  refine kv_put (C := RX3) (T := TX3) (M := 5) (ci := 1) (v := 0) S hB (kn_c kn_iX3) tyX3 tyX3_ok nmX3 0 rfl rfl 4 (by decide) (List.mem_cons_of_mem _ kn_33) rfl rfl rfl (Nat.le_of_ble_eq_true rfl) dX3_holdNoKeys_12 (fun H locs hB => ?_)
  have hB : kv_B N D [(cA, .int)] A s (vo_W h d w r cA σ g x 0 0) H locs := hB
  exact K _ _ _ _ _ hB (rfl) dX3_holdNoKeys_15

abbrev kr_VO_powerLost : Room := { frames := 1, cells := 0, slots := 0, locals := 21 }
set_option maxRecDepth 100000 in
set_option maxHeartbeats 4000000 in
theorem kc_VO_powerLost (l : Launch) (N : State → Prop) (hN : kv_Mv N) (D : va_G) (cA : ClassId) (h d w r : Nat) (σ : kp_S) (g : Nat → Int32) (dv dk pk : Int32) : kv_I N l yX3_powerLost wsX3_powerLost kr_VO_powerLost D [(cA, .int)] [.ref h] (vo_W h d w r cA σ g dv dk pk) (-1) (vo_W h d w r cA σ g 0 0 0) := by
  refine kv_openI (cc := cX3_powerLost) (maxL := 1) (rt := .int) (by decide) rfl (rfl) (Nat.le_of_ble_eq_true rfl) ?_
  intro p e s m args below meth c A H locs ls Q S hl hB K
  have hl : lv_has ls 1 [(0, .ref h)] := hl
  refine lv_aload_n S.1 S.2.1 dX3_powerLost_0 rfl (lv_at hl 0 rfl) ?_
  refine lv_iconst (v := 0) S.1 S.2.1 dX3_powerLost_1 (by decide) ?_
  refine kv_vV (As := [.int 0]) (rest := []) hN S (kc_VO_holdNoKeys l N hN D cA h d w r σ g dv dk pk 0  ) (kn_cV (C := RX3) S kn_107 kn_108 kn_395 kn_1 kn_109 rfl kd_X3_holdNoKeys rfl rfl ⟨Nat.le_of_ble_eq_true rfl, Nat.le_of_ble_eq_true rfl⟩) hB 0 rfl rfl rfl hl.1 rfl (Nat.le_of_ble_eq_true rfl) dX3_powerLost_2 ⟨Nat.zero_le _, Nat.zero_le _⟩ (fun H locs hB => ?_)
  have hB : kv_B N D [(cA, .int)] A s (vo_W h d w r cA σ g 0 0 0) H locs := hB
  refine lv_iconst (v := (-1)) S.1 S.2.1 dX3_powerLost_5 (by decide) ?_
  exact K _ _ _ _ _ _ hB (rfl) (rfl) dX3_powerLost_6

abbrev kr_VO_refusalUnlessOpen : Room := { frames := 0, cells := 0, slots := 0, locals := 0 }
set_option maxRecDepth 100000 in
set_option maxHeartbeats 4000000 in
theorem kc_VO_refusalUnlessOpen (l : Launch) (N : State → Prop) (hN : kv_Mv N) (D : va_G) (cA : ClassId) (h d w r : Nat) (σ : kp_S) (g : Nat → Int32) (dv dk pk : Int32) : kv_I N l yX3_refusalUnlessOpen wsX3_refusalUnlessOpen kr_VO_refusalUnlessOpen D [(cA, .int)] [.ref h] (vo_W h d w r cA σ g dv dk pk) (kp_ro dv) (vo_W h d w r cA σ g dv dk pk) := by
  refine kv_openI (cc := cX3_refusalUnlessOpen) (maxL := 1) (rt := .int) (by decide) rfl (rfl) (Nat.le_of_ble_eq_true rfl) ?_
  intro p e s m args below meth c A H locs ls Q S hl hB K
  have hl : lv_has ls 1 [(0, .ref h)] := hl
  refine lv_aload_n S.1 S.2.1 dX3_refusalUnlessOpen_0 rfl (lv_at hl 0 rfl) ?_
  refine kv_get (C := RX3) (T := TX3) (M := 5) (ci := 1) S hB (kn_c kn_iX3) 0 rfl rfl 2 (by decide) (List.mem_cons_of_mem _ kn_31) rfl rfl dX3_refusalUnlessOpen_1 ?_
  refine lv_if_ne (tgt := 10) S.1 S.2.1 dX3_refusalUnlessOpen_4 (by decide) (fun h_4 => ?_) (fun h_4 => ?_)
  · skip
    refine lv_aload_n S.1 S.2.1 dX3_refusalUnlessOpen_10 rfl (lv_at hl 0 rfl) ?_
    refine kv_get (C := RX3) (T := TX3) (M := 5) (ci := 1) S hB (kn_c kn_iX3) 0 rfl rfl 2 (by decide) (List.mem_cons_of_mem _ kn_31) rfl rfl dX3_refusalUnlessOpen_11 ?_
    refine lv_iconst (v := 1) S.1 S.2.1 dX3_refusalUnlessOpen_14 (by decide) ?_
    refine lv_icmp_ne (tgt := 23) S.1 S.2.1 dX3_refusalUnlessOpen_15 (by decide) (fun h_15 => ?_) (fun h_15 => ?_)
    · skip
      refine lv_iconst (v := 0) S.1 S.2.1 dX3_refusalUnlessOpen_23 (by decide) ?_
      exact K _ _ _ _ _ _ hB (by first | rw [kp_ro, if_neg h_4, if_pos h_15] | rw [kp_ro, if_neg h_4, if_neg h_15]) (rfl) dX3_refusalUnlessOpen_24
    · skip
      refine lv_bipush (v := (-4)) S.1 S.2.1 dX3_refusalUnlessOpen_18 (by decide) ?_
      refine lv_goto (tgt := 24) S.1 S.2.1 dX3_refusalUnlessOpen_20 (by decide) ?_
      exact K _ _ _ _ _ _ hB (by first | rw [kp_ro, if_neg h_4, if_pos h_15] | rw [kp_ro, if_neg h_4, if_neg h_15]) (rfl) dX3_refusalUnlessOpen_24
  · skip
    refine lv_bipush (v := (-2)) S.1 S.2.1 dX3_refusalUnlessOpen_7 (by decide) ?_
    exact K _ _ _ _ _ _ hB (by rw [kp_ro, if_pos h_4]) (rfl) dX3_refusalUnlessOpen_9

abbrev kr_VO_isActive : Room := { frames := 1, cells := 0, slots := 0, locals := 21 }
set_option maxRecDepth 100000 in
set_option maxHeartbeats 4000000 in
theorem kc_VO_isActive (l : Launch) (N : State → Prop) (hN : kv_Mv N) (D : va_G) (cA : ClassId) (h d w r : Nat) (σ : kp_S) (g : Nat → Int32) (dv dk pk : Int32) (k : Nat) (hk : k < 4) : kv_I N l yX3_isActive wsX3_isActive kr_VO_isActive D [(cA, .int)] [.ref h, .int (nI k)] (vo_W h d w r cA σ g dv dk pk) (kp_ac σ.1 k) (vo_W h d w r cA σ g dv dk pk) := by
  refine kv_openI (cc := cX3_isActive) (maxL := 2) (rt := .boolean) (by decide) rfl (kp_ac_z _ _) (Nat.le_of_ble_eq_true rfl) ?_
  intro p e s m args below meth c A H locs ls Q S hl hB K
  have hl : lv_has ls 2 [(0, .ref h), (1, .int (nI k))] := hl
  refine lv_aload_n S.1 S.2.1 dX3_isActive_0 rfl (lv_at hl 0 rfl) ?_
  refine kv_get (C := RX3) (T := TX3) (M := 5) (ci := 1) S hB (kn_c kn_iX3) 0 rfl rfl 0 (by decide) (List.mem_cons_of_mem _ kn_29) rfl rfl dX3_isActive_1 ?_
  refine lv_iload_n S.1 S.2.1 dX3_isActive_4 rfl (lv_at hl 1 rfl) ?_
  refine kv_sP (As := [.int (nI k)]) (rest := [.ref d]) S (kc_VO_slotPlace l D k  ) (kn_cS S kn_63 kn_64 kn_1 kn_65 kd_X3_slotPlace rfl rfl ⟨Nat.le_of_ble_eq_true rfl, Nat.le_of_ble_eq_true rfl⟩) hB rfl hl.1 rfl (Nat.le_of_ble_eq_true rfl) dX3_isActive_5 ⟨Nat.zero_le _, Nat.zero_le _⟩ (fun H locs hB => ?_)
  refine kv_vI (As := [.int (nI (4 + 8 * k))]) (rest := []) hN S (kc_DI_wordAtN l N hN D cA h d w r σ g dv dk pk (4 + 8 * k)  (by omega)) (kn_cV (C := RX1) S kn_114 kn_115 kn_116 kn_2 kn_117 rfl kd_X1_wordAt rfl rfl ⟨Nat.le_of_ble_eq_true rfl, Nat.le_of_ble_eq_true rfl⟩) hB 1 rfl rfl rfl hl.1 rfl (Nat.le_of_ble_eq_true rfl) dX3_isActive_8 ⟨Nat.zero_le _, Nat.zero_le _⟩ (fun H locs hB => ?_)
  refine lv_iconst (v := 1) S.1 S.2.1 dX3_isActive_11 (by decide) ?_
  refine lv_icmp_ne (tgt := 19) S.1 S.2.1 dX3_isActive_12 (by decide) (fun h_12 => ?_) (fun h_12 => ?_)
  · skip
    refine lv_iconst (v := 0) S.1 S.2.1 dX3_isActive_19 (by decide) ?_
    exact K _ _ _ _ _ _ hB (by first | rw [kp_ac, if_pos h_12] | rw [kp_ac, if_neg h_12]) (rfl) dX3_isActive_20
  · skip
    refine lv_iconst (v := 1) S.1 S.2.1 dX3_isActive_15 (by decide) ?_
    refine lv_goto (tgt := 20) S.1 S.2.1 dX3_isActive_16 (by decide) ?_
    exact K _ _ _ _ _ _ hB (by first | rw [kp_ac, if_pos h_12] | rw [kp_ac, if_neg h_12]) (rfl) dX3_isActive_20

abbrev kr_VO_slots : Room := { frames := 2, cells := 0, slots := 0, locals := 42 }
set_option maxRecDepth 100000 in
set_option maxHeartbeats 4000000 in
theorem kc_VO_slots (l : Launch) (N : State → Prop) (hN : kv_Mv N) (D : va_G) (cA : ClassId) (h d w r : Nat) (σ : kp_S) (g : Nat → Int32) (dv dk pk : Int32) : kv_I N l yX3_slots wsX3_slots kr_VO_slots D [(cA, .int)] [.ref h] (vo_W h d w r cA σ g dv dk pk) (kp_sm σ.1 4 0 0) (vo_W h d w r cA σ g dv dk pk) := by
  refine kv_openI (cc := cX3_slots) (maxL := 3) (rt := .int) (by decide) rfl (rfl) (Nat.le_of_ble_eq_true rfl) ?_
  intro p e s m args below meth c A H locs ls Q S hl hB K
  have hl : lv_has ls 3 [(0, .ref h)] := hl
  refine lv_iconst (v := 0) S.1 S.2.1 dX3_slots_0 (by decide) ?_
  refine lv_istore_n S.1 S.2.1 dX3_slots_1 rfl hl (by decide) rfl (fun ls hl => ?_)
  have hl : lv_has ls 3 [(1, .int 0), (0, .ref h)] := hl
  refine lv_iconst (v := 0) S.1 S.2.1 dX3_slots_2 (by decide) ?_
  refine lv_istore_n S.1 S.2.1 dX3_slots_3 rfl hl (by decide) rfl (fun ls hl => ?_)
  have hl : lv_has ls 3 [(2, .int 0), (1, .int 0), (0, .ref h)] := hl
  have loop4 : ∀ (n : Nat) (k : Nat) (t : Int32) (H : Heap) (locs : List Loc) (ls : Array Slot), (k + n = 4) → (kp_sm σ.1 n k t = kp_sm σ.1 4 0 0) → lv_has ls 3 [(2, .int (nI k)), (1, .int t), (0, .ref h)] → kv_B N D [(cA, .int)] A s (vo_W h d w r cA σ g dv dk pk) H locs → W p l e kr_VO_slots s m args below meth c H locs 0 0 Q (F0 m 4 ls []) := by
    intro n
    induction n with
    | zero =>
      intro k t H locs ls hk hT hl hB
      refine lv_iload_n S.1 S.2.1 dX3_slots_4 rfl (lv_at hl 0 rfl) ?_
      refine lv_iconst (v := 4) S.1 S.2.1 dX3_slots_5 (by decide) ?_
      refine kv_bge (x := k) (y := 4) (tgt := 29) S (by omega) (by omega) dX3_slots_6 (by decide) (fun h_6 => ?_) (fun h => absurd h (by omega))
      refine lv_iload_n S.1 S.2.1 dX3_slots_29 rfl (lv_at hl 1 rfl) ?_
      exact K _ _ _ _ _ _ hB (hT) (rfl) dX3_slots_30
    | succ n ih4 =>
      intro k t H locs ls hk hT hl hB
      refine lv_iload_n S.1 S.2.1 dX3_slots_4 rfl (lv_at hl 0 rfl) ?_
      refine lv_iconst (v := 4) S.1 S.2.1 dX3_slots_5 (by decide) ?_
      refine kv_bge (x := k) (y := 4) (tgt := 29) S (by omega) (by omega) dX3_slots_6 (by decide) (fun h => absurd h (by omega)) (fun h_6 => ?_)
      refine lv_aload_n S.1 S.2.1 dX3_slots_9 rfl (lv_at hl 2 rfl) ?_
      refine lv_iload_n S.1 S.2.1 dX3_slots_10 rfl (lv_at hl 0 rfl) ?_
      refine kv_vI (As := [.int (nI k)]) (rest := []) hN S (kc_VO_isActive l N hN D cA h d w r σ g dv dk pk k  (by omega)) (kn_cV (C := RX3) S kn_137 kn_138 kn_399 kn_1 kn_139 rfl kd_X3_isActive rfl rfl ⟨Nat.le_of_ble_eq_true rfl, Nat.le_of_ble_eq_true rfl⟩) hB 0 rfl rfl rfl hl.1 rfl (Nat.le_of_ble_eq_true rfl) dX3_slots_11 ⟨Nat.zero_le _, Nat.zero_le _⟩ (fun H locs hB => ?_)
      refine lv_if_eq (tgt := 23) S.1 S.2.1 dX3_slots_14 (by decide) (fun h_14 => ?_) (fun h_14 => ?_)
      · skip
        refine lv_iinc (k := 0) (v := nI (k + 1)) S.1 S.2.1 dX3_slots_23 hl rfl (nI_1 k) (by decide) rfl (fun ls hl => ?_)
        have hl : lv_has ls 3 [(2, .int (nI (k + 1))), (1, .int t), (0, .ref h)] := hl
        refine lv_goto (tgt := 4) S.1 S.2.1 dX3_slots_26 (by decide) ?_
        exact ih4 (k + 1) t _ _ _ (by omega) (by rw [← hT, kp_sm, if_pos h_14, Int32.add_zero]) (lv_sub hl [0, 1, 2] rfl) hB
      · skip
        refine lv_iload_n S.1 S.2.1 dX3_slots_17 rfl (lv_at hl 1 rfl) ?_
        refine lv_iconst (v := 1) S.1 S.2.1 dX3_slots_18 (by decide) ?_
        refine lv_iload_n S.1 S.2.1 dX3_slots_19 rfl (lv_at hl 0 rfl) ?_
        refine lv_ishl S.1 S.2.1 dX3_slots_20 ?_
        refine lv_iadd S.1 S.2.1 dX3_slots_21 ?_
        refine lv_topi (fun x_1 ex_1 => ?_)
        refine lv_istore_n S.1 S.2.1 dX3_slots_22 rfl hl (by decide) rfl (fun ls hl => ?_)
        have hl : lv_has ls 3 [(1, .int x_1), (2, .int (nI k)), (0, .ref h)] := hl
        refine lv_iinc (k := 1) (v := nI (k + 1)) S.1 S.2.1 dX3_slots_23 hl rfl (nI_1 k) (by decide) rfl (fun ls hl => ?_)
        have hl : lv_has ls 3 [(2, .int (nI (k + 1))), (1, .int x_1), (0, .ref h)] := hl
        refine lv_goto (tgt := 4) S.1 S.2.1 dX3_slots_26 (by decide) ?_
        exact ih4 (k + 1) x_1 _ _ _ (by omega) (by rw [← hT, ex_1, kp_sm, if_neg h_14]) (lv_sub hl [0, 1, 2] rfl) hB
  exact loop4 4 0 0 _ _ _ (rfl) (rfl) (lv_sub hl [0, 1, 2] rfl) hB

abbrev kr_VO_activeSlots : Room := { frames := 3, cells := 0, slots := 0, locals := 64 }
set_option maxRecDepth 100000 in
set_option maxHeartbeats 4000000 in
theorem kc_VO_activeSlots (l : Launch) (N : State → Prop) (hN : kv_Mv N) (D : va_G) (cA : ClassId) (h d w r : Nat) (σ : kp_S) (g : Nat → Int32) (dv dk pk : Int32) : kv_I N l yX3_activeSlots wsX3_activeSlots kr_VO_activeSlots D [(cA, .int)] [.ref h] (vo_W h d w r cA σ g dv dk pk) (kp_bc (kp_sm σ.1 4 0 0)) (vo_W h d w r cA σ g dv dk pk) := by
  refine kv_openI (cc := cX3_activeSlots) (maxL := 1) (rt := .int) (by decide) rfl (rfl) (Nat.le_of_ble_eq_true rfl) ?_
  intro p e s m args below meth c A H locs ls Q S hl hB K
  have hl : lv_has ls 1 [(0, .ref h)] := hl
  refine lv_aload_n S.1 S.2.1 dX3_activeSlots_0 rfl (lv_at hl 0 rfl) ?_
  refine kv_vI (As := []) (rest := []) hN S (kc_VO_slots l N hN D cA h d w r σ g dv dk pk   ) (kn_cV (C := RX3) S kn_133 kn_134 kn_135 kn_1 kn_136 rfl kd_X3_slots rfl rfl ⟨Nat.le_of_ble_eq_true rfl, Nat.le_of_ble_eq_true rfl⟩) hB 0 rfl rfl rfl hl.1 rfl (Nat.le_of_ble_eq_true rfl) dX3_activeSlots_1 ⟨Nat.zero_le _, Nat.zero_le _⟩ (fun H locs hB => ?_)
  refine kv_sP (As := [.int (kp_sm σ.1 4 0 0)]) (rest := []) S (kc_IN_bitCount l D (kp_sm σ.1 4 0 0)  ) (kn_cS S kn_140 kn_141 kn_7 kn_142 kd_J6_bitCount rfl rfl ⟨Nat.le_of_ble_eq_true rfl, Nat.le_of_ble_eq_true rfl⟩) hB rfl hl.1 rfl (Nat.le_of_ble_eq_true rfl) dX3_activeSlots_4 ⟨Nat.zero_le _, Nat.zero_le _⟩ (fun H locs hB => ?_)
  exact K _ _ _ _ _ _ hB (rfl) (rfl) dX3_activeSlots_7

abbrev kr_VO_leastFreeSlot : Room := { frames := 2, cells := 0, slots := 0, locals := 42 }
set_option maxRecDepth 100000 in
set_option maxHeartbeats 4000000 in
theorem kc_VO_leastFreeSlot (l : Launch) (N : State → Prop) (hN : kv_Mv N) (D : va_G) (cA : ClassId) (h d w r : Nat) (σ : kp_S) (g : Nat → Int32) (dv dk pk : Int32) : kv_I N l yX3_leastFreeSlot wsX3_leastFreeSlot kr_VO_leastFreeSlot D [(cA, .int)] [.ref h] (vo_W h d w r cA σ g dv dk pk) (nI (kp_lf σ.1 4 0)) (vo_W h d w r cA σ g dv dk pk) := by
  refine kv_openI (cc := cX3_leastFreeSlot) (maxL := 2) (rt := .int) (by decide) rfl (rfl) (Nat.le_of_ble_eq_true rfl) ?_
  intro p e s m args below meth c A H locs ls Q S hl hB K
  have hl : lv_has ls 2 [(0, .ref h)] := hl
  refine lv_iconst (v := 0) S.1 S.2.1 dX3_leastFreeSlot_0 (by decide) ?_
  refine lv_istore_n S.1 S.2.1 dX3_leastFreeSlot_1 rfl hl (by decide) rfl (fun ls hl => ?_)
  have hl : lv_has ls 2 [(1, .int 0), (0, .ref h)] := hl
  have loop2 : ∀ (n : Nat) (k : Nat) (H : Heap) (locs : List Loc) (ls : Array Slot), (k + n = 4) → (kp_lf σ.1 n k = kp_lf σ.1 4 0) → lv_has ls 2 [(1, .int (nI k)), (0, .ref h)] → kv_B N D [(cA, .int)] A s (vo_W h d w r cA σ g dv dk pk) H locs → W p l e kr_VO_leastFreeSlot s m args below meth c H locs 0 0 Q (F0 m 2 ls []) := by
    intro n
    induction n with
    | zero =>
      intro k H locs ls hk hT hl hB
      refine lv_iload_n S.1 S.2.1 dX3_leastFreeSlot_2 rfl (lv_at hl 0 rfl) ?_
      refine lv_iconst (v := 4) S.1 S.2.1 dX3_leastFreeSlot_3 (by decide) ?_
      refine kv_bge (x := k) (y := 4) (tgt := 21) S (by omega) (by omega) dX3_leastFreeSlot_4 (by decide) (fun h_4 => ?_) (fun h => absurd h (by omega))
      refine lv_iload_n S.1 S.2.1 dX3_leastFreeSlot_21 rfl (lv_at hl 0 rfl) ?_
      exact K _ _ _ _ _ _ hB (by first | (rw [← hT, kp_lf, if_pos h_12]) | (rw [← hT]; rfl)) (rfl) dX3_leastFreeSlot_22
    | succ n ih2 =>
      intro k H locs ls hk hT hl hB
      refine lv_iload_n S.1 S.2.1 dX3_leastFreeSlot_2 rfl (lv_at hl 0 rfl) ?_
      refine lv_iconst (v := 4) S.1 S.2.1 dX3_leastFreeSlot_3 (by decide) ?_
      refine kv_bge (x := k) (y := 4) (tgt := 21) S (by omega) (by omega) dX3_leastFreeSlot_4 (by decide) (fun h => absurd h (by omega)) (fun h_4 => ?_)
      refine lv_aload_n S.1 S.2.1 dX3_leastFreeSlot_7 rfl (lv_at hl 1 rfl) ?_
      refine lv_iload_n S.1 S.2.1 dX3_leastFreeSlot_8 rfl (lv_at hl 0 rfl) ?_
      refine kv_vI (As := [.int (nI k)]) (rest := []) hN S (kc_VO_isActive l N hN D cA h d w r σ g dv dk pk k  (by omega)) (kn_cV (C := RX3) S kn_137 kn_138 kn_399 kn_1 kn_139 rfl kd_X3_isActive rfl rfl ⟨Nat.le_of_ble_eq_true rfl, Nat.le_of_ble_eq_true rfl⟩) hB 0 rfl rfl rfl hl.1 rfl (Nat.le_of_ble_eq_true rfl) dX3_leastFreeSlot_9 ⟨Nat.zero_le _, Nat.zero_le _⟩ (fun H locs hB => ?_)
      refine lv_if_eq (tgt := 21) S.1 S.2.1 dX3_leastFreeSlot_12 (by decide) (fun h_12 => ?_) (fun h_12 => ?_)
      · skip
        refine lv_iload_n S.1 S.2.1 dX3_leastFreeSlot_21 rfl (lv_at hl 0 rfl) ?_
        exact K _ _ _ _ _ _ hB (by first | (rw [← hT, kp_lf, if_pos h_12]) | (rw [← hT]; rfl)) (rfl) dX3_leastFreeSlot_22
      · skip
        refine lv_iinc (k := 0) (v := nI (k + 1)) S.1 S.2.1 dX3_leastFreeSlot_15 hl rfl (nI_1 k) (by decide) rfl (fun ls hl => ?_)
        have hl : lv_has ls 2 [(1, .int (nI (k + 1))), (0, .ref h)] := hl
        refine lv_goto (tgt := 2) S.1 S.2.1 dX3_leastFreeSlot_18 (by decide) ?_
        exact ih2 (k + 1) _ _ _ (by omega) (by rw [← hT, kp_lf, if_neg h_12]) (lv_sub hl [0, 1] rfl) hB
  exact loop2 4 0 _ _ _ (rfl) (rfl) (lv_sub hl [0, 1] rfl) hB

abbrev kr_VO_refusalOfSlot : Room := { frames := 2, cells := 0, slots := 0, locals := 42 }
set_option maxRecDepth 100000 in
set_option maxHeartbeats 4000000 in
theorem kc_VO_refusalOfSlot (l : Launch) (N : State → Prop) (hN : kv_Mv N) (D : va_G) (cA : ClassId) (h d w r : Nat) (σ : kp_S) (g : Nat → Int32) (dv dk pk : Int32) (x : Int32) : kv_I N l yX3_refusalOfSlot wsX3_refusalOfSlot kr_VO_refusalOfSlot D [(cA, .int)] [.ref h, .int x] (vo_W h d w r cA σ g dv dk pk) (kp_rs σ.1 dv x) (vo_W h d w r cA σ g dv dk pk) := by
  refine kv_openI (cc := cX3_refusalOfSlot) (maxL := 3) (rt := .int) (by decide) rfl (rfl) (Nat.le_of_ble_eq_true rfl) ?_
  intro p e s m args below meth c A H locs ls Q S hl hB K
  have hl : lv_has ls 3 [(0, .ref h), (1, .int x)] := hl
  refine lv_aload_n S.1 S.2.1 dX3_refusalOfSlot_0 rfl (lv_at hl 0 rfl) ?_
  refine kv_vI (As := []) (rest := []) hN S (kc_VO_refusalUnlessOpen l N hN D cA h d w r σ g dv dk pk   ) (kn_cV (C := RX3) S kn_168 kn_169 kn_401 kn_1 kn_170 rfl kd_X3_refusalUnlessOpen rfl rfl ⟨Nat.le_of_ble_eq_true rfl, Nat.le_of_ble_eq_true rfl⟩) hB 0 rfl rfl rfl hl.1 rfl (Nat.le_of_ble_eq_true rfl) dX3_refusalOfSlot_1 ⟨Nat.zero_le _, Nat.zero_le _⟩ (fun H locs hB => ?_)
  refine lv_topi (fun x_1 ex_1 => ?_)
  refine lv_istore_n S.1 S.2.1 dX3_refusalOfSlot_4 rfl hl (by decide) rfl (fun ls hl => ?_)
  have hl : lv_has ls 3 [(2, .int x_1), (0, .ref h), (1, .int x)] := hl
  refine lv_iload_n S.1 S.2.1 dX3_refusalOfSlot_5 rfl (lv_at hl 0 rfl) ?_
  refine lv_if_eq (tgt := 11) S.1 S.2.1 dX3_refusalOfSlot_6 (by decide) (fun h_6 => ?_) (fun h_6 => ?_)
  · skip
    have h_6 : kp_ro dv = 0 := by rw [← ex_1]; exact h_6
    refine lv_iload_n S.1 S.2.1 dX3_refusalOfSlot_11 rfl (lv_at hl 2 rfl) ?_
    refine lv_if_lt (tgt := 20) S.1 S.2.1 dX3_refusalOfSlot_12 (by decide) (fun h_12 => ?_) (fun h_12 => ?_)
    · skip
      refine lv_bipush (v := (-5)) S.1 S.2.1 dX3_refusalOfSlot_20 (by decide) ?_
      exact K _ _ _ _ _ _ hB (by first | rw [kp_rs, if_pos h_6, if_pos h_12] | rw [kp_rs, if_pos h_6, if_neg h_12, if_neg h_17]) (rfl) dX3_refusalOfSlot_22
    · skip
      refine lv_iload_n S.1 S.2.1 dX3_refusalOfSlot_15 rfl (lv_at hl 2 rfl) ?_
      refine lv_iconst (v := 4) S.1 S.2.1 dX3_refusalOfSlot_16 (by decide) ?_
      refine lv_icmp_lt (tgt := 23) S.1 S.2.1 dX3_refusalOfSlot_17 (by decide) (fun h_17 => ?_) (fun h_17 => ?_)
      · skip
        obtain ⟨j, hj, rfl⟩ := kp_ix4 h_12 h_17
        refine lv_aload_n S.1 S.2.1 dX3_refusalOfSlot_23 rfl (lv_at hl 1 rfl) ?_
        refine lv_iload_n S.1 S.2.1 dX3_refusalOfSlot_24 rfl (lv_at hl 2 rfl) ?_
        refine kv_vI (As := [.int (nI j)]) (rest := []) hN S (kc_VO_isActive l N hN D cA h d w r σ g dv dk pk j  (by omega)) (kn_cV (C := RX3) S kn_137 kn_138 kn_399 kn_1 kn_139 rfl kd_X3_isActive rfl rfl ⟨Nat.le_of_ble_eq_true rfl, Nat.le_of_ble_eq_true rfl⟩) hB 0 rfl rfl rfl hl.1 rfl (Nat.le_of_ble_eq_true rfl) dX3_refusalOfSlot_25 ⟨Nat.zero_le _, Nat.zero_le _⟩ (fun H locs hB => ?_)
        refine lv_if_eq (tgt := 35) S.1 S.2.1 dX3_refusalOfSlot_28 (by decide) (fun h_28 => ?_) (fun h_28 => ?_)
        · skip
          refine lv_bipush (v := (-6)) S.1 S.2.1 dX3_refusalOfSlot_35 (by decide) ?_
          exact K _ _ _ _ _ _ hB (by first | rw [kp_rs, if_pos h_6, if_neg h_12, if_pos h_17, nI_clamp (by omega), if_pos h_28] | rw [kp_rs, if_pos h_6, if_neg h_12, if_pos h_17, nI_clamp (by omega), if_neg h_28]) (rfl) dX3_refusalOfSlot_37
        · skip
          refine lv_iconst (v := 0) S.1 S.2.1 dX3_refusalOfSlot_31 (by decide) ?_
          refine lv_goto (tgt := 37) S.1 S.2.1 dX3_refusalOfSlot_32 (by decide) ?_
          exact K _ _ _ _ _ _ hB (by first | rw [kp_rs, if_pos h_6, if_neg h_12, if_pos h_17, nI_clamp (by omega), if_pos h_28] | rw [kp_rs, if_pos h_6, if_neg h_12, if_pos h_17, nI_clamp (by omega), if_neg h_28]) (rfl) dX3_refusalOfSlot_37
      · skip
        refine lv_bipush (v := (-5)) S.1 S.2.1 dX3_refusalOfSlot_20 (by decide) ?_
        exact K _ _ _ _ _ _ hB (by first | rw [kp_rs, if_pos h_6, if_pos h_12] | rw [kp_rs, if_pos h_6, if_neg h_12, if_neg h_17]) (rfl) dX3_refusalOfSlot_22
  · skip
    have h_6 : ¬ kp_ro dv = 0 := by rw [← ex_1]; exact h_6
    refine lv_iload_n S.1 S.2.1 dX3_refusalOfSlot_9 rfl (lv_at hl 0 rfl) ?_
    exact K _ _ _ _ _ _ hB (by rw [kp_rs, if_neg h_6, ex_1]) (rfl) dX3_refusalOfSlot_10

abbrev kr_VO_refusalOfWord : Room := { frames := 1, cells := 0, slots := 0, locals := 20 }
set_option maxRecDepth 100000 in
set_option maxHeartbeats 4000000 in
theorem kc_VO_refusalOfWord (l : Launch) (N : State → Prop) (hN : kv_Mv N) (D : va_G) (cA : ClassId) (h d w r : Nat) (σ : kp_S) (g : Nat → Int32) (dv dk pk : Int32) (x : Int32) (y : Int32) : kv_I N l yX3_refusalOfWord wsX3_refusalOfWord kr_VO_refusalOfWord D [(cA, .int)] [.ref h, .int x, .int y] (vo_W h d w r cA σ g dv dk pk) (kp_rw dv x y) (vo_W h d w r cA σ g dv dk pk) := by
  refine kv_openI (cc := cX3_refusalOfWord) (maxL := 5) (rt := .int) (by decide) rfl (rfl) (Nat.le_of_ble_eq_true rfl) ?_
  intro p e s m args below meth c A H locs ls Q S hl hB K
  have hl : lv_has ls 5 [(0, .ref h), (1, .int x), (2, .int y)] := hl
  refine lv_aload_n S.1 S.2.1 dX3_refusalOfWord_0 rfl (lv_at hl 0 rfl) ?_
  refine kv_vI (As := []) (rest := []) hN S (kc_VO_refusalUnlessOpen l N hN D cA h d w r σ g dv dk pk   ) (kn_cV (C := RX3) S kn_168 kn_169 kn_401 kn_1 kn_170 rfl kd_X3_refusalUnlessOpen rfl rfl ⟨Nat.le_of_ble_eq_true rfl, Nat.le_of_ble_eq_true rfl⟩) hB 0 rfl rfl rfl hl.1 rfl (Nat.le_of_ble_eq_true rfl) dX3_refusalOfWord_1 ⟨Nat.zero_le _, Nat.zero_le _⟩ (fun H locs hB => ?_)
  refine lv_topi (fun x_1 ex_1 => ?_)
  refine lv_istore_n S.1 S.2.1 dX3_refusalOfWord_4 rfl hl (by decide) rfl (fun ls hl => ?_)
  have hl : lv_has ls 5 [(3, .int x_1), (0, .ref h), (1, .int x), (2, .int y)] := hl
  refine lv_iload_n S.1 S.2.1 dX3_refusalOfWord_5 rfl (lv_at hl 0 rfl) ?_
  refine lv_if_eq (tgt := 11) S.1 S.2.1 dX3_refusalOfWord_6 (by decide) (fun h_6 => ?_) (fun h_6 => ?_)
  · skip
    have h_6 : kp_ro dv = 0 := by rw [← ex_1]; exact h_6
    refine lv_iload_n S.1 S.2.1 dX3_refusalOfWord_11 rfl (lv_at hl 2 rfl) ?_
    refine lv_if_lt (tgt := 34) S.1 S.2.1 dX3_refusalOfWord_12 (by decide) (fun h_12 => ?_) (fun h_12 => ?_)
    · skip
      refine lv_iconst (v := 0) S.1 S.2.1 dX3_refusalOfWord_34 (by decide) ?_
      refine lv_istore S.1 S.2.1 dX3_refusalOfWord_35 hl (by decide) rfl (fun ls hl => ?_)
      have hl : lv_has ls 5 [(4, .int 0), (3, .int x_1), (0, .ref h), (1, .int x), (2, .int y)] := hl
      refine lv_iload S.1 S.2.1 dX3_refusalOfWord_37 (lv_at hl 0 rfl) ?_
      refine lv_if_eq (tgt := 46) S.1 S.2.1 dX3_refusalOfWord_39 (by decide) (fun h_39 => ?_) (fun h => absurd h (by decide))
      refine lv_bipush (v := (-5)) S.1 S.2.1 dX3_refusalOfWord_46 (by decide) ?_
      exact K _ _ _ _ _ _ hB (by first | rw [kp_rw, if_pos h_6, if_pos h_12] | rw [kp_rw, if_pos h_6, if_neg h_12, if_pos h_18] | rw [kp_rw, if_pos h_6, if_neg h_12, if_neg h_18, if_pos h_22] | rw [kp_rw, if_pos h_6, if_neg h_12, if_neg h_18, if_neg h_22, if_pos h_27] | rw [kp_rw, if_pos h_6, if_neg h_12, if_neg h_18, if_neg h_22, if_neg h_27]) (rfl) dX3_refusalOfWord_48
    · skip
      refine lv_iload_n S.1 S.2.1 dX3_refusalOfWord_15 rfl (lv_at hl 2 rfl) ?_
      refine lv_bipush (v := 8) S.1 S.2.1 dX3_refusalOfWord_16 (by decide) ?_
      refine lv_icmp_ge (tgt := 34) S.1 S.2.1 dX3_refusalOfWord_18 (by decide) (fun h_18 => ?_) (fun h_18 => ?_)
      · skip
        refine lv_iconst (v := 0) S.1 S.2.1 dX3_refusalOfWord_34 (by decide) ?_
        refine lv_istore S.1 S.2.1 dX3_refusalOfWord_35 hl (by decide) rfl (fun ls hl => ?_)
        have hl : lv_has ls 5 [(4, .int 0), (3, .int x_1), (0, .ref h), (1, .int x), (2, .int y)] := hl
        refine lv_iload S.1 S.2.1 dX3_refusalOfWord_37 (lv_at hl 0 rfl) ?_
        refine lv_if_eq (tgt := 46) S.1 S.2.1 dX3_refusalOfWord_39 (by decide) (fun h_39 => ?_) (fun h => absurd h (by decide))
        refine lv_bipush (v := (-5)) S.1 S.2.1 dX3_refusalOfWord_46 (by decide) ?_
        exact K _ _ _ _ _ _ hB (by first | rw [kp_rw, if_pos h_6, if_pos h_12] | rw [kp_rw, if_pos h_6, if_neg h_12, if_pos h_18] | rw [kp_rw, if_pos h_6, if_neg h_12, if_neg h_18, if_pos h_22] | rw [kp_rw, if_pos h_6, if_neg h_12, if_neg h_18, if_neg h_22, if_pos h_27] | rw [kp_rw, if_pos h_6, if_neg h_12, if_neg h_18, if_neg h_22, if_neg h_27]) (rfl) dX3_refusalOfWord_48
      · skip
        refine lv_iload_n S.1 S.2.1 dX3_refusalOfWord_21 rfl (lv_at hl 3 rfl) ?_
        refine lv_if_lt (tgt := 34) S.1 S.2.1 dX3_refusalOfWord_22 (by decide) (fun h_22 => ?_) (fun h_22 => ?_)
        · skip
          refine lv_iconst (v := 0) S.1 S.2.1 dX3_refusalOfWord_34 (by decide) ?_
          refine lv_istore S.1 S.2.1 dX3_refusalOfWord_35 hl (by decide) rfl (fun ls hl => ?_)
          have hl : lv_has ls 5 [(4, .int 0), (3, .int x_1), (0, .ref h), (1, .int x), (2, .int y)] := hl
          refine lv_iload S.1 S.2.1 dX3_refusalOfWord_37 (lv_at hl 0 rfl) ?_
          refine lv_if_eq (tgt := 46) S.1 S.2.1 dX3_refusalOfWord_39 (by decide) (fun h_39 => ?_) (fun h => absurd h (by decide))
          refine lv_bipush (v := (-5)) S.1 S.2.1 dX3_refusalOfWord_46 (by decide) ?_
          exact K _ _ _ _ _ _ hB (by first | rw [kp_rw, if_pos h_6, if_pos h_12] | rw [kp_rw, if_pos h_6, if_neg h_12, if_pos h_18] | rw [kp_rw, if_pos h_6, if_neg h_12, if_neg h_18, if_pos h_22] | rw [kp_rw, if_pos h_6, if_neg h_12, if_neg h_18, if_neg h_22, if_pos h_27] | rw [kp_rw, if_pos h_6, if_neg h_12, if_neg h_18, if_neg h_22, if_neg h_27]) (rfl) dX3_refusalOfWord_48
        · skip
          refine lv_iload_n S.1 S.2.1 dX3_refusalOfWord_25 rfl (lv_at hl 3 rfl) ?_
          refine lv_iconst (v := 4) S.1 S.2.1 dX3_refusalOfWord_26 (by decide) ?_
          refine lv_icmp_ge (tgt := 34) S.1 S.2.1 dX3_refusalOfWord_27 (by decide) (fun h_27 => ?_) (fun h_27 => ?_)
          · skip
            refine lv_iconst (v := 0) S.1 S.2.1 dX3_refusalOfWord_34 (by decide) ?_
            refine lv_istore S.1 S.2.1 dX3_refusalOfWord_35 hl (by decide) rfl (fun ls hl => ?_)
            have hl : lv_has ls 5 [(4, .int 0), (3, .int x_1), (0, .ref h), (1, .int x), (2, .int y)] := hl
            refine lv_iload S.1 S.2.1 dX3_refusalOfWord_37 (lv_at hl 0 rfl) ?_
            refine lv_if_eq (tgt := 46) S.1 S.2.1 dX3_refusalOfWord_39 (by decide) (fun h_39 => ?_) (fun h => absurd h (by decide))
            refine lv_bipush (v := (-5)) S.1 S.2.1 dX3_refusalOfWord_46 (by decide) ?_
            exact K _ _ _ _ _ _ hB (by first | rw [kp_rw, if_pos h_6, if_pos h_12] | rw [kp_rw, if_pos h_6, if_neg h_12, if_pos h_18] | rw [kp_rw, if_pos h_6, if_neg h_12, if_neg h_18, if_pos h_22] | rw [kp_rw, if_pos h_6, if_neg h_12, if_neg h_18, if_neg h_22, if_pos h_27] | rw [kp_rw, if_pos h_6, if_neg h_12, if_neg h_18, if_neg h_22, if_neg h_27]) (rfl) dX3_refusalOfWord_48
          · skip
            refine lv_iconst (v := 1) S.1 S.2.1 dX3_refusalOfWord_30 (by decide) ?_
            refine lv_goto (tgt := 35) S.1 S.2.1 dX3_refusalOfWord_31 (by decide) ?_
            refine lv_istore S.1 S.2.1 dX3_refusalOfWord_35 hl (by decide) rfl (fun ls hl => ?_)
            have hl : lv_has ls 5 [(4, .int 1), (3, .int x_1), (0, .ref h), (1, .int x), (2, .int y)] := hl
            refine lv_iload S.1 S.2.1 dX3_refusalOfWord_37 (lv_at hl 0 rfl) ?_
            refine lv_if_eq (tgt := 46) S.1 S.2.1 dX3_refusalOfWord_39 (by decide) (fun h => absurd h (by decide)) (fun h_39 => ?_)
            refine lv_iconst (v := 0) S.1 S.2.1 dX3_refusalOfWord_42 (by decide) ?_
            refine lv_goto (tgt := 48) S.1 S.2.1 dX3_refusalOfWord_43 (by decide) ?_
            exact K _ _ _ _ _ _ hB (by first | rw [kp_rw, if_pos h_6, if_pos h_12] | rw [kp_rw, if_pos h_6, if_neg h_12, if_pos h_18] | rw [kp_rw, if_pos h_6, if_neg h_12, if_neg h_18, if_pos h_22] | rw [kp_rw, if_pos h_6, if_neg h_12, if_neg h_18, if_neg h_22, if_pos h_27] | rw [kp_rw, if_pos h_6, if_neg h_12, if_neg h_18, if_neg h_22, if_neg h_27]) (rfl) dX3_refusalOfWord_48
  · skip
    have h_6 : ¬ kp_ro dv = 0 := by rw [← ex_1]; exact h_6
    refine lv_iload_n S.1 S.2.1 dX3_refusalOfWord_9 rfl (lv_at hl 0 rfl) ?_
    exact K _ _ _ _ _ _ hB (by rw [kp_rw, if_neg h_6, ex_1]) (rfl) dX3_refusalOfWord_10

abbrev kr_VO_plainWord : Room := { frames := 5, cells := 0, slots := 0, locals := 118 }
set_option maxRecDepth 100000 in
set_option maxHeartbeats 4000000 in
theorem kc_VO_plainWord (l : Launch) (N : State → Prop) (hN : kv_Mv N) (D : va_G) (cA : ClassId) (h d w r : Nat) (σ : kp_S) (g : Nat → Int32) (dv dk pk : Int32) (k : Nat) (i : Nat) (hk : k < 8) (hi : i < 4) : kv_I N l yX3_plainWord wsX3_plainWord kr_VO_plainWord D [(cA, .int)] [.ref h, .int (nI k), .int (nI i)] (vo_W h d w r cA σ g dv dk pk) (kp_show dk pk (nI k) i (σ.1 (48 + 4 * k + i))) (vo_W h d w r cA σ g dv dk pk) := by
  refine kv_openI (cc := cX3_plainWord) (maxL := 4) (rt := .int) (by decide) rfl (rfl) (Nat.le_of_ble_eq_true rfl) ?_
  intro p e s m args below meth c A H locs ls Q S hl hB K
  have hl : lv_has ls 4 [(0, .ref h), (1, .int (nI k)), (2, .int (nI i))] := hl
  refine lv_aload_n S.1 S.2.1 dX3_plainWord_0 rfl (lv_at hl 0 rfl) ?_
  refine kv_get (C := RX3) (T := TX3) (M := 5) (ci := 1) S hB (kn_c kn_iX3) 0 rfl rfl 0 (by decide) (List.mem_cons_of_mem _ kn_29) rfl rfl dX3_plainWord_1 ?_
  refine lv_iload_n S.1 S.2.1 dX3_plainWord_4 rfl (lv_at hl 1 rfl) ?_
  refine kv_sP (As := [.int (nI k)]) (rest := [.ref d]) S (kc_VO_sectorPlace l D k  ) (kn_cS S kn_86 kn_87 kn_1 kn_88 kd_X3_sectorPlace rfl rfl ⟨Nat.le_of_ble_eq_true rfl, Nat.le_of_ble_eq_true rfl⟩) hB rfl hl.1 rfl (Nat.le_of_ble_eq_true rfl) dX3_plainWord_5 ⟨Nat.zero_le _, Nat.zero_le _⟩ (fun H locs hB => ?_)
  refine lv_iload_n S.1 S.2.1 dX3_plainWord_8 rfl (lv_at hl 2 rfl) ?_
  refine lv_iadd S.1 S.2.1 dX3_plainWord_9 ?_
  refine kv_top (y := nI ((48 + 4 * k) + i)) (nI_add (48 + 4 * k) i) ?_
  refine kv_vI (As := [.int (nI ((48 + 4 * k) + i))]) (rest := []) hN S (kc_DI_wordAtN l N hN D cA h d w r σ g dv dk pk ((48 + 4 * k) + i)  (by omega)) (kn_cV (C := RX1) S kn_114 kn_115 kn_116 kn_2 kn_117 rfl kd_X1_wordAt rfl rfl ⟨Nat.le_of_ble_eq_true rfl, Nat.le_of_ble_eq_true rfl⟩) hB 1 rfl rfl rfl hl.1 rfl (Nat.le_of_ble_eq_true rfl) dX3_plainWord_10 ⟨Nat.zero_le _, Nat.zero_le _⟩ (fun H locs hB => ?_)
  refine lv_topi (fun x_1 ex_1 => ?_)
  refine lv_istore_n S.1 S.2.1 dX3_plainWord_13 rfl hl (by decide) rfl (fun ls hl => ?_)
  have hl : lv_has ls 4 [(3, .int x_1), (0, .ref h), (1, .int (nI k)), (2, .int (nI i))] := hl
  refine lv_aload_n S.1 S.2.1 dX3_plainWord_14 rfl (lv_at hl 1 rfl) ?_
  refine kv_get (C := RX3) (T := TX3) (M := 5) (ci := 1) S hB (kn_c kn_iX3) 0 rfl rfl 3 (by decide) (List.mem_cons_of_mem _ kn_32) rfl rfl dX3_plainWord_15 ?_
  refine lv_aload_n S.1 S.2.1 dX3_plainWord_18 rfl (lv_at hl 1 rfl) ?_
  refine kv_get (C := RX3) (T := TX3) (M := 5) (ci := 1) S hB (kn_c kn_iX3) 0 rfl rfl 4 (by decide) (List.mem_cons_of_mem _ kn_33) rfl rfl dX3_plainWord_19 ?_
  refine lv_iload_n S.1 S.2.1 dX3_plainWord_22 rfl (lv_at hl 2 rfl) ?_
  refine lv_iload_n S.1 S.2.1 dX3_plainWord_23 rfl (lv_at hl 3 rfl) ?_
  refine lv_iload_n S.1 S.2.1 dX3_plainWord_24 rfl (lv_at hl 0 rfl) ?_
  refine kv_sP (As := [.int dk, .int pk, .int (nI k), .int (nI i), .int x_1]) (rest := []) S (kc_CI_decipherSectorWord l D dk pk (nI k) i x_1  (by omega)) (kn_cS S kn_205 kn_206 kn_5 kn_207 kd_X0_decipherSectorWord rfl rfl ⟨Nat.le_of_ble_eq_true rfl, Nat.le_of_ble_eq_true rfl⟩) hB rfl hl.1 rfl (Nat.le_of_ble_eq_true rfl) dX3_plainWord_25 ⟨Nat.zero_le _, Nat.zero_le _⟩ (fun H locs hB => ?_)
  exact K _ _ _ _ _ _ hB (by subst_vars; rfl) (rfl) dX3_plainWord_28

abbrev kr_VO_workOutVolume : Room := { frames := 5, cells := 0, slots := 0, locals := 124 }
set_option maxRecDepth 100000 in
set_option maxHeartbeats 4000000 in
theorem kc_VO_workOutVolume (l : Launch) (N : State → Prop) (hN : kv_Mv N) (D : va_G) (cA : ClassId) (h d w r : Nat) (σ : kp_S) (g : Nat → Int32) (dv dk pk : Int32) (a : Int32) (b : Int32) (pw : Int32) (sd : Int32) : kv_V N l yX3_workOutVolume wsX3_workOutVolume kr_VO_workOutVolume D [(cA, .int)] [.ref h, .int a, .int b, .int pw, .int sd] (vo_W h d w r cA σ g dv dk pk)  (vo_W h d w r cA σ (kp_vol a b pw sd) dv dk pk) := by
  refine kv_openV (cc := cX3_workOutVolume) (maxL := 8) (by decide) rfl (Nat.le_of_ble_eq_true rfl) ?_
  intro p e s m args below meth c A H locs ls Q S hl hB K
  have hl : lv_has ls 8 [(0, .ref h), (1, .int a), (2, .int b), (3, .int pw), (4, .int sd)] := hl
  refine lv_aload_n S.1 S.2.1 dX3_workOutVolume_0 rfl (lv_at hl 0 rfl) ?_
  refine kv_get (C := RX3) (T := TX3) (M := 5) (ci := 1) S hB (kn_c kn_iX3) 0 rfl rfl 1 (by decide) (List.mem_cons_of_mem _ kn_30) rfl rfl dX3_workOutVolume_1 ?_
  refine lv_iconst (v := 0) S.1 S.2.1 dX3_workOutVolume_4 (by decide) ?_
  refine kv_sV (As := [.ref r, .int 0]) (rest := []) hN S (kc_AR_fill l N hN D cA h d w r σ g dv dk pk 0  ) (kn_cS S kn_50 kn_51 kn_4 kn_52 kd_J7_fill rfl rfl ⟨Nat.le_of_ble_eq_true rfl, Nat.le_of_ble_eq_true rfl⟩) hB rfl hl.1 rfl (Nat.le_of_ble_eq_true rfl) dX3_workOutVolume_5 ⟨Nat.zero_le _, Nat.zero_le _⟩ (fun H locs hB => ?_)
  have hB : kv_B N D [(cA, .int)] A s (vo_W h d w r cA σ (fun _ => 0) dv dk pk) H locs := hB
  refine lv_iload S.1 S.2.1 dX3_workOutVolume_8 (lv_at hl 4 rfl) ?_
  refine lv_iconst (v := 5) S.1 S.2.1 dX3_workOutVolume_10 (by decide) ?_
  refine kv_sP (As := [.int sd, .int 5]) (rest := []) S (kc_CI_mix l D sd 5  ) (kn_cS S kn_53 kn_54 kn_5 kn_55 kd_X0_mix rfl rfl ⟨Nat.le_of_ble_eq_true rfl, Nat.le_of_ble_eq_true rfl⟩) hB rfl hl.1 rfl (Nat.le_of_ble_eq_true rfl) dX3_workOutVolume_11 ⟨Nat.zero_le _, Nat.zero_le _⟩ (fun H locs hB => ?_)
  refine lv_topi (fun x_1 ex_1 => ?_)
  refine lv_istore S.1 S.2.1 dX3_workOutVolume_14 hl (by decide) rfl (fun ls hl => ?_)
  have hl : lv_has ls 8 [(5, .int x_1), (0, .ref h), (1, .int a), (2, .int b), (3, .int pw), (4, .int sd)] := hl
  refine lv_aload_n S.1 S.2.1 dX3_workOutVolume_16 rfl (lv_at hl 1 rfl) ?_
  refine kv_get (C := RX3) (T := TX3) (M := 5) (ci := 1) S hB (kn_c kn_iX3) 0 rfl rfl 1 (by decide) (List.mem_cons_of_mem _ kn_30) rfl rfl dX3_workOutVolume_17 ?_
  refine lv_iconst (v := 2) S.1 S.2.1 dX3_workOutVolume_20 (by decide) ?_
  refine lv_iload S.1 S.2.1 dX3_workOutVolume_21 (lv_at hl 0 rfl) ?_
  refine kv_iast S hB 3 0 rfl rfl 2 rfl (by omega) (by decide) dX3_workOutVolume_23 (fun H locs hB => ?_)
  have hB : kv_B N D [(cA, .int)] A s (vo_W h d w r cA σ (upd (fun _ => 0) 2 x_1) dv dk pk) H locs := hB
  refine lv_aload_n S.1 S.2.1 dX3_workOutVolume_24 rfl (lv_at hl 1 rfl) ?_
  refine kv_get (C := RX3) (T := TX3) (M := 5) (ci := 1) S hB (kn_c kn_iX3) 0 rfl rfl 1 (by decide) (List.mem_cons_of_mem _ kn_30) rfl rfl dX3_workOutVolume_25 ?_
  refine lv_iconst (v := 1) S.1 S.2.1 dX3_workOutVolume_28 (by decide) ?_
  refine lv_iload_n S.1 S.2.1 dX3_workOutVolume_29 rfl (lv_at hl 2 rfl) ?_
  refine lv_iload_n S.1 S.2.1 dX3_workOutVolume_30 rfl (lv_at hl 3 rfl) ?_
  refine lv_iload S.1 S.2.1 dX3_workOutVolume_31 (lv_at hl 0 rfl) ?_
  refine kv_sP (As := [.int a, .int b, .int x_1]) (rest := [.int 1, .ref r]) S (kc_CI_digest l D a b x_1  ) (kn_cS S kn_59 kn_60 kn_5 kn_61 kd_X0_digest rfl rfl ⟨Nat.le_of_ble_eq_true rfl, Nat.le_of_ble_eq_true rfl⟩) hB rfl hl.1 rfl (Nat.le_of_ble_eq_true rfl) dX3_workOutVolume_33 ⟨Nat.zero_le _, Nat.zero_le _⟩ (fun H locs hB => ?_)
  refine kv_iast S hB 3 0 rfl rfl 1 rfl (by omega) (by decide) dX3_workOutVolume_36 (fun H locs hB => ?_)
  have hB : kv_B N D [(cA, .int)] A s (vo_W h d w r cA σ (upd (upd (fun _ => 0) 2 x_1) 1 (kp_dg a b x_1)) dv dk pk) H locs := hB
  refine lv_aload_n S.1 S.2.1 dX3_workOutVolume_37 rfl (lv_at hl 1 rfl) ?_
  refine kv_get (C := RX3) (T := TX3) (M := 5) (ci := 1) S hB (kn_c kn_iX3) 0 rfl rfl 1 (by decide) (List.mem_cons_of_mem _ kn_30) rfl rfl dX3_workOutVolume_38 ?_
  refine lv_iconst (v := 0) S.1 S.2.1 dX3_workOutVolume_41 (by decide) ?_
  refine kv_sP (As := [.int 0]) (rest := [.ref r]) S (kc_VO_slotPlace l D 0  ) (kn_cS S kn_63 kn_64 kn_1 kn_65 kd_X3_slotPlace rfl rfl ⟨Nat.le_of_ble_eq_true rfl, Nat.le_of_ble_eq_true rfl⟩) hB rfl hl.1 rfl (Nat.le_of_ble_eq_true rfl) dX3_workOutVolume_42 ⟨Nat.zero_le _, Nat.zero_le _⟩ (fun H locs hB => ?_)
  refine lv_iload_n S.1 S.2.1 dX3_workOutVolume_45 rfl (lv_at hl 2 rfl) ?_
  refine lv_iload_n S.1 S.2.1 dX3_workOutVolume_46 rfl (lv_at hl 3 rfl) ?_
  refine lv_iload_n S.1 S.2.1 dX3_workOutVolume_47 rfl (lv_at hl 4 rfl) ?_
  refine lv_iload S.1 S.2.1 dX3_workOutVolume_48 (lv_at hl 5 rfl) ?_
  refine kv_sV (As := [.ref r, .int (nI (4 + 8 * 0)), .int a, .int b, .int pw, .int sd]) (rest := []) hN S (kc_SL_workOut l N hN D cA h d w r σ (upd (upd (fun _ => 0) 2 x_1) 1 (kp_dg a b x_1)) dv dk pk (4 + 8 * 0) a b pw sd  (by omega)) (kn_cS S kn_66 kn_67 kn_6 kn_68 kd_X2_workOut rfl rfl ⟨Nat.le_of_ble_eq_true rfl, Nat.le_of_ble_eq_true rfl⟩) hB rfl hl.1 rfl (Nat.le_of_ble_eq_true rfl) dX3_workOutVolume_50 ⟨Nat.zero_le _, Nat.zero_le _⟩ (fun H locs hB => ?_)
  have hB : kv_B N D [(cA, .int)] A s (vo_W h d w r cA σ (kp_wo (upd (upd (fun _ => 0) 2 x_1) 1 (kp_dg a b x_1)) (4 + 8 * 0) a b pw sd) dv dk pk) H locs := hB
  refine lv_iconst (v := 0) S.1 S.2.1 dX3_workOutVolume_53 (by decide) ?_
  refine lv_istore S.1 S.2.1 dX3_workOutVolume_54 hl (by decide) rfl (fun ls hl => ?_)
  have hl : lv_has ls 8 [(6, .int 0), (5, .int x_1), (0, .ref h), (1, .int a), (2, .int b), (3, .int pw), (4, .int sd)] := hl
  have loop56 : ∀ (n : Nat) (k : Nat) (gg : Nat → Int32) (H : Heap) (locs : List Loc) (ls : Array Slot), (k + n = 8) → (∀ j, j < 48 + 4 * k → gg j = kp_vol a b pw sd j) → lv_has ls 8 [(6, .int (nI k)), (0, .ref h), (1, .int a), (2, .int b)] → kv_B N D [(cA, .int)] A s (vo_W h d w r cA σ gg dv dk pk) H locs → W p l e kr_VO_workOutVolume s m args below meth c H locs 0 0 Q (F0 m 56 ls []) := by
    intro n
    induction n with
    | zero =>
      intro k gg H locs ls hk hG hl hB
      refine lv_iload S.1 S.2.1 dX3_workOutVolume_56 (lv_at hl 0 rfl) ?_
      refine lv_bipush (v := 8) S.1 S.2.1 dX3_workOutVolume_58 (by decide) ?_
      refine kv_bge (x := k) (y := 8) (tgt := 107) S (by omega) (by omega) dX3_workOutVolume_60 (by decide) (fun h_60 => ?_) (fun h => absurd h (by omega))
      have hB := kv_arr 3 rfl (kp_vol a b pw sd) (fun i hi => hG i (by omega)) hB
      exact K _ _ _ _ _ hB (rfl) dX3_workOutVolume_107
    | succ n ih56 =>
      intro k gg H locs ls hk hG hl hB
      refine lv_iload S.1 S.2.1 dX3_workOutVolume_56 (lv_at hl 0 rfl) ?_
      refine lv_bipush (v := 8) S.1 S.2.1 dX3_workOutVolume_58 (by decide) ?_
      refine kv_bge (x := k) (y := 8) (tgt := 107) S (by omega) (by omega) dX3_workOutVolume_60 (by decide) (fun h => absurd h (by omega)) (fun h_60 => ?_)
      refine lv_iconst (v := 0) S.1 S.2.1 dX3_workOutVolume_63 (by decide) ?_
      refine lv_istore S.1 S.2.1 dX3_workOutVolume_64 hl (by decide) rfl (fun ls hl => ?_)
      have hl : lv_has ls 8 [(7, .int 0), (6, .int (nI k)), (0, .ref h), (1, .int a), (2, .int b)] := hl
      have loop66 : ∀ (n : Nat) (i : Nat) (g2 : Nat → Int32) (H : Heap) (locs : List Loc) (ls : Array Slot), (i + n = 4) → (∀ j, j < 48 + 4 * k + i → g2 j = kp_vol a b pw sd j) → lv_has ls 8 [(7, .int (nI i)), (6, .int (nI k)), (0, .ref h), (1, .int a), (2, .int b)] → kv_B N D [(cA, .int)] A s (vo_W h d w r cA σ g2 dv dk pk) H locs → W p l e kr_VO_workOutVolume s m args below meth c H locs 0 0 Q (F0 m 66 ls []) := by
        intro n
        induction n with
        | zero =>
          intro i g2 H locs ls hi hG2 hl hB
          refine lv_iload S.1 S.2.1 dX3_workOutVolume_66 (lv_at hl 0 rfl) ?_
          refine lv_iconst (v := 4) S.1 S.2.1 dX3_workOutVolume_68 (by decide) ?_
          refine kv_bge (x := i) (y := 4) (tgt := 101) S (by omega) (by omega) dX3_workOutVolume_69 (by decide) (fun h_69 => ?_) (fun h => absurd h (by omega))
          refine lv_iinc (k := 1) (v := nI (k + 1)) S.1 S.2.1 dX3_workOutVolume_101 hl rfl (nI_1 k) (by decide) rfl (fun ls hl => ?_)
          have hl : lv_has ls 8 [(6, .int (nI (k + 1))), (7, .int (nI i)), (0, .ref h), (1, .int a), (2, .int b)] := hl
          refine lv_goto (tgt := 56) S.1 S.2.1 dX3_workOutVolume_104 (by decide) ?_
          exact ih56 (k + 1) g2 _ _ _ (by omega) (fun j hj => hG2 j (by omega)) (lv_sub hl [0, 2, 3, 4] rfl) hB
        | succ n ih66 =>
          intro i g2 H locs ls hi hG2 hl hB
          refine lv_iload S.1 S.2.1 dX3_workOutVolume_66 (lv_at hl 0 rfl) ?_
          refine lv_iconst (v := 4) S.1 S.2.1 dX3_workOutVolume_68 (by decide) ?_
          refine kv_bge (x := i) (y := 4) (tgt := 101) S (by omega) (by omega) dX3_workOutVolume_69 (by decide) (fun h => absurd h (by omega)) (fun h_69 => ?_)
          refine lv_aload_n S.1 S.2.1 dX3_workOutVolume_72 rfl (lv_at hl 2 rfl) ?_
          refine kv_get (C := RX3) (T := TX3) (M := 5) (ci := 1) S hB (kn_c kn_iX3) 0 rfl rfl 1 (by decide) (List.mem_cons_of_mem _ kn_30) rfl rfl dX3_workOutVolume_73 ?_
          refine lv_iload S.1 S.2.1 dX3_workOutVolume_76 (lv_at hl 1 rfl) ?_
          refine kv_sP (As := [.int (nI k)]) (rest := [.ref r]) S (kc_VO_sectorPlace l D k  ) (kn_cS S kn_86 kn_87 kn_1 kn_88 kd_X3_sectorPlace rfl rfl ⟨Nat.le_of_ble_eq_true rfl, Nat.le_of_ble_eq_true rfl⟩) hB rfl hl.1 rfl (Nat.le_of_ble_eq_true rfl) dX3_workOutVolume_78 ⟨Nat.zero_le _, Nat.zero_le _⟩ (fun H locs hB => ?_)
          refine lv_iload S.1 S.2.1 dX3_workOutVolume_81 (lv_at hl 0 rfl) ?_
          refine lv_iadd S.1 S.2.1 dX3_workOutVolume_83 ?_
          refine kv_top (y := nI ((48 + 4 * k) + i)) (nI_add (48 + 4 * k) i) ?_
          refine lv_iload_n S.1 S.2.1 dX3_workOutVolume_84 rfl (lv_at hl 3 rfl) ?_
          refine lv_iload_n S.1 S.2.1 dX3_workOutVolume_85 rfl (lv_at hl 4 rfl) ?_
          refine lv_iload S.1 S.2.1 dX3_workOutVolume_86 (lv_at hl 1 rfl) ?_
          refine lv_iload S.1 S.2.1 dX3_workOutVolume_88 (lv_at hl 0 rfl) ?_
          refine lv_iconst (v := 0) S.1 S.2.1 dX3_workOutVolume_90 (by decide) ?_
          refine kv_sP (As := [.int a, .int b, .int (nI k), .int (nI i), .int 0]) (rest := [.int (nI ((48 + 4 * k) + i)), .ref r]) S (kc_CI_encipherSectorWord l D a b (nI k) i 0  (by omega)) (kn_cS S kn_89 kn_90 kn_5 kn_91 kd_X0_encipherSectorWord rfl rfl ⟨Nat.le_of_ble_eq_true rfl, Nat.le_of_ble_eq_true rfl⟩) hB rfl hl.1 rfl (Nat.le_of_ble_eq_true rfl) dX3_workOutVolume_91 ⟨Nat.zero_le _, Nat.zero_le _⟩ (fun H locs hB => ?_)
          refine kv_iast S hB 3 0 rfl rfl ((48 + 4 * k) + i) rfl (by omega) (by decide) dX3_workOutVolume_94 (fun H locs hB => ?_)
          have hB : kv_B N D [(cA, .int)] A s (vo_W h d w r cA σ (upd g2 ((48 + 4 * k) + i) (kp_hide a b (nI k) i 0)) dv dk pk) H locs := hB
          refine lv_iinc (k := 0) (v := nI (i + 1)) S.1 S.2.1 dX3_workOutVolume_95 hl rfl (nI_1 i) (by decide) rfl (fun ls hl => ?_)
          have hl : lv_has ls 8 [(7, .int (nI (i + 1))), (6, .int (nI k)), (0, .ref h), (1, .int a), (2, .int b)] := hl
          refine lv_goto (tgt := 66) S.1 S.2.1 dX3_workOutVolume_98 (by decide) ?_
          exact ih66 (i + 1) (upd g2 ((48 + 4 * k) + i) (kp_hide a b (nI k) i 0)) _ _ _ (by omega) (fun j hj => by by_cases q : j = 48 + 4 * k + i <;> first | (subst q; rw [pk_us, kp_vol_sec a b pw sd (by omega) (by omega)]) | (rw [pk_un q]; exact hG2 j (by omega))) (lv_sub hl [0, 1, 2, 3, 4] rfl) hB
      exact loop66 4 0 gg _ _ _ (rfl) (fun j hj => hG j (by omega)) (lv_sub hl [0, 1, 2, 3, 4] rfl) hB
  exact loop56 8 0 (kp_wo (upd (upd (fun _ => 0) 2 x_1) 1 (kp_dg a b x_1)) (4 + 8 * 0) a b pw sd) _ _ _ (rfl) (by rw [ex_1]; exact fun j hj => kp_vol0 a b pw sd hj) (lv_sub hl [0, 2, 3, 4] rfl) hB

abbrev kr_VO_putVolume : Room := { frames := 1, cells := 0, slots := 0, locals := 22 }
set_option maxRecDepth 100000 in
set_option maxHeartbeats 4000000 in
theorem kc_VO_putVolume (l : Launch) (N : State → Prop) (hN : kv_Mv N) (D : va_G) (cA : ClassId) (h d w r : Nat) (σ : kp_S) (g : Nat → Int32) (dv dk pk : Int32) : kv_I N l yX3_putVolume wsX3_putVolume kr_VO_putVolume D [(cA, .int)] [.ref h] (vo_W h d w r cA σ g dv dk pk) ((kp_run ((0, 0) :: kp_fm 79 1 g) σ).1) (vo_W h d w r cA ((kp_run ((0, 0) :: kp_fm 79 1 g) σ).2) g dv dk pk) := by
  refine kv_openI (cc := cX3_putVolume) (maxL := 2) (rt := .boolean) (by decide) rfl (kp_run_z _ _) (Nat.le_of_ble_eq_true rfl) ?_
  intro p e s m args below meth c A H locs ls Q S hl hB K
  have hl : lv_has ls 2 [(0, .ref h)] := hl
  refine lv_aload_n S.1 S.2.1 dX3_putVolume_0 rfl (lv_at hl 0 rfl) ?_
  refine kv_get (C := RX3) (T := TX3) (M := 5) (ci := 1) S hB (kn_c kn_iX3) 0 rfl rfl 0 (by decide) (List.mem_cons_of_mem _ kn_29) rfl rfl dX3_putVolume_1 ?_
  refine lv_iconst (v := 0) S.1 S.2.1 dX3_putVolume_4 (by decide) ?_
  refine lv_iconst (v := 0) S.1 S.2.1 dX3_putVolume_5 (by decide) ?_
  refine kv_vI (As := [.int 0, .int 0]) (rest := []) hN S (kc_DI_put l N hN D cA h d w r σ g dv dk pk 0 0  (by omega)) (kn_cV (C := RX1) S kn_99 kn_100 kn_101 kn_2 kn_102 rfl kd_X1_put rfl rfl ⟨Nat.le_of_ble_eq_true rfl, Nat.le_of_ble_eq_true rfl⟩) hB 1 rfl rfl rfl hl.1 rfl (Nat.le_of_ble_eq_true rfl) dX3_putVolume_6 ⟨Nat.zero_le _, Nat.zero_le _⟩ (fun H locs hB => ?_)
  have hB : kv_B N D [(cA, .int)] A s (vo_W h d w r cA ((kp_run [(0, 0)] σ).2) g dv dk pk) H locs := hB
  refine lv_if_ne (tgt := 14) S.1 S.2.1 dX3_putVolume_9 (by decide) (fun h_9 => ?_) (fun h_9 => ?_)
  · skip
    refine lv_iconst (v := 1) S.1 S.2.1 dX3_putVolume_14 (by decide) ?_
    refine lv_istore_n S.1 S.2.1 dX3_putVolume_15 rfl hl (by decide) rfl (fun ls hl => ?_)
    have hl : lv_has ls 2 [(1, .int 1), (0, .ref h)] := hl
    have loop16 : ∀ (n : Nat) (j : Nat) (τ : kp_S) (H : Heap) (locs : List Loc) (ls : Array Slot), (j + n = 80) → (kp_run (kp_fm n j g) τ = kp_run ((0, 0) :: kp_fm 79 1 g) σ) → lv_has ls 2 [(1, .int (nI j)), (0, .ref h)] → kv_B N D [(cA, .int)] A s (vo_W h d w r cA τ g dv dk pk) H locs → W p l e kr_VO_putVolume s m args below meth c H locs 0 0 Q (F0 m 16 ls []) := by
      intro n
      induction n with
      | zero =>
        intro j τ H locs ls hj hT hl hB
        have hT0 : kp_run [(0, 1396855379)] τ = kp_run ((0, 0) :: kp_fm 79 1 g) σ := hT
        refine lv_iload_n S.1 S.2.1 dX3_putVolume_16 rfl (lv_at hl 0 rfl) ?_
        refine lv_bipush (v := 80) S.1 S.2.1 dX3_putVolume_17 (by decide) ?_
        refine kv_bge (x := j) (y := 80) (tgt := 47) S (by omega) (by omega) dX3_putVolume_19 (by decide) (fun h_19 => ?_) (fun h => absurd h (by omega))
        refine lv_aload_n S.1 S.2.1 dX3_putVolume_47 rfl (lv_at hl 1 rfl) ?_
        refine kv_get (C := RX3) (T := TX3) (M := 5) (ci := 1) S hB (kn_c kn_iX3) 0 rfl rfl 0 (by decide) (List.mem_cons_of_mem _ kn_29) rfl rfl dX3_putVolume_48 ?_
        refine lv_iconst (v := 0) S.1 S.2.1 dX3_putVolume_51 (by decide) ?_
        refine lv_ldc (v := 1396855379) S.1 S.2.1 S.2.2.2.1 (S.2.2.2.2 _ (List.mem_cons_of_mem _ kn_103)) dX3_putVolume_52 ?_
        refine kv_vI (As := [.int 0, .int 1396855379]) (rest := []) hN S (kc_DI_put l N hN D cA h d w r τ g dv dk pk 0 1396855379  (by omega)) (kn_cV (C := RX1) S kn_99 kn_100 kn_101 kn_2 kn_102 rfl kd_X1_put rfl rfl ⟨Nat.le_of_ble_eq_true rfl, Nat.le_of_ble_eq_true rfl⟩) hB 1 rfl rfl rfl hl.1 rfl (Nat.le_of_ble_eq_true rfl) dX3_putVolume_54 ⟨Nat.zero_le _, Nat.zero_le _⟩ (fun H locs hB => ?_)
        have hB : kv_B N D [(cA, .int)] A s (vo_W h d w r cA ((kp_run [(0, 1396855379)] τ).2) g dv dk pk) H locs := hB
        exact K _ _ _ _ _ _ hB (by rw [hT0]) (by rw [hT0]) dX3_putVolume_57
      | succ n ih16 =>
        intro j τ H locs ls hj hT hl hB
        have hT0 : kp_run ((j, g j) :: kp_fm n (j + 1) g) τ = kp_run ((0, 0) :: kp_fm 79 1 g) σ := hT
        refine lv_iload_n S.1 S.2.1 dX3_putVolume_16 rfl (lv_at hl 0 rfl) ?_
        refine lv_bipush (v := 80) S.1 S.2.1 dX3_putVolume_17 (by decide) ?_
        refine kv_bge (x := j) (y := 80) (tgt := 47) S (by omega) (by omega) dX3_putVolume_19 (by decide) (fun h => absurd h (by omega)) (fun h_19 => ?_)
        refine lv_aload_n S.1 S.2.1 dX3_putVolume_22 rfl (lv_at hl 1 rfl) ?_
        refine kv_get (C := RX3) (T := TX3) (M := 5) (ci := 1) S hB (kn_c kn_iX3) 0 rfl rfl 0 (by decide) (List.mem_cons_of_mem _ kn_29) rfl rfl dX3_putVolume_23 ?_
        refine lv_iload_n S.1 S.2.1 dX3_putVolume_26 rfl (lv_at hl 0 rfl) ?_
        refine lv_aload_n S.1 S.2.1 dX3_putVolume_27 rfl (lv_at hl 1 rfl) ?_
        refine kv_get (C := RX3) (T := TX3) (M := 5) (ci := 1) S hB (kn_c kn_iX3) 0 rfl rfl 1 (by decide) (List.mem_cons_of_mem _ kn_30) rfl rfl dX3_putVolume_28 ?_
        refine lv_iload_n S.1 S.2.1 dX3_putVolume_31 rfl (lv_at hl 0 rfl) ?_
        refine kv_iald S hB 3 0 rfl rfl j rfl (by omega) (by decide) dX3_putVolume_32 ?_
        refine kv_vI (As := [.int (nI j), .int (g j)]) (rest := []) hN S (kc_DI_put l N hN D cA h d w r τ g dv dk pk j (g j)  (by omega)) (kn_cV (C := RX1) S kn_99 kn_100 kn_101 kn_2 kn_102 rfl kd_X1_put rfl rfl ⟨Nat.le_of_ble_eq_true rfl, Nat.le_of_ble_eq_true rfl⟩) hB 1 rfl rfl rfl hl.1 rfl (Nat.le_of_ble_eq_true rfl) dX3_putVolume_33 ⟨Nat.zero_le _, Nat.zero_le _⟩ (fun H locs hB => ?_)
        have hB : kv_B N D [(cA, .int)] A s (vo_W h d w r cA ((kp_run [(j, g j)] τ).2) g dv dk pk) H locs := hB
        refine lv_if_ne (tgt := 41) S.1 S.2.1 dX3_putVolume_36 (by decide) (fun h_36 => ?_) (fun h_36 => ?_)
        · skip
          refine lv_iinc (k := 0) (v := nI (j + 1)) S.1 S.2.1 dX3_putVolume_41 hl rfl (nI_1 j) (by decide) rfl (fun ls hl => ?_)
          have hl : lv_has ls 2 [(1, .int (nI (j + 1))), (0, .ref h)] := hl
          refine lv_goto (tgt := 16) S.1 S.2.1 dX3_putVolume_44 (by decide) ?_
          exact ih16 (j + 1) ((kp_run [(j, g j)] τ).2) _ _ _ (by omega) (kp_stepf (F := fun _ => kp_fm n (j + 1) g) h_36 hT0) (lv_sub hl [0, 1] rfl) hB
        · skip
          refine lv_iconst (v := 0) S.1 S.2.1 dX3_putVolume_39 (by decide) ?_
          exact K _ _ _ _ _ _ hB (by rw [← kp_stop h_36 hT0]; exact h_36.symm) (by rw [kp_stop h_36 hT0]) dX3_putVolume_40
    exact loop16 79 1 ((kp_run [(0, 0)] σ).2) _ _ _ (rfl) (kp_stepf (F := fun _ => kp_fm 79 1 g) h_9 rfl) (lv_sub hl [0, 1] rfl) hB
  · skip
    refine lv_iconst (v := 0) S.1 S.2.1 dX3_putVolume_12 (by decide) ?_
    exact K _ _ _ _ _ _ hB (by rw [← kp_stop (T := kp_run ((0, 0) :: kp_fm 79 1 g) σ) h_9 rfl]; exact h_9.symm) (by rw [kp_stop (T := kp_run ((0, 0) :: kp_fm 79 1 g) σ) h_9 rfl]) dX3_putVolume_13

abbrev kr_VO_fillSlot : Room := { frames := 5, cells := 0, slots := 0, locals := 124 }
set_option maxRecDepth 100000 in
set_option maxHeartbeats 4000000 in
theorem kc_VO_fillSlot (l : Launch) (N : State → Prop) (hN : kv_Mv N) (D : va_G) (cA : ClassId) (h d w r : Nat) (σ : kp_S) (g : Nat → Int32) (dv dk pk : Int32) (k : Nat) (pw : Int32) (sd : Int32) (hk : k < 4) : kv_I N l yX3_fillSlot wsX3_fillSlot kr_VO_fillSlot D [(cA, .int)] [.ref h, .int (nI k), .int pw, .int sd] (vo_W h d w r cA σ g dv dk pk) ((kp_run (kp_ch 8 0 8 (4 + 8 * k) (kp_wo g 0 dk pk pw sd) σ.1) σ).1) (vo_W h d w r cA ((kp_run (kp_ch 8 0 8 (4 + 8 * k) (kp_wo g 0 dk pk pw sd) σ.1) σ).2) (kp_wo g 0 dk pk pw sd) dv dk pk) := by
  refine kv_openI (cc := cX3_fillSlot) (maxL := 4) (rt := .boolean) (by decide) rfl (kp_run_z _ _) (Nat.le_of_ble_eq_true rfl) ?_
  intro p e s m args below meth c A H locs ls Q S hl hB K
  have hl : lv_has ls 4 [(0, .ref h), (1, .int (nI k)), (2, .int pw), (3, .int sd)] := hl
  refine lv_aload_n S.1 S.2.1 dX3_fillSlot_0 rfl (lv_at hl 0 rfl) ?_
  refine kv_get (C := RX3) (T := TX3) (M := 5) (ci := 1) S hB (kn_c kn_iX3) 0 rfl rfl 1 (by decide) (List.mem_cons_of_mem _ kn_30) rfl rfl dX3_fillSlot_1 ?_
  refine lv_iconst (v := 0) S.1 S.2.1 dX3_fillSlot_4 (by decide) ?_
  refine lv_aload_n S.1 S.2.1 dX3_fillSlot_5 rfl (lv_at hl 0 rfl) ?_
  refine kv_get (C := RX3) (T := TX3) (M := 5) (ci := 1) S hB (kn_c kn_iX3) 0 rfl rfl 3 (by decide) (List.mem_cons_of_mem _ kn_32) rfl rfl dX3_fillSlot_6 ?_
  refine lv_aload_n S.1 S.2.1 dX3_fillSlot_9 rfl (lv_at hl 0 rfl) ?_
  refine kv_get (C := RX3) (T := TX3) (M := 5) (ci := 1) S hB (kn_c kn_iX3) 0 rfl rfl 4 (by decide) (List.mem_cons_of_mem _ kn_33) rfl rfl dX3_fillSlot_10 ?_
  refine lv_iload_n S.1 S.2.1 dX3_fillSlot_13 rfl (lv_at hl 2 rfl) ?_
  refine lv_iload_n S.1 S.2.1 dX3_fillSlot_14 rfl (lv_at hl 3 rfl) ?_
  refine kv_sV (As := [.ref r, .int 0, .int dk, .int pk, .int pw, .int sd]) (rest := []) hN S (kc_SL_workOut l N hN D cA h d w r σ g dv dk pk 0 dk pk pw sd  (by omega)) (kn_cS S kn_66 kn_67 kn_6 kn_68 kd_X2_workOut rfl rfl ⟨Nat.le_of_ble_eq_true rfl, Nat.le_of_ble_eq_true rfl⟩) hB rfl hl.1 rfl (Nat.le_of_ble_eq_true rfl) dX3_fillSlot_15 ⟨Nat.zero_le _, Nat.zero_le _⟩ (fun H locs hB => ?_)
  have hB : kv_B N D [(cA, .int)] A s (vo_W h d w r cA σ (kp_wo g 0 dk pk pw sd) dv dk pk) H locs := hB
  refine lv_aload_n S.1 S.2.1 dX3_fillSlot_18 rfl (lv_at hl 0 rfl) ?_
  refine kv_get (C := RX3) (T := TX3) (M := 5) (ci := 1) S hB (kn_c kn_iX3) 0 rfl rfl 0 (by decide) (List.mem_cons_of_mem _ kn_29) rfl rfl dX3_fillSlot_19 ?_
  refine lv_iload_n S.1 S.2.1 dX3_fillSlot_22 rfl (lv_at hl 1 rfl) ?_
  refine kv_sP (As := [.int (nI k)]) (rest := [.ref d]) S (kc_VO_slotPlace l D k  ) (kn_cS S kn_63 kn_64 kn_1 kn_65 kd_X3_slotPlace rfl rfl ⟨Nat.le_of_ble_eq_true rfl, Nat.le_of_ble_eq_true rfl⟩) hB rfl hl.1 rfl (Nat.le_of_ble_eq_true rfl) dX3_fillSlot_23 ⟨Nat.zero_le _, Nat.zero_le _⟩ (fun H locs hB => ?_)
  refine lv_bipush (v := 8) S.1 S.2.1 dX3_fillSlot_26 (by decide) ?_
  refine lv_aload_n S.1 S.2.1 dX3_fillSlot_28 rfl (lv_at hl 0 rfl) ?_
  refine kv_get (C := RX3) (T := TX3) (M := 5) (ci := 1) S hB (kn_c kn_iX3) 0 rfl rfl 1 (by decide) (List.mem_cons_of_mem _ kn_30) rfl rfl dX3_fillSlot_29 ?_
  refine kv_vI (As := [.int (nI (4 + 8 * k)), .int 8, .ref r]) (rest := []) hN S (kc_DI_replaceByJournal l N hN D cA h d w r σ (kp_wo g 0 dk pk pw sd) dv dk pk (4 + 8 * k) 8  (by omega) (by omega)) (kn_cV (C := RX1) S kn_177 kn_178 kn_179 kn_2 kn_180 rfl kd_X1_replaceByJournal rfl rfl ⟨Nat.le_of_ble_eq_true rfl, Nat.le_of_ble_eq_true rfl⟩) hB 1 rfl rfl rfl hl.1 rfl (Nat.le_of_ble_eq_true rfl) dX3_fillSlot_32 ⟨Nat.zero_le _, Nat.zero_le _⟩ (fun H locs hB => ?_)
  have hB : kv_B N D [(cA, .int)] A s (vo_W h d w r cA ((kp_run (kp_ch 8 0 8 (4 + 8 * k) (kp_wo g 0 dk pk pw sd) σ.1) σ).2) (kp_wo g 0 dk pk pw sd) dv dk pk) H locs := hB
  exact K _ _ _ _ _ _ hB (rfl) (rfl) dX3_fillSlot_35

abbrev kr_VO_clearSlot : Room := { frames := 4, cells := 0, slots := 0, locals := 90 }
set_option maxRecDepth 100000 in
set_option maxHeartbeats 4000000 in
theorem kc_VO_clearSlot (l : Launch) (N : State → Prop) (hN : kv_Mv N) (D : va_G) (cA : ClassId) (h d w r : Nat) (σ : kp_S) (g : Nat → Int32) (dv dk pk : Int32) (k : Nat) (hk : k < 4) : kv_I N l yX3_clearSlot wsX3_clearSlot kr_VO_clearSlot D [(cA, .int)] [.ref h, .int (nI k)] (vo_W h d w r cA σ g dv dk pk) ((kp_run (kp_ch 8 0 8 (4 + 8 * k) (fun _ => 0) σ.1) σ).1) (vo_W h d w r cA ((kp_run (kp_ch 8 0 8 (4 + 8 * k) (fun _ => 0) σ.1) σ).2) (fun _ => 0) dv dk pk) := by
  refine kv_openI (cc := cX3_clearSlot) (maxL := 2) (rt := .boolean) (by decide) rfl (kp_run_z _ _) (Nat.le_of_ble_eq_true rfl) ?_
  intro p e s m args below meth c A H locs ls Q S hl hB K
  have hl : lv_has ls 2 [(0, .ref h), (1, .int (nI k))] := hl
  refine lv_aload_n S.1 S.2.1 dX3_clearSlot_0 rfl (lv_at hl 0 rfl) ?_
  refine kv_get (C := RX3) (T := TX3) (M := 5) (ci := 1) S hB (kn_c kn_iX3) 0 rfl rfl 1 (by decide) (List.mem_cons_of_mem _ kn_30) rfl rfl dX3_clearSlot_1 ?_
  refine lv_iconst (v := 0) S.1 S.2.1 dX3_clearSlot_4 (by decide) ?_
  refine kv_sV (As := [.ref r, .int 0]) (rest := []) hN S (kc_AR_fill l N hN D cA h d w r σ g dv dk pk 0  ) (kn_cS S kn_50 kn_51 kn_4 kn_52 kd_J7_fill rfl rfl ⟨Nat.le_of_ble_eq_true rfl, Nat.le_of_ble_eq_true rfl⟩) hB rfl hl.1 rfl (Nat.le_of_ble_eq_true rfl) dX3_clearSlot_5 ⟨Nat.zero_le _, Nat.zero_le _⟩ (fun H locs hB => ?_)
  have hB : kv_B N D [(cA, .int)] A s (vo_W h d w r cA σ (fun _ => 0) dv dk pk) H locs := hB
  refine lv_aload_n S.1 S.2.1 dX3_clearSlot_8 rfl (lv_at hl 0 rfl) ?_
  refine kv_get (C := RX3) (T := TX3) (M := 5) (ci := 1) S hB (kn_c kn_iX3) 0 rfl rfl 0 (by decide) (List.mem_cons_of_mem _ kn_29) rfl rfl dX3_clearSlot_9 ?_
  refine lv_iload_n S.1 S.2.1 dX3_clearSlot_12 rfl (lv_at hl 1 rfl) ?_
  refine kv_sP (As := [.int (nI k)]) (rest := [.ref d]) S (kc_VO_slotPlace l D k  ) (kn_cS S kn_63 kn_64 kn_1 kn_65 kd_X3_slotPlace rfl rfl ⟨Nat.le_of_ble_eq_true rfl, Nat.le_of_ble_eq_true rfl⟩) hB rfl hl.1 rfl (Nat.le_of_ble_eq_true rfl) dX3_clearSlot_13 ⟨Nat.zero_le _, Nat.zero_le _⟩ (fun H locs hB => ?_)
  refine lv_bipush (v := 8) S.1 S.2.1 dX3_clearSlot_16 (by decide) ?_
  refine lv_aload_n S.1 S.2.1 dX3_clearSlot_18 rfl (lv_at hl 0 rfl) ?_
  refine kv_get (C := RX3) (T := TX3) (M := 5) (ci := 1) S hB (kn_c kn_iX3) 0 rfl rfl 1 (by decide) (List.mem_cons_of_mem _ kn_30) rfl rfl dX3_clearSlot_19 ?_
  refine kv_vI (As := [.int (nI (4 + 8 * k)), .int 8, .ref r]) (rest := []) hN S (kc_DI_replaceByJournal l N hN D cA h d w r σ (fun _ => 0) dv dk pk (4 + 8 * k) 8  (by omega) (by omega)) (kn_cV (C := RX1) S kn_177 kn_178 kn_179 kn_2 kn_180 rfl kd_X1_replaceByJournal rfl rfl ⟨Nat.le_of_ble_eq_true rfl, Nat.le_of_ble_eq_true rfl⟩) hB 1 rfl rfl rfl hl.1 rfl (Nat.le_of_ble_eq_true rfl) dX3_clearSlot_22 ⟨Nat.zero_le _, Nat.zero_le _⟩ (fun H locs hB => ?_)
  have hB : kv_B N D [(cA, .int)] A s (vo_W h d w r cA ((kp_run (kp_ch 8 0 8 (4 + 8 * k) (fun _ => 0) σ.1) σ).2) (fun _ => 0) dv dk pk) H locs := hB
  exact K _ _ _ _ _ _ hB (rfl) (rfl) dX3_clearSlot_25

abbrev kr_VO_opensWith : Room := { frames := 4, cells := 0, slots := 0, locals := 97 }
set_option maxRecDepth 100000 in
set_option maxHeartbeats 4000000 in
theorem kc_VO_opensWith (l : Launch) (N : State → Prop) (hN : kv_Mv N) (D : va_G) (cA : ClassId) (h d w r : Nat) (σ : kp_S) (g : Nat → Int32) (dv dk pk : Int32) (k : Nat) (pw : Int32) (hk : k < 4) : kv_I N l yX3_opensWith wsX3_opensWith kr_VO_opensWith D [(cA, .int)] [.ref h, .int (nI k), .int pw] (vo_W h d w r cA σ g dv dk pk) (kp_om σ.1 k pw) (vo_W h d w r cA σ g (if kp_om σ.1 k pw = 0 then dv else 2) (if kp_om σ.1 k pw = 0 then dk else kp_oh σ.1 (4 + 8 * k) pw 0) (if kp_om σ.1 k pw = 0 then pk else kp_oh σ.1 (4 + 8 * k) pw 1)) := by
  refine kv_openI (cc := cX3_opensWith) (maxL := 6) (rt := .boolean) (by decide) rfl (kp_om_z _ _ _) (Nat.le_of_ble_eq_true rfl) ?_
  intro p e s m args below meth c A H locs ls Q S hl hB K
  have hl : lv_has ls 6 [(0, .ref h), (1, .int (nI k)), (2, .int pw)] := hl
  refine lv_aload_n S.1 S.2.1 dX3_opensWith_0 rfl (lv_at hl 0 rfl) ?_
  refine kv_get (C := RX3) (T := TX3) (M := 5) (ci := 1) S hB (kn_c kn_iX3) 0 rfl rfl 0 (by decide) (List.mem_cons_of_mem _ kn_29) rfl rfl dX3_opensWith_1 ?_
  refine lv_iload_n S.1 S.2.1 dX3_opensWith_4 rfl (lv_at hl 1 rfl) ?_
  refine kv_sP (As := [.int (nI k)]) (rest := [.ref d]) S (kc_VO_slotPlace l D k  ) (kn_cS S kn_63 kn_64 kn_1 kn_65 kd_X3_slotPlace rfl rfl ⟨Nat.le_of_ble_eq_true rfl, Nat.le_of_ble_eq_true rfl⟩) hB rfl hl.1 rfl (Nat.le_of_ble_eq_true rfl) dX3_opensWith_5 ⟨Nat.zero_le _, Nat.zero_le _⟩ (fun H locs hB => ?_)
  refine lv_iconst (v := 0) S.1 S.2.1 dX3_opensWith_8 (by decide) ?_
  refine lv_iload_n S.1 S.2.1 dX3_opensWith_9 rfl (lv_at hl 2 rfl) ?_
  refine kv_sI (As := [.ref d, .int (nI (4 + 8 * k)), .int 0, .int pw]) (rest := []) hN S (kc_SL_openHalf l N hN D cA h d w r σ g dv dk pk (4 + 8 * k) 0 pw  (by omega) (by omega)) (kn_cS S kn_153 kn_154 kn_6 kn_155 kd_X2_openHalf rfl rfl ⟨Nat.le_of_ble_eq_true rfl, Nat.le_of_ble_eq_true rfl⟩) hB rfl hl.1 rfl (Nat.le_of_ble_eq_true rfl) dX3_opensWith_10 ⟨Nat.zero_le _, Nat.zero_le _⟩ (fun H locs hB => ?_)
  refine lv_topi (fun x_1 ex_1 => ?_)
  refine lv_istore_n S.1 S.2.1 dX3_opensWith_13 rfl hl (by decide) rfl (fun ls hl => ?_)
  have hl : lv_has ls 6 [(3, .int x_1), (0, .ref h), (1, .int (nI k)), (2, .int pw)] := hl
  refine lv_aload_n S.1 S.2.1 dX3_opensWith_14 rfl (lv_at hl 1 rfl) ?_
  refine kv_get (C := RX3) (T := TX3) (M := 5) (ci := 1) S hB (kn_c kn_iX3) 0 rfl rfl 0 (by decide) (List.mem_cons_of_mem _ kn_29) rfl rfl dX3_opensWith_15 ?_
  refine lv_iload_n S.1 S.2.1 dX3_opensWith_18 rfl (lv_at hl 2 rfl) ?_
  refine kv_sP (As := [.int (nI k)]) (rest := [.ref d]) S (kc_VO_slotPlace l D k  ) (kn_cS S kn_63 kn_64 kn_1 kn_65 kd_X3_slotPlace rfl rfl ⟨Nat.le_of_ble_eq_true rfl, Nat.le_of_ble_eq_true rfl⟩) hB rfl hl.1 rfl (Nat.le_of_ble_eq_true rfl) dX3_opensWith_19 ⟨Nat.zero_le _, Nat.zero_le _⟩ (fun H locs hB => ?_)
  refine lv_iconst (v := 1) S.1 S.2.1 dX3_opensWith_22 (by decide) ?_
  refine lv_iload_n S.1 S.2.1 dX3_opensWith_23 rfl (lv_at hl 3 rfl) ?_
  refine kv_sI (As := [.ref d, .int (nI (4 + 8 * k)), .int 1, .int pw]) (rest := []) hN S (kc_SL_openHalf l N hN D cA h d w r σ g dv dk pk (4 + 8 * k) 1 pw  (by omega) (by omega)) (kn_cS S kn_153 kn_154 kn_6 kn_155 kd_X2_openHalf rfl rfl ⟨Nat.le_of_ble_eq_true rfl, Nat.le_of_ble_eq_true rfl⟩) hB rfl hl.1 rfl (Nat.le_of_ble_eq_true rfl) dX3_opensWith_24 ⟨Nat.zero_le _, Nat.zero_le _⟩ (fun H locs hB => ?_)
  refine lv_topi (fun x_2 ex_2 => ?_)
  refine lv_istore S.1 S.2.1 dX3_opensWith_27 hl (by decide) rfl (fun ls hl => ?_)
  have hl : lv_has ls 6 [(4, .int x_2), (3, .int x_1), (0, .ref h), (1, .int (nI k)), (2, .int pw)] := hl
  refine lv_aload_n S.1 S.2.1 dX3_opensWith_29 rfl (lv_at hl 2 rfl) ?_
  refine kv_get (C := RX3) (T := TX3) (M := 5) (ci := 1) S hB (kn_c kn_iX3) 0 rfl rfl 0 (by decide) (List.mem_cons_of_mem _ kn_29) rfl rfl dX3_opensWith_30 ?_
  refine lv_iconst (v := 2) S.1 S.2.1 dX3_opensWith_33 (by decide) ?_
  refine kv_vI (As := [.int 2]) (rest := []) hN S (kc_DI_wordAtN l N hN D cA h d w r σ g dv dk pk 2  (by omega)) (kn_cV (C := RX1) S kn_114 kn_115 kn_116 kn_2 kn_117 rfl kd_X1_wordAt rfl rfl ⟨Nat.le_of_ble_eq_true rfl, Nat.le_of_ble_eq_true rfl⟩) hB 1 rfl rfl rfl hl.1 rfl (Nat.le_of_ble_eq_true rfl) dX3_opensWith_34 ⟨Nat.zero_le _, Nat.zero_le _⟩ (fun H locs hB => ?_)
  refine lv_topi (fun x_3 ex_3 => ?_)
  refine lv_istore S.1 S.2.1 dX3_opensWith_37 hl (by decide) rfl (fun ls hl => ?_)
  have hl : lv_has ls 6 [(5, .int x_3), (4, .int x_2), (3, .int x_1), (0, .ref h), (1, .int (nI k)), (2, .int pw)] := hl
  refine lv_iload_n S.1 S.2.1 dX3_opensWith_39 rfl (lv_at hl 2 rfl) ?_
  refine lv_iload S.1 S.2.1 dX3_opensWith_40 (lv_at hl 1 rfl) ?_
  refine lv_iload S.1 S.2.1 dX3_opensWith_42 (lv_at hl 0 rfl) ?_
  refine kv_sP (As := [.int x_1, .int x_2, .int x_3]) (rest := []) S (kc_CI_digest l D x_1 x_2 x_3  ) (kn_cS S kn_59 kn_60 kn_5 kn_61 kd_X0_digest rfl rfl ⟨Nat.le_of_ble_eq_true rfl, Nat.le_of_ble_eq_true rfl⟩) hB rfl hl.1 rfl (Nat.le_of_ble_eq_true rfl) dX3_opensWith_44 ⟨Nat.zero_le _, Nat.zero_le _⟩ (fun H locs hB => ?_)
  refine lv_aload_n S.1 S.2.1 dX3_opensWith_47 rfl (lv_at hl 3 rfl) ?_
  refine kv_get (C := RX3) (T := TX3) (M := 5) (ci := 1) S hB (kn_c kn_iX3) 0 rfl rfl 0 (by decide) (List.mem_cons_of_mem _ kn_29) rfl rfl dX3_opensWith_48 ?_
  refine lv_iconst (v := 1) S.1 S.2.1 dX3_opensWith_51 (by decide) ?_
  refine kv_vI (As := [.int 1]) (rest := [.int (kp_dg x_1 x_2 x_3)]) hN S (kc_DI_wordAtN l N hN D cA h d w r σ g dv dk pk 1  (by omega)) (kn_cV (C := RX1) S kn_114 kn_115 kn_116 kn_2 kn_117 rfl kd_X1_wordAt rfl rfl ⟨Nat.le_of_ble_eq_true rfl, Nat.le_of_ble_eq_true rfl⟩) hB 1 rfl rfl rfl hl.1 rfl (Nat.le_of_ble_eq_true rfl) dX3_opensWith_52 ⟨Nat.zero_le _, Nat.zero_le _⟩ (fun H locs hB => ?_)
  refine lv_icmp_eq (tgt := 60) S.1 S.2.1 dX3_opensWith_55 (by decide) (fun h_55 => ?_) (fun h_55 => ?_)
  · skip
    have hq : kp_om σ.1 k pw = 1 := by subst_vars; rw [kp_om, if_pos h_55]
    refine lv_aload_n S.1 S.2.1 dX3_opensWith_60 rfl (lv_at hl 3 rfl) ?_
    refine lv_iconst (v := 2) S.1 S.2.1 dX3_opensWith_61 (by decide) ?_
    refine kv_put (C := RX3) (T := TX3) (M := 5) (ci := 1) (v := 2) S hB (kn_c kn_iX3) tyX3 tyX3_ok nmX3 0 rfl rfl 2 (by decide) (List.mem_cons_of_mem _ kn_31) rfl rfl rfl (Nat.le_of_ble_eq_true rfl) dX3_opensWith_62 (fun H locs hB => ?_)
    have hB : kv_B N D [(cA, .int)] A s (vo_W h d w r cA σ g 2 dk pk) H locs := hB
    refine lv_aload_n S.1 S.2.1 dX3_opensWith_65 rfl (lv_at hl 3 rfl) ?_
    refine lv_iload_n S.1 S.2.1 dX3_opensWith_66 rfl (lv_at hl 2 rfl) ?_
    refine kv_put (C := RX3) (T := TX3) (M := 5) (ci := 1) (v := x_1) S hB (kn_c kn_iX3) tyX3 tyX3_ok nmX3 0 rfl rfl 3 (by decide) (List.mem_cons_of_mem _ kn_32) rfl rfl rfl (Nat.le_of_ble_eq_true rfl) dX3_opensWith_67 (fun H locs hB => ?_)
    have hB : kv_B N D [(cA, .int)] A s (vo_W h d w r cA σ g 2 x_1 pk) H locs := hB
    refine lv_aload_n S.1 S.2.1 dX3_opensWith_70 rfl (lv_at hl 3 rfl) ?_
    refine lv_iload S.1 S.2.1 dX3_opensWith_71 (lv_at hl 1 rfl) ?_
    refine kv_put (C := RX3) (T := TX3) (M := 5) (ci := 1) (v := x_2) S hB (kn_c kn_iX3) tyX3 tyX3_ok nmX3 0 rfl rfl 4 (by decide) (List.mem_cons_of_mem _ kn_33) rfl rfl rfl (Nat.le_of_ble_eq_true rfl) dX3_opensWith_73 (fun H locs hB => ?_)
    have hB : kv_B N D [(cA, .int)] A s (vo_W h d w r cA σ g 2 x_1 x_2) H locs := hB
    refine lv_iconst (v := 1) S.1 S.2.1 dX3_opensWith_76 (by decide) ?_
    exact K _ _ _ _ _ _ hB (hq.symm) (by subst_vars; rw [hq]; rfl) dX3_opensWith_77
  · skip
    have hq : kp_om σ.1 k pw = 0 := by subst_vars; rw [kp_om, if_neg h_55]
    refine lv_iconst (v := 0) S.1 S.2.1 dX3_opensWith_58 (by decide) ?_
    exact K _ _ _ _ _ _ hB (hq.symm) (by rw [hq]; rfl) dX3_opensWith_59

abbrev kr_VO_format : Room := { frames := 6, cells := 0, slots := 0, locals := 151 }
set_option maxRecDepth 100000 in
set_option maxHeartbeats 4000000 in
theorem kc_VO_format (l : Launch) (N : State → Prop) (hN : kv_Mv N) (D : va_G) (cA : ClassId) (h d w r : Nat) (σ : kp_S) (g : Nat → Int32) (dv dk pk : Int32) (a : Int32) (b : Int32) (pw : Int32) (sd : Int32) : kv_I N l yX3_format wsX3_format kr_VO_format D [(cA, .int)] [.ref h, .int a, .int b, .int pw, .int sd] (vo_W h d w r cA σ g dv dk pk) ((kp_x_format (σ, g, dv, dk, pk) a b pw sd).1) (vo_T h d w r cA (kp_x_format (σ, g, dv, dk, pk) a b pw sd).2) := by
  refine kv_openI (cc := cX3_format) (maxL := 5) (rt := .int) (by decide) rfl (rfl) (Nat.le_of_ble_eq_true rfl) ?_
  intro p e s m args below meth c A H locs ls Q S hl hB K
  have hl : lv_has ls 5 [(0, .ref h), (1, .int a), (2, .int b), (3, .int pw), (4, .int sd)] := hl
  refine lv_aload_n S.1 S.2.1 dX3_format_0 rfl (lv_at hl 0 rfl) ?_
  refine lv_iload_n S.1 S.2.1 dX3_format_1 rfl (lv_at hl 1 rfl) ?_
  refine lv_iload_n S.1 S.2.1 dX3_format_2 rfl (lv_at hl 2 rfl) ?_
  refine lv_iload_n S.1 S.2.1 dX3_format_3 rfl (lv_at hl 3 rfl) ?_
  refine lv_iload S.1 S.2.1 dX3_format_4 (lv_at hl 4 rfl) ?_
  refine kv_vV (As := [.int a, .int b, .int pw, .int sd]) (rest := []) hN S (kc_VO_workOutVolume l N hN D cA h d w r σ g dv dk pk a b pw sd  ) (kn_cV (C := RX3) S kn_47 kn_48 kn_392 kn_1 kn_49 rfl kd_X3_workOutVolume rfl rfl ⟨Nat.le_of_ble_eq_true rfl, Nat.le_of_ble_eq_true rfl⟩) hB 0 rfl rfl rfl hl.1 rfl (Nat.le_of_ble_eq_true rfl) dX3_format_6 ⟨Nat.zero_le _, Nat.zero_le _⟩ (fun H locs hB => ?_)
  have hB : kv_B N D [(cA, .int)] A s (vo_W h d w r cA σ (kp_vol a b pw sd) dv dk pk) H locs := hB
  refine lv_aload_n S.1 S.2.1 dX3_format_9 rfl (lv_at hl 0 rfl) ?_
  refine kv_vI (As := []) (rest := []) hN S (kc_VO_putVolume l N hN D cA h d w r σ (kp_vol a b pw sd) dv dk pk   ) (kn_cV (C := RX3) S kn_96 kn_97 kn_393 kn_1 kn_98 rfl kd_X3_putVolume rfl rfl ⟨Nat.le_of_ble_eq_true rfl, Nat.le_of_ble_eq_true rfl⟩) hB 0 rfl rfl rfl hl.1 rfl (Nat.le_of_ble_eq_true rfl) dX3_format_10 ⟨Nat.zero_le _, Nat.zero_le _⟩ (fun H locs hB => ?_)
  have hB : kv_B N D [(cA, .int)] A s (vo_W h d w r cA ((kp_run ((0, 0) :: kp_fm 79 1 (kp_vol a b pw sd)) σ).2) (kp_vol a b pw sd) dv dk pk) H locs := hB
  refine lv_if_ne (tgt := 21) S.1 S.2.1 dX3_format_13 (by decide) (fun h_13 => ?_) (fun h_13 => ?_)
  · skip
    refine lv_aload_n S.1 S.2.1 dX3_format_21 rfl (lv_at hl 0 rfl) ?_
    refine lv_iconst (v := 1) S.1 S.2.1 dX3_format_22 (by decide) ?_
    refine kv_vV (As := [.int 1]) (rest := []) hN S (kc_VO_holdNoKeys l N hN D cA h d w r ((kp_run ((0, 0) :: kp_fm 79 1 (kp_vol a b pw sd)) σ).2) (kp_vol a b pw sd) dv dk pk 1  ) (kn_cV (C := RX3) S kn_107 kn_108 kn_395 kn_1 kn_109 rfl kd_X3_holdNoKeys rfl rfl ⟨Nat.le_of_ble_eq_true rfl, Nat.le_of_ble_eq_true rfl⟩) hB 0 rfl rfl rfl hl.1 rfl (Nat.le_of_ble_eq_true rfl) dX3_format_23 ⟨Nat.zero_le _, Nat.zero_le _⟩ (fun H locs hB => ?_)
    have hB : kv_B N D [(cA, .int)] A s (vo_W h d w r cA ((kp_run ((0, 0) :: kp_fm 79 1 (kp_vol a b pw sd)) σ).2) (kp_vol a b pw sd) 1 0 0) H locs := hB
    refine lv_iconst (v := 0) S.1 S.2.1 dX3_format_26 (by decide) ?_
    exact K _ _ _ _ _ _ hB (by rw [kp_x_format, kp_fin, if_neg h_13]) (by rw [kp_x_format, kp_fin, if_neg h_13]) dX3_format_27
  · skip
    refine lv_aload_n S.1 S.2.1 dX3_format_16 rfl (lv_at hl 0 rfl) ?_
    refine kv_vI (As := []) (rest := []) hN S (kc_VO_powerLost l N hN D cA h d w r ((kp_run ((0, 0) :: kp_fm 79 1 (kp_vol a b pw sd)) σ).2) (kp_vol a b pw sd) dv dk pk   ) (kn_cV (C := RX3) S kn_104 kn_105 kn_394 kn_1 kn_106 rfl kd_X3_powerLost rfl rfl ⟨Nat.le_of_ble_eq_true rfl, Nat.le_of_ble_eq_true rfl⟩) hB 0 rfl rfl rfl hl.1 rfl (Nat.le_of_ble_eq_true rfl) dX3_format_17 ⟨Nat.zero_le _, Nat.zero_le _⟩ (fun H locs hB => ?_)
    have hB : kv_B N D [(cA, .int)] A s (vo_W h d w r cA ((kp_run ((0, 0) :: kp_fm 79 1 (kp_vol a b pw sd)) σ).2) (kp_vol a b pw sd) 0 0 0) H locs := hB
    exact K _ _ _ _ _ _ hB (by rw [kp_x_format, kp_fin, if_pos h_13]) (by rw [kp_x_format, kp_fin, if_pos h_13]) dX3_format_20

abbrev kr_VO_mount : Room := { frames := 4, cells := 0, slots := 0, locals := 86 }
set_option maxRecDepth 100000 in
set_option maxHeartbeats 4000000 in
theorem kc_VO_mount (l : Launch) (N : State → Prop) (hN : kv_Mv N) (D : va_G) (cA : ClassId) (h d w r : Nat) (σ : kp_S) (g : Nat → Int32) (dv dk pk : Int32) (q : Nat) (n0 : Nat) (hJ : σ.1 36 = 1 → kp_J σ.1 q n0) : kv_I N l yX3_mount wsX3_mount kr_VO_mount D [(cA, .int)] [.ref h] (vo_W h d w r cA σ g dv dk pk) ((kp_x_mount (σ, g, dv, dk, pk) q n0).1) (vo_T h d w r cA (kp_x_mount (σ, g, dv, dk, pk) q n0).2) := by
  refine kv_openI (cc := cX3_mount) (maxL := 1) (rt := .int) (by decide) rfl (rfl) (Nat.le_of_ble_eq_true rfl) ?_
  intro p e s m args below meth c A H locs ls Q S hl hB K
  have hl : lv_has ls 1 [(0, .ref h)] := hl
  refine lv_aload_n S.1 S.2.1 dX3_mount_0 rfl (lv_at hl 0 rfl) ?_
  refine kv_get (C := RX3) (T := TX3) (M := 5) (ci := 1) S hB (kn_c kn_iX3) 0 rfl rfl 0 (by decide) (List.mem_cons_of_mem _ kn_29) rfl rfl dX3_mount_1 ?_
  refine lv_iconst (v := 0) S.1 S.2.1 dX3_mount_4 (by decide) ?_
  refine kv_vI (As := [.int 0]) (rest := []) hN S (kc_DI_wordAtN l N hN D cA h d w r σ g dv dk pk 0  (by omega)) (kn_cV (C := RX1) S kn_114 kn_115 kn_116 kn_2 kn_117 rfl kd_X1_wordAt rfl rfl ⟨Nat.le_of_ble_eq_true rfl, Nat.le_of_ble_eq_true rfl⟩) hB 1 rfl rfl rfl hl.1 rfl (Nat.le_of_ble_eq_true rfl) dX3_mount_5 ⟨Nat.zero_le _, Nat.zero_le _⟩ (fun H locs hB => ?_)
  refine lv_ldc (v := 1396855379) S.1 S.2.1 S.2.2.2.1 (S.2.2.2.2 _ (List.mem_cons_of_mem _ kn_103)) dX3_mount_8 ?_
  refine lv_icmp_eq (tgt := 21) S.1 S.2.1 dX3_mount_10 (by decide) (fun h_10 => ?_) (fun h_10 => ?_)
  · skip
    refine lv_aload_n S.1 S.2.1 dX3_mount_21 rfl (lv_at hl 0 rfl) ?_
    refine kv_get (C := RX3) (T := TX3) (M := 5) (ci := 1) S hB (kn_c kn_iX3) 0 rfl rfl 0 (by decide) (List.mem_cons_of_mem _ kn_29) rfl rfl dX3_mount_22 ?_
    refine kv_vI (As := []) (rest := []) hN S (kc_DI_settleJournal l N hN D cA h d w r σ g dv dk pk  q n0 (hJ)) (kn_cV (C := RX1) S kn_118 kn_119 kn_120 kn_2 kn_121 rfl kd_X1_settleJournal rfl rfl ⟨Nat.le_of_ble_eq_true rfl, Nat.le_of_ble_eq_true rfl⟩) hB 1 rfl rfl rfl hl.1 rfl (Nat.le_of_ble_eq_true rfl) dX3_mount_25 ⟨Nat.zero_le _, Nat.zero_le _⟩ (fun H locs hB => ?_)
    have hB : kv_B N D [(cA, .int)] A s (vo_W h d w r cA ((kp_run (kp_se q n0 σ.1) σ).2) g dv dk pk) H locs := hB
    refine lv_if_ne (tgt := 36) S.1 S.2.1 dX3_mount_28 (by decide) (fun h_28 => ?_) (fun h_28 => ?_)
    · skip
      refine lv_aload_n S.1 S.2.1 dX3_mount_36 rfl (lv_at hl 0 rfl) ?_
      refine lv_iconst (v := 1) S.1 S.2.1 dX3_mount_37 (by decide) ?_
      refine kv_vV (As := [.int 1]) (rest := []) hN S (kc_VO_holdNoKeys l N hN D cA h d w r ((kp_run (kp_se q n0 σ.1) σ).2) g dv dk pk 1  ) (kn_cV (C := RX3) S kn_107 kn_108 kn_395 kn_1 kn_109 rfl kd_X3_holdNoKeys rfl rfl ⟨Nat.le_of_ble_eq_true rfl, Nat.le_of_ble_eq_true rfl⟩) hB 0 rfl rfl rfl hl.1 rfl (Nat.le_of_ble_eq_true rfl) dX3_mount_38 ⟨Nat.zero_le _, Nat.zero_le _⟩ (fun H locs hB => ?_)
      have hB : kv_B N D [(cA, .int)] A s (vo_W h d w r cA ((kp_run (kp_se q n0 σ.1) σ).2) g 1 0 0) H locs := hB
      refine lv_aload_n S.1 S.2.1 dX3_mount_41 rfl (lv_at hl 0 rfl) ?_
      refine kv_vI (As := []) (rest := []) hN S (kc_VO_activeSlots l N hN D cA h d w r ((kp_run (kp_se q n0 σ.1) σ).2) g 1 0 0   ) (kn_cV (C := RX3) S kn_130 kn_131 kn_398 kn_1 kn_132 rfl kd_X3_activeSlots rfl rfl ⟨Nat.le_of_ble_eq_true rfl, Nat.le_of_ble_eq_true rfl⟩) hB 0 rfl rfl rfl hl.1 rfl (Nat.le_of_ble_eq_true rfl) dX3_mount_42 ⟨Nat.zero_le _, Nat.zero_le _⟩ (fun H locs hB => ?_)
      exact K _ _ _ _ _ _ hB (by rw [kp_x_mount, if_pos h_10, if_neg h_28]) (by rw [kp_x_mount, if_pos h_10, if_neg h_28]) dX3_mount_45
    · skip
      refine lv_aload_n S.1 S.2.1 dX3_mount_31 rfl (lv_at hl 0 rfl) ?_
      refine kv_vI (As := []) (rest := []) hN S (kc_VO_powerLost l N hN D cA h d w r ((kp_run (kp_se q n0 σ.1) σ).2) g dv dk pk   ) (kn_cV (C := RX3) S kn_104 kn_105 kn_394 kn_1 kn_106 rfl kd_X3_powerLost rfl rfl ⟨Nat.le_of_ble_eq_true rfl, Nat.le_of_ble_eq_true rfl⟩) hB 0 rfl rfl rfl hl.1 rfl (Nat.le_of_ble_eq_true rfl) dX3_mount_32 ⟨Nat.zero_le _, Nat.zero_le _⟩ (fun H locs hB => ?_)
      have hB : kv_B N D [(cA, .int)] A s (vo_W h d w r cA ((kp_run (kp_se q n0 σ.1) σ).2) g 0 0 0) H locs := hB
      exact K _ _ _ _ _ _ hB (by rw [kp_x_mount, if_pos h_10, if_pos h_28]) (by rw [kp_x_mount, if_pos h_10, if_pos h_28]) dX3_mount_35
  · skip
    refine lv_aload_n S.1 S.2.1 dX3_mount_13 rfl (lv_at hl 0 rfl) ?_
    refine lv_iconst (v := 0) S.1 S.2.1 dX3_mount_14 (by decide) ?_
    refine kv_vV (As := [.int 0]) (rest := []) hN S (kc_VO_holdNoKeys l N hN D cA h d w r σ g dv dk pk 0  ) (kn_cV (C := RX3) S kn_107 kn_108 kn_395 kn_1 kn_109 rfl kd_X3_holdNoKeys rfl rfl ⟨Nat.le_of_ble_eq_true rfl, Nat.le_of_ble_eq_true rfl⟩) hB 0 rfl rfl rfl hl.1 rfl (Nat.le_of_ble_eq_true rfl) dX3_mount_15 ⟨Nat.zero_le _, Nat.zero_le _⟩ (fun H locs hB => ?_)
    have hB : kv_B N D [(cA, .int)] A s (vo_W h d w r cA σ g 0 0 0) H locs := hB
    refine lv_bipush (v := (-3)) S.1 S.2.1 dX3_mount_18 (by decide) ?_
    exact K _ _ _ _ _ _ hB (by rw [kp_x_mount, if_neg h_10]) (by rw [kp_x_mount, if_neg h_10]) dX3_mount_20

abbrev kr_VO_unlock : Room := { frames := 5, cells := 0, slots := 0, locals := 122 }
set_option maxRecDepth 100000 in
set_option maxHeartbeats 4000000 in
theorem kc_VO_unlock (l : Launch) (N : State → Prop) (hN : kv_Mv N) (D : va_G) (cA : ClassId) (h d w r : Nat) (σ : kp_S) (g : Nat → Int32) (dv dk pk : Int32) (pw : Int32) : kv_I N l yX3_unlock wsX3_unlock kr_VO_unlock D [(cA, .int)] [.ref h, .int pw] (vo_W h d w r cA σ g dv dk pk) ((kp_x_unlock (σ, g, dv, dk, pk) pw).1) (vo_T h d w r cA (kp_x_unlock (σ, g, dv, dk, pk) pw).2) := by
  refine kv_openI (cc := cX3_unlock) (maxL := 3) (rt := .int) (by decide) rfl (rfl) (Nat.le_of_ble_eq_true rfl) ?_
  intro p e s m args below meth c A H locs ls Q S hl hB K
  have hl : lv_has ls 3 [(0, .ref h), (1, .int pw)] := hl
  refine lv_aload_n S.1 S.2.1 dX3_unlock_0 rfl (lv_at hl 0 rfl) ?_
  refine kv_get (C := RX3) (T := TX3) (M := 5) (ci := 1) S hB (kn_c kn_iX3) 0 rfl rfl 2 (by decide) (List.mem_cons_of_mem _ kn_31) rfl rfl dX3_unlock_1 ?_
  refine lv_if_ne (tgt := 10) S.1 S.2.1 dX3_unlock_4 (by decide) (fun h_4 => ?_) (fun h_4 => ?_)
  · skip
    refine lv_iconst (v := 0) S.1 S.2.1 dX3_unlock_10 (by decide) ?_
    refine lv_istore_n S.1 S.2.1 dX3_unlock_11 rfl hl (by decide) rfl (fun ls hl => ?_)
    have hl : lv_has ls 3 [(2, .int 0), (0, .ref h), (1, .int pw)] := hl
    have loop12 : ∀ (n : Nat) (k : Nat) (H : Heap) (locs : List Loc) (ls : Array Slot), (k + n = 4) → (kp_un σ.1 pw (dv, dk, pk) n k = kp_un σ.1 pw (dv, dk, pk) 4 0) → lv_has ls 3 [(2, .int (nI k)), (0, .ref h), (1, .int pw)] → kv_B N D [(cA, .int)] A s (vo_W h d w r cA σ g dv dk pk) H locs → W p l e kr_VO_unlock s m args below meth c H locs 0 0 Q (F0 m 12 ls []) := by
      intro n
      induction n with
      | zero =>
        intro k H locs ls hk hT hl hB
        refine lv_iload_n S.1 S.2.1 dX3_unlock_12 rfl (lv_at hl 0 rfl) ?_
        refine lv_iconst (v := 4) S.1 S.2.1 dX3_unlock_13 (by decide) ?_
        refine kv_bge (x := k) (y := 4) (tgt := 42) S (by omega) (by omega) dX3_unlock_14 (by decide) (fun h_14 => ?_) (fun h => absurd h (by omega))
        refine lv_bipush (v := (-9)) S.1 S.2.1 dX3_unlock_42 (by decide) ?_
        exact K _ _ _ _ _ _ hB (by rw [kp_x_unlock, if_neg h_4, ← hT]; rfl) (by rw [kp_x_unlock, if_neg h_4, ← hT]; rfl) dX3_unlock_44
      | succ n ih12 =>
        intro k H locs ls hk hT hl hB
        refine lv_iload_n S.1 S.2.1 dX3_unlock_12 rfl (lv_at hl 0 rfl) ?_
        refine lv_iconst (v := 4) S.1 S.2.1 dX3_unlock_13 (by decide) ?_
        refine kv_bge (x := k) (y := 4) (tgt := 42) S (by omega) (by omega) dX3_unlock_14 (by decide) (fun h => absurd h (by omega)) (fun h_14 => ?_)
        refine lv_aload_n S.1 S.2.1 dX3_unlock_17 rfl (lv_at hl 1 rfl) ?_
        refine lv_iload_n S.1 S.2.1 dX3_unlock_18 rfl (lv_at hl 0 rfl) ?_
        refine kv_vI (As := [.int (nI k)]) (rest := []) hN S (kc_VO_isActive l N hN D cA h d w r σ g dv dk pk k  (by omega)) (kn_cV (C := RX3) S kn_137 kn_138 kn_399 kn_1 kn_139 rfl kd_X3_isActive rfl rfl ⟨Nat.le_of_ble_eq_true rfl, Nat.le_of_ble_eq_true rfl⟩) hB 0 rfl rfl rfl hl.1 rfl (Nat.le_of_ble_eq_true rfl) dX3_unlock_19 ⟨Nat.zero_le _, Nat.zero_le _⟩ (fun H locs hB => ?_)
        refine lv_if_eq (tgt := 36) S.1 S.2.1 dX3_unlock_22 (by decide) (fun h_22 => ?_) (fun h_22 => ?_)
        · skip
          refine lv_iinc (k := 0) (v := nI (k + 1)) S.1 S.2.1 dX3_unlock_36 hl rfl (nI_1 k) (by decide) rfl (fun ls hl => ?_)
          have hl : lv_has ls 3 [(2, .int (nI (k + 1))), (0, .ref h), (1, .int pw)] := hl
          refine lv_goto (tgt := 12) S.1 S.2.1 dX3_unlock_39 (by decide) ?_
          exact ih12 (k + 1) _ _ _ (by omega) (by first | rw [← hT, kp_un, if_pos h_22] | rw [← hT, kp_un, if_neg h_22, if_pos h_31]) (lv_sub hl [0, 1, 2] rfl) hB
        · skip
          refine lv_aload_n S.1 S.2.1 dX3_unlock_25 rfl (lv_at hl 1 rfl) ?_
          refine lv_iload_n S.1 S.2.1 dX3_unlock_26 rfl (lv_at hl 0 rfl) ?_
          refine lv_iload_n S.1 S.2.1 dX3_unlock_27 rfl (lv_at hl 2 rfl) ?_
          refine kv_vI (As := [.int (nI k), .int pw]) (rest := []) hN S (kc_VO_opensWith l N hN D cA h d w r σ g dv dk pk k pw  (by omega)) (kn_cV (C := RX3) S kn_150 kn_151 kn_400 kn_1 kn_152 rfl kd_X3_opensWith rfl rfl ⟨Nat.le_of_ble_eq_true rfl, Nat.le_of_ble_eq_true rfl⟩) hB 0 rfl rfl rfl hl.1 rfl (Nat.le_of_ble_eq_true rfl) dX3_unlock_28 ⟨Nat.zero_le _, Nat.zero_le _⟩ (fun H locs hB => ?_)
          have hB : kv_B N D [(cA, .int)] A s (vo_W h d w r cA σ g (if kp_om σ.1 k pw = 0 then dv else 2) (if kp_om σ.1 k pw = 0 then dk else kp_oh σ.1 (4 + 8 * k) pw 0) (if kp_om σ.1 k pw = 0 then pk else kp_oh σ.1 (4 + 8 * k) pw 1)) H locs := hB
          refine lv_if_eq (tgt := 36) S.1 S.2.1 dX3_unlock_31 (by decide) (fun h_31 => ?_) (fun h_31 => ?_)
          · skip
            simp only [if_pos h_31] at hB
            have hB : kv_B N D [(cA, .int)] A s (vo_W h d w r cA σ g dv dk pk) H locs := hB
            refine lv_iinc (k := 0) (v := nI (k + 1)) S.1 S.2.1 dX3_unlock_36 hl rfl (nI_1 k) (by decide) rfl (fun ls hl => ?_)
            have hl : lv_has ls 3 [(2, .int (nI (k + 1))), (0, .ref h), (1, .int pw)] := hl
            refine lv_goto (tgt := 12) S.1 S.2.1 dX3_unlock_39 (by decide) ?_
            exact ih12 (k + 1) _ _ _ (by omega) (by first | rw [← hT, kp_un, if_pos h_22] | rw [← hT, kp_un, if_neg h_22, if_pos h_31]) (lv_sub hl [0, 1, 2] rfl) hB
          · skip
            simp only [if_neg h_31] at hB
            have hT1 : (nI k, 2, kp_oh σ.1 (4 + 8 * k) pw 0, kp_oh σ.1 (4 + 8 * k) pw 1) = kp_un σ.1 pw (dv, dk, pk) 4 0 := by rw [← hT, kp_un, if_neg h_22, if_neg h_31]
            refine lv_iload_n S.1 S.2.1 dX3_unlock_34 rfl (lv_at hl 0 rfl) ?_
            exact K _ _ _ _ _ _ hB (by rw [kp_x_unlock, if_neg h_4, ← hT1]) (by rw [kp_x_unlock, if_neg h_4, ← hT1]) dX3_unlock_35
    exact loop12 4 0 _ _ _ (rfl) (rfl) (lv_sub hl [0, 1, 2] rfl) hB
  · skip
    refine lv_bipush (v := (-2)) S.1 S.2.1 dX3_unlock_7 (by decide) ?_
    exact K _ _ _ _ _ _ hB (by rw [kp_x_unlock, if_pos h_4]) (by rw [kp_x_unlock, if_pos h_4]) dX3_unlock_9

abbrev kr_VO_lock : Room := { frames := 1, cells := 0, slots := 0, locals := 21 }
set_option maxRecDepth 100000 in
set_option maxHeartbeats 4000000 in
theorem kc_VO_lock (l : Launch) (N : State → Prop) (hN : kv_Mv N) (D : va_G) (cA : ClassId) (h d w r : Nat) (σ : kp_S) (g : Nat → Int32) (dv dk pk : Int32) : kv_I N l yX3_lock wsX3_lock kr_VO_lock D [(cA, .int)] [.ref h] (vo_W h d w r cA σ g dv dk pk) ((kp_x_lock (σ, g, dv, dk, pk)).1) (vo_T h d w r cA (kp_x_lock (σ, g, dv, dk, pk)).2) := by
  refine kv_openI (cc := cX3_lock) (maxL := 2) (rt := .int) (by decide) rfl (rfl) (Nat.le_of_ble_eq_true rfl) ?_
  intro p e s m args below meth c A H locs ls Q S hl hB K
  have hl : lv_has ls 2 [(0, .ref h)] := hl
  refine lv_aload_n S.1 S.2.1 dX3_lock_0 rfl (lv_at hl 0 rfl) ?_
  refine kv_get (C := RX3) (T := TX3) (M := 5) (ci := 1) S hB (kn_c kn_iX3) 0 rfl rfl 2 (by decide) (List.mem_cons_of_mem _ kn_31) rfl rfl dX3_lock_1 ?_
  refine lv_if_ne (tgt := 10) S.1 S.2.1 dX3_lock_4 (by decide) (fun h_4 => ?_) (fun h_4 => ?_)
  · skip
    refine lv_aload_n S.1 S.2.1 dX3_lock_10 rfl (lv_at hl 0 rfl) ?_
    refine kv_get (C := RX3) (T := TX3) (M := 5) (ci := 1) S hB (kn_c kn_iX3) 0 rfl rfl 2 (by decide) (List.mem_cons_of_mem _ kn_31) rfl rfl dX3_lock_11 ?_
    refine lv_iconst (v := 2) S.1 S.2.1 dX3_lock_14 (by decide) ?_
    refine lv_icmp_ne (tgt := 22) S.1 S.2.1 dX3_lock_15 (by decide) (fun h_15 => ?_) (fun h_15 => ?_)
    · skip
      refine lv_iconst (v := 0) S.1 S.2.1 dX3_lock_22 (by decide) ?_
      refine lv_istore_n S.1 S.2.1 dX3_lock_23 rfl hl (by decide) rfl (fun ls hl => ?_)
      have hl : lv_has ls 2 [(1, .int 0), (0, .ref h)] := hl
      refine lv_aload_n S.1 S.2.1 dX3_lock_24 rfl (lv_at hl 1 rfl) ?_
      refine lv_iconst (v := 1) S.1 S.2.1 dX3_lock_25 (by decide) ?_
      refine kv_vV (As := [.int 1]) (rest := []) hN S (kc_VO_holdNoKeys l N hN D cA h d w r σ g dv dk pk 1  ) (kn_cV (C := RX3) S kn_107 kn_108 kn_395 kn_1 kn_109 rfl kd_X3_holdNoKeys rfl rfl ⟨Nat.le_of_ble_eq_true rfl, Nat.le_of_ble_eq_true rfl⟩) hB 0 rfl rfl rfl hl.1 rfl (Nat.le_of_ble_eq_true rfl) dX3_lock_26 ⟨Nat.zero_le _, Nat.zero_le _⟩ (fun H locs hB => ?_)
      have hB : kv_B N D [(cA, .int)] A s (vo_W h d w r cA σ g 1 0 0) H locs := hB
      refine lv_iload_n S.1 S.2.1 dX3_lock_29 rfl (lv_at hl 0 rfl) ?_
      exact K _ _ _ _ _ _ hB (by first | rw [kp_x_lock, if_neg h_4, if_pos h_15] | rw [kp_x_lock, if_neg h_4, if_neg h_15]) (by rw [kp_x_lock, if_neg h_4]) dX3_lock_30
    · skip
      refine lv_iconst (v := 1) S.1 S.2.1 dX3_lock_18 (by decide) ?_
      refine lv_goto (tgt := 23) S.1 S.2.1 dX3_lock_19 (by decide) ?_
      refine lv_istore_n S.1 S.2.1 dX3_lock_23 rfl hl (by decide) rfl (fun ls hl => ?_)
      have hl : lv_has ls 2 [(1, .int 1), (0, .ref h)] := hl
      refine lv_aload_n S.1 S.2.1 dX3_lock_24 rfl (lv_at hl 1 rfl) ?_
      refine lv_iconst (v := 1) S.1 S.2.1 dX3_lock_25 (by decide) ?_
      refine kv_vV (As := [.int 1]) (rest := []) hN S (kc_VO_holdNoKeys l N hN D cA h d w r σ g dv dk pk 1  ) (kn_cV (C := RX3) S kn_107 kn_108 kn_395 kn_1 kn_109 rfl kd_X3_holdNoKeys rfl rfl ⟨Nat.le_of_ble_eq_true rfl, Nat.le_of_ble_eq_true rfl⟩) hB 0 rfl rfl rfl hl.1 rfl (Nat.le_of_ble_eq_true rfl) dX3_lock_26 ⟨Nat.zero_le _, Nat.zero_le _⟩ (fun H locs hB => ?_)
      have hB : kv_B N D [(cA, .int)] A s (vo_W h d w r cA σ g 1 0 0) H locs := hB
      refine lv_iload_n S.1 S.2.1 dX3_lock_29 rfl (lv_at hl 0 rfl) ?_
      exact K _ _ _ _ _ _ hB (by first | rw [kp_x_lock, if_neg h_4, if_pos h_15] | rw [kp_x_lock, if_neg h_4, if_neg h_15]) (by rw [kp_x_lock, if_neg h_4]) dX3_lock_30
  · skip
    refine lv_bipush (v := (-2)) S.1 S.2.1 dX3_lock_7 (by decide) ?_
    exact K _ _ _ _ _ _ hB (by rw [kp_x_lock, if_pos h_4]) (by rw [kp_x_lock, if_pos h_4]) dX3_lock_9

abbrev kr_VO_add : Room := { frames := 6, cells := 0, slots := 0, locals := 147 }
set_option maxRecDepth 100000 in
set_option maxHeartbeats 4000000 in
theorem kc_VO_add (l : Launch) (N : State → Prop) (hN : kv_Mv N) (D : va_G) (cA : ClassId) (h d w r : Nat) (σ : kp_S) (g : Nat → Int32) (dv dk pk : Int32) (pw : Int32) (sd : Int32) : kv_I N l yX3_add wsX3_add kr_VO_add D [(cA, .int)] [.ref h, .int pw, .int sd] (vo_W h d w r cA σ g dv dk pk) ((kp_x_add (σ, g, dv, dk, pk) pw sd).1) (vo_T h d w r cA (kp_x_add (σ, g, dv, dk, pk) pw sd).2) := by
  refine kv_openI (cc := cX3_add) (maxL := 5) (rt := .int) (by decide) rfl (rfl) (Nat.le_of_ble_eq_true rfl) ?_
  intro p e s m args below meth c A H locs ls Q S hl hB K
  have hl : lv_has ls 5 [(0, .ref h), (1, .int pw), (2, .int sd)] := hl
  have hlf := kp_lf_le σ.1 4 0
  refine lv_aload_n S.1 S.2.1 dX3_add_0 rfl (lv_at hl 0 rfl) ?_
  refine kv_vI (As := []) (rest := []) hN S (kc_VO_refusalUnlessOpen l N hN D cA h d w r σ g dv dk pk   ) (kn_cV (C := RX3) S kn_168 kn_169 kn_401 kn_1 kn_170 rfl kd_X3_refusalUnlessOpen rfl rfl ⟨Nat.le_of_ble_eq_true rfl, Nat.le_of_ble_eq_true rfl⟩) hB 0 rfl rfl rfl hl.1 rfl (Nat.le_of_ble_eq_true rfl) dX3_add_1 ⟨Nat.zero_le _, Nat.zero_le _⟩ (fun H locs hB => ?_)
  refine lv_topi (fun x_1 ex_1 => ?_)
  refine lv_istore_n S.1 S.2.1 dX3_add_4 rfl hl (by decide) rfl (fun ls hl => ?_)
  have hl : lv_has ls 5 [(3, .int x_1), (0, .ref h), (1, .int pw), (2, .int sd)] := hl
  refine lv_iload_n S.1 S.2.1 dX3_add_5 rfl (lv_at hl 0 rfl) ?_
  refine lv_if_eq (tgt := 11) S.1 S.2.1 dX3_add_6 (by decide) (fun h_6 => ?_) (fun h_6 => ?_)
  · skip
    have h_6 : kp_ro dv = 0 := by rw [← ex_1]; exact h_6
    refine lv_aload_n S.1 S.2.1 dX3_add_11 rfl (lv_at hl 1 rfl) ?_
    refine kv_vI (As := []) (rest := []) hN S (kc_VO_leastFreeSlot l N hN D cA h d w r σ g dv dk pk   ) (kn_cV (C := RX3) S kn_171 kn_172 kn_402 kn_1 kn_173 rfl kd_X3_leastFreeSlot rfl rfl ⟨Nat.le_of_ble_eq_true rfl, Nat.le_of_ble_eq_true rfl⟩) hB 0 rfl rfl rfl hl.1 rfl (Nat.le_of_ble_eq_true rfl) dX3_add_12 ⟨Nat.zero_le _, Nat.zero_le _⟩ (fun H locs hB => ?_)
    refine lv_istore S.1 S.2.1 dX3_add_15 hl (by decide) rfl (fun ls hl => ?_)
    have hl : lv_has ls 5 [(4, .int (nI (kp_lf σ.1 4 0))), (3, .int x_1), (0, .ref h), (1, .int pw), (2, .int sd)] := hl
    refine lv_iload S.1 S.2.1 dX3_add_17 (lv_at hl 0 rfl) ?_
    refine lv_iconst (v := 4) S.1 S.2.1 dX3_add_19 (by decide) ?_
    refine kv_bne (x := kp_lf σ.1 4 0) (y := 4) (tgt := 26) S (by omega) (by omega) dX3_add_20 (by decide) (fun h_20 => ?_) (fun h_20 => ?_)
    · skip
      refine lv_aload_n S.1 S.2.1 dX3_add_26 rfl (lv_at hl 2 rfl) ?_
      refine lv_iload S.1 S.2.1 dX3_add_27 (lv_at hl 0 rfl) ?_
      refine lv_iload_n S.1 S.2.1 dX3_add_29 rfl (lv_at hl 3 rfl) ?_
      refine lv_iload_n S.1 S.2.1 dX3_add_30 rfl (lv_at hl 4 rfl) ?_
      refine kv_vI (As := [.int (nI (kp_lf σ.1 4 0)), .int pw, .int sd]) (rest := []) hN S (kc_VO_fillSlot l N hN D cA h d w r σ g dv dk pk (kp_lf σ.1 4 0) pw sd  (by omega)) (kn_cV (C := RX3) S kn_174 kn_175 kn_403 kn_1 kn_176 rfl kd_X3_fillSlot rfl rfl ⟨Nat.le_of_ble_eq_true rfl, Nat.le_of_ble_eq_true rfl⟩) hB 0 rfl rfl rfl hl.1 rfl (Nat.le_of_ble_eq_true rfl) dX3_add_31 ⟨Nat.zero_le _, Nat.zero_le _⟩ (fun H locs hB => ?_)
      have hB : kv_B N D [(cA, .int)] A s (vo_W h d w r cA ((kp_run (kp_ch 8 0 8 (4 + 8 * (kp_lf σ.1 4 0)) (kp_wo g 0 dk pk pw sd) σ.1) σ).2) (kp_wo g 0 dk pk pw sd) dv dk pk) H locs := hB
      refine lv_if_eq (tgt := 42) S.1 S.2.1 dX3_add_34 (by decide) (fun h_34 => ?_) (fun h_34 => ?_)
      · skip
        refine lv_aload_n S.1 S.2.1 dX3_add_42 rfl (lv_at hl 2 rfl) ?_
        refine kv_vI (As := []) (rest := []) hN S (kc_VO_powerLost l N hN D cA h d w r ((kp_run (kp_ch 8 0 8 (4 + 8 * (kp_lf σ.1 4 0)) (kp_wo g 0 dk pk pw sd) σ.1) σ).2) (kp_wo g 0 dk pk pw sd) dv dk pk   ) (kn_cV (C := RX3) S kn_104 kn_105 kn_394 kn_1 kn_106 rfl kd_X3_powerLost rfl rfl ⟨Nat.le_of_ble_eq_true rfl, Nat.le_of_ble_eq_true rfl⟩) hB 0 rfl rfl rfl hl.1 rfl (Nat.le_of_ble_eq_true rfl) dX3_add_43 ⟨Nat.zero_le _, Nat.zero_le _⟩ (fun H locs hB => ?_)
        have hB : kv_B N D [(cA, .int)] A s (vo_W h d w r cA ((kp_run (kp_ch 8 0 8 (4 + 8 * (kp_lf σ.1 4 0)) (kp_wo g 0 dk pk pw sd) σ.1) σ).2) (kp_wo g 0 dk pk pw sd) 0 0 0) H locs := hB
        exact K _ _ _ _ _ _ hB (by first | rw [kp_x_add, if_pos h_6, if_neg h_20, kp_fin, if_pos h_34] | rw [kp_x_add, if_pos h_6, if_neg h_20, kp_fin, if_neg h_34]) (by first | rw [kp_x_add, if_pos h_6, if_neg h_20, kp_fin, if_pos h_34] | rw [kp_x_add, if_pos h_6, if_neg h_20, kp_fin, if_neg h_34]) dX3_add_46
      · skip
        refine lv_iload S.1 S.2.1 dX3_add_37 (lv_at hl 0 rfl) ?_
        refine lv_goto (tgt := 46) S.1 S.2.1 dX3_add_39 (by decide) ?_
        exact K _ _ _ _ _ _ hB (by first | rw [kp_x_add, if_pos h_6, if_neg h_20, kp_fin, if_pos h_34] | rw [kp_x_add, if_pos h_6, if_neg h_20, kp_fin, if_neg h_34]) (by first | rw [kp_x_add, if_pos h_6, if_neg h_20, kp_fin, if_pos h_34] | rw [kp_x_add, if_pos h_6, if_neg h_20, kp_fin, if_neg h_34]) dX3_add_46
    · skip
      refine lv_bipush (v := (-7)) S.1 S.2.1 dX3_add_23 (by decide) ?_
      exact K _ _ _ _ _ _ hB (by rw [kp_x_add, if_pos h_6, if_pos h_20]) (by rw [kp_x_add, if_pos h_6, if_pos h_20]) dX3_add_25
  · skip
    have h_6 : ¬ kp_ro dv = 0 := by rw [← ex_1]; exact h_6
    refine lv_iload_n S.1 S.2.1 dX3_add_9 rfl (lv_at hl 0 rfl) ?_
    exact K _ _ _ _ _ _ hB (by rw [kp_x_add, if_neg h_6, ex_1]) (by rw [kp_x_add, if_neg h_6]) dX3_add_10

abbrev kr_VO_change : Room := { frames := 6, cells := 0, slots := 0, locals := 147 }
set_option maxRecDepth 100000 in
set_option maxHeartbeats 4000000 in
theorem kc_VO_change (l : Launch) (N : State → Prop) (hN : kv_Mv N) (D : va_G) (cA : ClassId) (h d w r : Nat) (σ : kp_S) (g : Nat → Int32) (dv dk pk : Int32) (x : Int32) (pw : Int32) (sd : Int32) : kv_I N l yX3_change wsX3_change kr_VO_change D [(cA, .int)] [.ref h, .int x, .int pw, .int sd] (vo_W h d w r cA σ g dv dk pk) ((kp_x_change (σ, g, dv, dk, pk) x pw sd).1) (vo_T h d w r cA (kp_x_change (σ, g, dv, dk, pk) x pw sd).2) := by
  refine kv_openI (cc := cX3_change) (maxL := 5) (rt := .int) (by decide) rfl (rfl) (Nat.le_of_ble_eq_true rfl) ?_
  intro p e s m args below meth c A H locs ls Q S hl hB K
  have hl : lv_has ls 5 [(0, .ref h), (1, .int x), (2, .int pw), (3, .int sd)] := hl
  refine lv_aload_n S.1 S.2.1 dX3_change_0 rfl (lv_at hl 0 rfl) ?_
  refine lv_iload_n S.1 S.2.1 dX3_change_1 rfl (lv_at hl 1 rfl) ?_
  refine kv_vI (As := [.int x]) (rest := []) hN S (kc_VO_refusalOfSlot l N hN D cA h d w r σ g dv dk pk x  ) (kn_cV (C := RX3) S kn_185 kn_186 kn_404 kn_1 kn_187 rfl kd_X3_refusalOfSlot rfl rfl ⟨Nat.le_of_ble_eq_true rfl, Nat.le_of_ble_eq_true rfl⟩) hB 0 rfl rfl rfl hl.1 rfl (Nat.le_of_ble_eq_true rfl) dX3_change_2 ⟨Nat.zero_le _, Nat.zero_le _⟩ (fun H locs hB => ?_)
  refine lv_topi (fun x_1 ex_1 => ?_)
  refine lv_istore S.1 S.2.1 dX3_change_5 hl (by decide) rfl (fun ls hl => ?_)
  have hl : lv_has ls 5 [(4, .int x_1), (0, .ref h), (1, .int x), (2, .int pw), (3, .int sd)] := hl
  refine lv_iload S.1 S.2.1 dX3_change_7 (lv_at hl 0 rfl) ?_
  refine lv_if_eq (tgt := 15) S.1 S.2.1 dX3_change_9 (by decide) (fun h_9 => ?_) (fun h_9 => ?_)
  · skip
    have h_R : kp_rs σ.1 dv x = 0 := by rw [← ex_1]; exact h_9
    obtain ⟨k, hk, rfl⟩ := kp_rs_k h_R
    refine lv_aload_n S.1 S.2.1 dX3_change_15 rfl (lv_at hl 1 rfl) ?_
    refine lv_iload_n S.1 S.2.1 dX3_change_16 rfl (lv_at hl 2 rfl) ?_
    refine lv_iload_n S.1 S.2.1 dX3_change_17 rfl (lv_at hl 3 rfl) ?_
    refine lv_iload_n S.1 S.2.1 dX3_change_18 rfl (lv_at hl 4 rfl) ?_
    refine kv_vI (As := [.int (nI k), .int pw, .int sd]) (rest := []) hN S (kc_VO_fillSlot l N hN D cA h d w r σ g dv dk pk k pw sd  (by omega)) (kn_cV (C := RX3) S kn_174 kn_175 kn_403 kn_1 kn_176 rfl kd_X3_fillSlot rfl rfl ⟨Nat.le_of_ble_eq_true rfl, Nat.le_of_ble_eq_true rfl⟩) hB 0 rfl rfl rfl hl.1 rfl (Nat.le_of_ble_eq_true rfl) dX3_change_19 ⟨Nat.zero_le _, Nat.zero_le _⟩ (fun H locs hB => ?_)
    have hB : kv_B N D [(cA, .int)] A s (vo_W h d w r cA ((kp_run (kp_ch 8 0 8 (4 + 8 * k) (kp_wo g 0 dk pk pw sd) σ.1) σ).2) (kp_wo g 0 dk pk pw sd) dv dk pk) H locs := hB
    refine lv_if_eq (tgt := 29) S.1 S.2.1 dX3_change_22 (by decide) (fun h_22 => ?_) (fun h_22 => ?_)
    · skip
      refine lv_aload_n S.1 S.2.1 dX3_change_29 rfl (lv_at hl 1 rfl) ?_
      refine kv_vI (As := []) (rest := []) hN S (kc_VO_powerLost l N hN D cA h d w r ((kp_run (kp_ch 8 0 8 (4 + 8 * k) (kp_wo g 0 dk pk pw sd) σ.1) σ).2) (kp_wo g 0 dk pk pw sd) dv dk pk   ) (kn_cV (C := RX3) S kn_104 kn_105 kn_394 kn_1 kn_106 rfl kd_X3_powerLost rfl rfl ⟨Nat.le_of_ble_eq_true rfl, Nat.le_of_ble_eq_true rfl⟩) hB 0 rfl rfl rfl hl.1 rfl (Nat.le_of_ble_eq_true rfl) dX3_change_30 ⟨Nat.zero_le _, Nat.zero_le _⟩ (fun H locs hB => ?_)
      have hB : kv_B N D [(cA, .int)] A s (vo_W h d w r cA ((kp_run (kp_ch 8 0 8 (4 + 8 * k) (kp_wo g 0 dk pk pw sd) σ.1) σ).2) (kp_wo g 0 dk pk pw sd) 0 0 0) H locs := hB
      exact K _ _ _ _ _ _ hB (by first | rw [kp_x_change, if_pos h_R, nI_clamp (by omega), kp_fin, if_pos h_22] | rw [kp_x_change, if_pos h_R, nI_clamp (by omega), kp_fin, if_neg h_22]) (by first | rw [kp_x_change, if_pos h_R, nI_clamp (by omega), kp_fin, if_pos h_22] | rw [kp_x_change, if_pos h_R, nI_clamp (by omega), kp_fin, if_neg h_22]) dX3_change_33
    · skip
      refine lv_iconst (v := 0) S.1 S.2.1 dX3_change_25 (by decide) ?_
      refine lv_goto (tgt := 33) S.1 S.2.1 dX3_change_26 (by decide) ?_
      exact K _ _ _ _ _ _ hB (by first | rw [kp_x_change, if_pos h_R, nI_clamp (by omega), kp_fin, if_pos h_22] | rw [kp_x_change, if_pos h_R, nI_clamp (by omega), kp_fin, if_neg h_22]) (by first | rw [kp_x_change, if_pos h_R, nI_clamp (by omega), kp_fin, if_pos h_22] | rw [kp_x_change, if_pos h_R, nI_clamp (by omega), kp_fin, if_neg h_22]) dX3_change_33
  · skip
    have h_R : ¬ kp_rs σ.1 dv x = 0 := by rw [← ex_1]; exact h_9
    refine lv_iload S.1 S.2.1 dX3_change_12 (lv_at hl 0 rfl) ?_
    exact K _ _ _ _ _ _ hB (by rw [kp_x_change, if_neg h_R, ex_1]) (by rw [kp_x_change, if_neg h_R]) dX3_change_14

abbrev kr_VO_revoke : Room := { frames := 5, cells := 0, slots := 0, locals := 111 }
set_option maxRecDepth 100000 in
set_option maxHeartbeats 4000000 in
theorem kc_VO_revoke (l : Launch) (N : State → Prop) (hN : kv_Mv N) (D : va_G) (cA : ClassId) (h d w r : Nat) (σ : kp_S) (g : Nat → Int32) (dv dk pk : Int32) (x : Int32) : kv_I N l yX3_revoke wsX3_revoke kr_VO_revoke D [(cA, .int)] [.ref h, .int x] (vo_W h d w r cA σ g dv dk pk) ((kp_x_revoke (σ, g, dv, dk, pk) x).1) (vo_T h d w r cA (kp_x_revoke (σ, g, dv, dk, pk) x).2) := by
  refine kv_openI (cc := cX3_revoke) (maxL := 3) (rt := .int) (by decide) rfl (rfl) (Nat.le_of_ble_eq_true rfl) ?_
  intro p e s m args below meth c A H locs ls Q S hl hB K
  have hl : lv_has ls 3 [(0, .ref h), (1, .int x)] := hl
  refine lv_aload_n S.1 S.2.1 dX3_revoke_0 rfl (lv_at hl 0 rfl) ?_
  refine lv_iload_n S.1 S.2.1 dX3_revoke_1 rfl (lv_at hl 1 rfl) ?_
  refine kv_vI (As := [.int x]) (rest := []) hN S (kc_VO_refusalOfSlot l N hN D cA h d w r σ g dv dk pk x  ) (kn_cV (C := RX3) S kn_185 kn_186 kn_404 kn_1 kn_187 rfl kd_X3_refusalOfSlot rfl rfl ⟨Nat.le_of_ble_eq_true rfl, Nat.le_of_ble_eq_true rfl⟩) hB 0 rfl rfl rfl hl.1 rfl (Nat.le_of_ble_eq_true rfl) dX3_revoke_2 ⟨Nat.zero_le _, Nat.zero_le _⟩ (fun H locs hB => ?_)
  refine lv_topi (fun x_1 ex_1 => ?_)
  refine lv_istore_n S.1 S.2.1 dX3_revoke_5 rfl hl (by decide) rfl (fun ls hl => ?_)
  have hl : lv_has ls 3 [(2, .int x_1), (0, .ref h), (1, .int x)] := hl
  refine lv_iload_n S.1 S.2.1 dX3_revoke_6 rfl (lv_at hl 0 rfl) ?_
  refine lv_if_eq (tgt := 12) S.1 S.2.1 dX3_revoke_7 (by decide) (fun h_7 => ?_) (fun h_7 => ?_)
  · skip
    have h_R : kp_rs σ.1 dv x = 0 := by rw [← ex_1]; exact h_7
    obtain ⟨k, hk, rfl⟩ := kp_rs_k h_R
    refine lv_aload_n S.1 S.2.1 dX3_revoke_12 rfl (lv_at hl 1 rfl) ?_
    refine kv_vI (As := []) (rest := []) hN S (kc_VO_activeSlots l N hN D cA h d w r σ g dv dk pk   ) (kn_cV (C := RX3) S kn_130 kn_131 kn_398 kn_1 kn_132 rfl kd_X3_activeSlots rfl rfl ⟨Nat.le_of_ble_eq_true rfl, Nat.le_of_ble_eq_true rfl⟩) hB 0 rfl rfl rfl hl.1 rfl (Nat.le_of_ble_eq_true rfl) dX3_revoke_13 ⟨Nat.zero_le _, Nat.zero_le _⟩ (fun H locs hB => ?_)
    refine lv_iconst (v := 1) S.1 S.2.1 dX3_revoke_16 (by decide) ?_
    refine lv_icmp_ne (tgt := 23) S.1 S.2.1 dX3_revoke_17 (by decide) (fun h_17 => ?_) (fun h_17 => ?_)
    · skip
      refine lv_aload_n S.1 S.2.1 dX3_revoke_23 rfl (lv_at hl 1 rfl) ?_
      refine lv_iload_n S.1 S.2.1 dX3_revoke_24 rfl (lv_at hl 2 rfl) ?_
      refine kv_vI (As := [.int (nI k)]) (rest := []) hN S (kc_VO_clearSlot l N hN D cA h d w r σ g dv dk pk k  (by omega)) (kn_cV (C := RX3) S kn_192 kn_193 kn_405 kn_1 kn_194 rfl kd_X3_clearSlot rfl rfl ⟨Nat.le_of_ble_eq_true rfl, Nat.le_of_ble_eq_true rfl⟩) hB 0 rfl rfl rfl hl.1 rfl (Nat.le_of_ble_eq_true rfl) dX3_revoke_25 ⟨Nat.zero_le _, Nat.zero_le _⟩ (fun H locs hB => ?_)
      have hB : kv_B N D [(cA, .int)] A s (vo_W h d w r cA ((kp_run (kp_ch 8 0 8 (4 + 8 * k) (fun _ => 0) σ.1) σ).2) (fun _ => 0) dv dk pk) H locs := hB
      refine lv_if_eq (tgt := 35) S.1 S.2.1 dX3_revoke_28 (by decide) (fun h_28 => ?_) (fun h_28 => ?_)
      · skip
        refine lv_aload_n S.1 S.2.1 dX3_revoke_35 rfl (lv_at hl 1 rfl) ?_
        refine kv_vI (As := []) (rest := []) hN S (kc_VO_powerLost l N hN D cA h d w r ((kp_run (kp_ch 8 0 8 (4 + 8 * k) (fun _ => 0) σ.1) σ).2) (fun _ => 0) dv dk pk   ) (kn_cV (C := RX3) S kn_104 kn_105 kn_394 kn_1 kn_106 rfl kd_X3_powerLost rfl rfl ⟨Nat.le_of_ble_eq_true rfl, Nat.le_of_ble_eq_true rfl⟩) hB 0 rfl rfl rfl hl.1 rfl (Nat.le_of_ble_eq_true rfl) dX3_revoke_36 ⟨Nat.zero_le _, Nat.zero_le _⟩ (fun H locs hB => ?_)
        have hB : kv_B N D [(cA, .int)] A s (vo_W h d w r cA ((kp_run (kp_ch 8 0 8 (4 + 8 * k) (fun _ => 0) σ.1) σ).2) (fun _ => 0) 0 0 0) H locs := hB
        exact K _ _ _ _ _ _ hB (by first | rw [kp_x_revoke, if_pos h_R, if_neg h_17, nI_clamp (by omega), kp_fin, if_pos h_28] | rw [kp_x_revoke, if_pos h_R, if_neg h_17, nI_clamp (by omega), kp_fin, if_neg h_28]) (by first | rw [kp_x_revoke, if_pos h_R, if_neg h_17, nI_clamp (by omega), kp_fin, if_pos h_28] | rw [kp_x_revoke, if_pos h_R, if_neg h_17, nI_clamp (by omega), kp_fin, if_neg h_28]) dX3_revoke_39
      · skip
        refine lv_iconst (v := 0) S.1 S.2.1 dX3_revoke_31 (by decide) ?_
        refine lv_goto (tgt := 39) S.1 S.2.1 dX3_revoke_32 (by decide) ?_
        exact K _ _ _ _ _ _ hB (by first | rw [kp_x_revoke, if_pos h_R, if_neg h_17, nI_clamp (by omega), kp_fin, if_pos h_28] | rw [kp_x_revoke, if_pos h_R, if_neg h_17, nI_clamp (by omega), kp_fin, if_neg h_28]) (by first | rw [kp_x_revoke, if_pos h_R, if_neg h_17, nI_clamp (by omega), kp_fin, if_pos h_28] | rw [kp_x_revoke, if_pos h_R, if_neg h_17, nI_clamp (by omega), kp_fin, if_neg h_28]) dX3_revoke_39
    · skip
      refine lv_bipush (v := (-8)) S.1 S.2.1 dX3_revoke_20 (by decide) ?_
      exact K _ _ _ _ _ _ hB (by rw [kp_x_revoke, if_pos h_R, if_pos h_17]) (by rw [kp_x_revoke, if_pos h_R, if_pos h_17]) dX3_revoke_22
  · skip
    have h_R : ¬ kp_rs σ.1 dv x = 0 := by rw [← ex_1]; exact h_7
    refine lv_iload_n S.1 S.2.1 dX3_revoke_10 rfl (lv_at hl 0 rfl) ?_
    exact K _ _ _ _ _ _ hB (by rw [kp_x_revoke, if_neg h_R, ex_1]) (by rw [kp_x_revoke, if_neg h_R]) dX3_revoke_11

abbrev kr_VO_write : Room := { frames := 6, cells := 0, slots := 0, locals := 141 }
set_option maxRecDepth 100000 in
set_option maxHeartbeats 4000000 in
theorem kc_VO_write (l : Launch) (N : State → Prop) (hN : kv_Mv N) (D : va_G) (cA : ClassId) (h d w r : Nat) (σ : kp_S) (g : Nat → Int32) (dv dk pk : Int32) (x : Int32) (y : Int32) (t : Int32) : kv_I N l yX3_write wsX3_write kr_VO_write D [(cA, .int)] [.ref h, .int x, .int y, .int t] (vo_W h d w r cA σ g dv dk pk) ((kp_x_write (σ, g, dv, dk, pk) x y t).1) (vo_T h d w r cA (kp_x_write (σ, g, dv, dk, pk) x y t).2) := by
  refine kv_openI (cc := cX3_write) (maxL := 7) (rt := .int) (by decide) rfl (rfl) (Nat.le_of_ble_eq_true rfl) ?_
  intro p e s m args below meth c A H locs ls Q S hl hB K
  have hl : lv_has ls 7 [(0, .ref h), (1, .int x), (2, .int y), (3, .int t)] := hl
  refine lv_aload_n S.1 S.2.1 dX3_write_0 rfl (lv_at hl 0 rfl) ?_
  refine lv_iload_n S.1 S.2.1 dX3_write_1 rfl (lv_at hl 1 rfl) ?_
  refine lv_iload_n S.1 S.2.1 dX3_write_2 rfl (lv_at hl 2 rfl) ?_
  refine kv_vI (As := [.int x, .int y]) (rest := []) hN S (kc_VO_refusalOfWord l N hN D cA h d w r σ g dv dk pk x y  ) (kn_cV (C := RX3) S kn_199 kn_200 kn_406 kn_1 kn_201 rfl kd_X3_refusalOfWord rfl rfl ⟨Nat.le_of_ble_eq_true rfl, Nat.le_of_ble_eq_true rfl⟩) hB 0 rfl rfl rfl hl.1 rfl (Nat.le_of_ble_eq_true rfl) dX3_write_3 ⟨Nat.zero_le _, Nat.zero_le _⟩ (fun H locs hB => ?_)
  refine lv_topi (fun x_1 ex_1 => ?_)
  refine lv_istore S.1 S.2.1 dX3_write_6 hl (by decide) rfl (fun ls hl => ?_)
  have hl : lv_has ls 7 [(4, .int x_1), (0, .ref h), (1, .int x), (2, .int y), (3, .int t)] := hl
  refine lv_iload S.1 S.2.1 dX3_write_8 (lv_at hl 0 rfl) ?_
  refine lv_if_eq (tgt := 16) S.1 S.2.1 dX3_write_10 (by decide) (fun h_10 => ?_) (fun h_10 => ?_)
  · skip
    have h_R : kp_rw dv x y = 0 := by rw [← ex_1]; exact h_10
    obtain ⟨z, hz, i, hi, rfl, rfl⟩ := kp_rw_k h_R
    refine lv_iconst (v := 0) S.1 S.2.1 dX3_write_16 (by decide) ?_
    refine lv_istore S.1 S.2.1 dX3_write_17 hl (by decide) rfl (fun ls hl => ?_)
    have hl : lv_has ls 7 [(5, .int 0), (4, .int x_1), (0, .ref h), (1, .int (nI z)), (2, .int (nI i)), (3, .int t)] := hl
    have loop19 : ∀ (n : Nat) (j : Nat) (gg : Nat → Int32) (H : Heap) (locs : List Loc) (ls : Array Slot), (j + n = 4) → (kp_wl σ.1 dk pk z i t n j gg = kp_wl σ.1 dk pk z i t 4 0 g) → lv_has ls 7 [(5, .int (nI j)), (0, .ref h), (1, .int (nI z)), (2, .int (nI i)), (3, .int t)] → kv_B N D [(cA, .int)] A s (vo_W h d w r cA σ gg dv dk pk) H locs → W p l e kr_VO_write s m args below meth c H locs 0 0 Q (F0 m 19 ls []) := by
      intro n
      induction n with
      | zero =>
        intro j gg H locs ls hj hT hl hB
        refine lv_iload S.1 S.2.1 dX3_write_19 (lv_at hl 0 rfl) ?_
        refine lv_iconst (v := 4) S.1 S.2.1 dX3_write_21 (by decide) ?_
        refine kv_bge (x := j) (y := 4) (tgt := 73) S (by omega) (by omega) dX3_write_22 (by decide) (fun h_22 => ?_) (fun h => absurd h (by omega))
        have hT0 : gg = kp_wl σ.1 dk pk z i t 4 0 g := hT
        subst hT0
        refine lv_aload_n S.1 S.2.1 dX3_write_73 rfl (lv_at hl 1 rfl) ?_
        refine kv_get (C := RX3) (T := TX3) (M := 5) (ci := 1) S hB (kn_c kn_iX3) 0 rfl rfl 0 (by decide) (List.mem_cons_of_mem _ kn_29) rfl rfl dX3_write_74 ?_
        refine lv_iload_n S.1 S.2.1 dX3_write_77 rfl (lv_at hl 2 rfl) ?_
        refine kv_sP (As := [.int (nI z)]) (rest := [.ref d]) S (kc_VO_sectorPlace l D z  ) (kn_cS S kn_86 kn_87 kn_1 kn_88 kd_X3_sectorPlace rfl rfl ⟨Nat.le_of_ble_eq_true rfl, Nat.le_of_ble_eq_true rfl⟩) hB rfl hl.1 rfl (Nat.le_of_ble_eq_true rfl) dX3_write_78 ⟨Nat.zero_le _, Nat.zero_le _⟩ (fun H locs hB => ?_)
        refine lv_iconst (v := 4) S.1 S.2.1 dX3_write_81 (by decide) ?_
        refine lv_aload_n S.1 S.2.1 dX3_write_82 rfl (lv_at hl 1 rfl) ?_
        refine kv_get (C := RX3) (T := TX3) (M := 5) (ci := 1) S hB (kn_c kn_iX3) 0 rfl rfl 1 (by decide) (List.mem_cons_of_mem _ kn_30) rfl rfl dX3_write_83 ?_
        refine kv_vI (As := [.int (nI (48 + 4 * z)), .int 4, .ref r]) (rest := []) hN S (kc_DI_replaceByJournal l N hN D cA h d w r σ (kp_wl σ.1 dk pk z i t 4 0 g) dv dk pk (48 + 4 * z) 4  (by omega) (by omega)) (kn_cV (C := RX1) S kn_177 kn_178 kn_179 kn_2 kn_180 rfl kd_X1_replaceByJournal rfl rfl ⟨Nat.le_of_ble_eq_true rfl, Nat.le_of_ble_eq_true rfl⟩) hB 1 rfl rfl rfl hl.1 rfl (Nat.le_of_ble_eq_true rfl) dX3_write_86 ⟨Nat.zero_le _, Nat.zero_le _⟩ (fun H locs hB => ?_)
        have hB : kv_B N D [(cA, .int)] A s (vo_W h d w r cA ((kp_run (kp_ch 4 0 4 (48 + 4 * z) (kp_wl σ.1 dk pk z i t 4 0 g) σ.1) σ).2) (kp_wl σ.1 dk pk z i t 4 0 g) dv dk pk) H locs := hB
        refine lv_if_eq (tgt := 96) S.1 S.2.1 dX3_write_89 (by decide) (fun h_89 => ?_) (fun h_89 => ?_)
        · skip
          refine lv_aload_n S.1 S.2.1 dX3_write_96 rfl (lv_at hl 1 rfl) ?_
          refine kv_vI (As := []) (rest := []) hN S (kc_VO_powerLost l N hN D cA h d w r ((kp_run (kp_ch 4 0 4 (48 + 4 * z) (kp_wl σ.1 dk pk z i t 4 0 g) σ.1) σ).2) (kp_wl σ.1 dk pk z i t 4 0 g) dv dk pk   ) (kn_cV (C := RX3) S kn_104 kn_105 kn_394 kn_1 kn_106 rfl kd_X3_powerLost rfl rfl ⟨Nat.le_of_ble_eq_true rfl, Nat.le_of_ble_eq_true rfl⟩) hB 0 rfl rfl rfl hl.1 rfl (Nat.le_of_ble_eq_true rfl) dX3_write_97 ⟨Nat.zero_le _, Nat.zero_le _⟩ (fun H locs hB => ?_)
          have hB : kv_B N D [(cA, .int)] A s (vo_W h d w r cA ((kp_run (kp_ch 4 0 4 (48 + 4 * z) (kp_wl σ.1 dk pk z i t 4 0 g) σ.1) σ).2) (kp_wl σ.1 dk pk z i t 4 0 g) 0 0 0) H locs := hB
          exact K _ _ _ _ _ _ hB (by first | rw [kp_x_write, if_pos h_R, nI_clamp (by omega), nI_clamp (by omega), kp_fin, if_pos h_89] | rw [kp_x_write, if_pos h_R, nI_clamp (by omega), nI_clamp (by omega), kp_fin, if_neg h_89]) (by first | rw [kp_x_write, if_pos h_R, nI_clamp (by omega), nI_clamp (by omega), kp_fin, if_pos h_89] | rw [kp_x_write, if_pos h_R, nI_clamp (by omega), nI_clamp (by omega), kp_fin, if_neg h_89]) dX3_write_100
        · skip
          refine lv_iconst (v := 0) S.1 S.2.1 dX3_write_92 (by decide) ?_
          refine lv_goto (tgt := 100) S.1 S.2.1 dX3_write_93 (by decide) ?_
          exact K _ _ _ _ _ _ hB (by first | rw [kp_x_write, if_pos h_R, nI_clamp (by omega), nI_clamp (by omega), kp_fin, if_pos h_89] | rw [kp_x_write, if_pos h_R, nI_clamp (by omega), nI_clamp (by omega), kp_fin, if_neg h_89]) (by first | rw [kp_x_write, if_pos h_R, nI_clamp (by omega), nI_clamp (by omega), kp_fin, if_pos h_89] | rw [kp_x_write, if_pos h_R, nI_clamp (by omega), nI_clamp (by omega), kp_fin, if_neg h_89]) dX3_write_100
      | succ n ih19 =>
        intro j gg H locs ls hj hT hl hB
        refine lv_iload S.1 S.2.1 dX3_write_19 (lv_at hl 0 rfl) ?_
        refine lv_iconst (v := 4) S.1 S.2.1 dX3_write_21 (by decide) ?_
        refine kv_bge (x := j) (y := 4) (tgt := 73) S (by omega) (by omega) dX3_write_22 (by decide) (fun h => absurd h (by omega)) (fun h_22 => ?_)
        refine lv_iload S.1 S.2.1 dX3_write_25 (lv_at hl 0 rfl) ?_
        refine lv_iload_n S.1 S.2.1 dX3_write_27 rfl (lv_at hl 3 rfl) ?_
        refine kv_bne (x := j) (y := i) (tgt := 35) S (by omega) (by omega) dX3_write_28 (by decide) (fun h_28 => ?_) (fun h_28 => ?_)
        · skip
          refine lv_aload_n S.1 S.2.1 dX3_write_35 rfl (lv_at hl 1 rfl) ?_
          refine lv_iload_n S.1 S.2.1 dX3_write_36 rfl (lv_at hl 2 rfl) ?_
          refine lv_iload S.1 S.2.1 dX3_write_37 (lv_at hl 0 rfl) ?_
          refine kv_vI (As := [.int (nI z), .int (nI j)]) (rest := []) hN S (kc_VO_plainWord l N hN D cA h d w r σ gg dv dk pk z j  (by omega) (by omega)) (kn_cV (C := RX3) S kn_202 kn_203 kn_407 kn_1 kn_204 rfl kd_X3_plainWord rfl rfl ⟨Nat.le_of_ble_eq_true rfl, Nat.le_of_ble_eq_true rfl⟩) hB 0 rfl rfl rfl hl.1 rfl (Nat.le_of_ble_eq_true rfl) dX3_write_39 ⟨Nat.zero_le _, Nat.zero_le _⟩ (fun H locs hB => ?_)
          refine lv_topi (fun x_2 ex_2 => ?_)
          refine lv_istore S.1 S.2.1 dX3_write_42 hl (by decide) rfl (fun ls hl => ?_)
          have hl : lv_has ls 7 [(6, .int x_2), (5, .int (nI j)), (0, .ref h), (1, .int (nI z)), (2, .int (nI i)), (3, .int t)] := hl
          refine lv_aload_n S.1 S.2.1 dX3_write_44 rfl (lv_at hl 2 rfl) ?_
          refine kv_get (C := RX3) (T := TX3) (M := 5) (ci := 1) S hB (kn_c kn_iX3) 0 rfl rfl 1 (by decide) (List.mem_cons_of_mem _ kn_30) rfl rfl dX3_write_45 ?_
          refine lv_iload S.1 S.2.1 dX3_write_48 (lv_at hl 1 rfl) ?_
          refine lv_aload_n S.1 S.2.1 dX3_write_50 rfl (lv_at hl 2 rfl) ?_
          refine kv_get (C := RX3) (T := TX3) (M := 5) (ci := 1) S hB (kn_c kn_iX3) 0 rfl rfl 3 (by decide) (List.mem_cons_of_mem _ kn_32) rfl rfl dX3_write_51 ?_
          refine lv_aload_n S.1 S.2.1 dX3_write_54 rfl (lv_at hl 2 rfl) ?_
          refine kv_get (C := RX3) (T := TX3) (M := 5) (ci := 1) S hB (kn_c kn_iX3) 0 rfl rfl 4 (by decide) (List.mem_cons_of_mem _ kn_33) rfl rfl dX3_write_55 ?_
          refine lv_iload_n S.1 S.2.1 dX3_write_58 rfl (lv_at hl 3 rfl) ?_
          refine lv_iload S.1 S.2.1 dX3_write_59 (lv_at hl 1 rfl) ?_
          refine lv_iload S.1 S.2.1 dX3_write_61 (lv_at hl 0 rfl) ?_
          refine kv_sP (As := [.int dk, .int pk, .int (nI z), .int (nI j), .int x_2]) (rest := [.int (nI j), .ref r]) S (kc_CI_encipherSectorWord l D dk pk (nI z) j x_2  (by omega)) (kn_cS S kn_89 kn_90 kn_5 kn_91 kd_X0_encipherSectorWord rfl rfl ⟨Nat.le_of_ble_eq_true rfl, Nat.le_of_ble_eq_true rfl⟩) hB rfl hl.1 rfl (Nat.le_of_ble_eq_true rfl) dX3_write_63 ⟨Nat.zero_le _, Nat.zero_le _⟩ (fun H locs hB => ?_)
          refine kv_iast S hB 3 0 rfl rfl j rfl (by omega) (by decide) dX3_write_66 (fun H locs hB => ?_)
          have hB : kv_B N D [(cA, .int)] A s (vo_W h d w r cA σ (upd gg j (kp_hide dk pk (nI z) j x_2)) dv dk pk) H locs := hB
          refine lv_iinc (k := 1) (v := nI (j + 1)) S.1 S.2.1 dX3_write_67 hl rfl (nI_1 j) (by decide) rfl (fun ls hl => ?_)
          have hl : lv_has ls 7 [(5, .int (nI (j + 1))), (6, .int x_2), (0, .ref h), (1, .int (nI z)), (2, .int (nI i)), (3, .int t)] := hl
          refine lv_goto (tgt := 19) S.1 S.2.1 dX3_write_70 (by decide) ?_
          exact ih19 (j + 1) (upd gg j (kp_hide dk pk (nI z) j x_2)) _ _ _ (by omega) (by subst_vars; rw [← hT, kp_wl]; first | rw [if_pos rfl] | rw [if_neg h_28]) (lv_sub hl [0, 2, 3, 4, 5] rfl) hB
        · skip
          refine lv_iload_n S.1 S.2.1 dX3_write_31 rfl (lv_at hl 4 rfl) ?_
          refine lv_goto (tgt := 42) S.1 S.2.1 dX3_write_32 (by decide) ?_
          refine lv_istore S.1 S.2.1 dX3_write_42 hl (by decide) rfl (fun ls hl => ?_)
          have hl : lv_has ls 7 [(6, .int t), (5, .int (nI j)), (0, .ref h), (1, .int (nI z)), (2, .int (nI i)), (3, .int t)] := hl
          refine lv_aload_n S.1 S.2.1 dX3_write_44 rfl (lv_at hl 2 rfl) ?_
          refine kv_get (C := RX3) (T := TX3) (M := 5) (ci := 1) S hB (kn_c kn_iX3) 0 rfl rfl 1 (by decide) (List.mem_cons_of_mem _ kn_30) rfl rfl dX3_write_45 ?_
          refine lv_iload S.1 S.2.1 dX3_write_48 (lv_at hl 1 rfl) ?_
          refine lv_aload_n S.1 S.2.1 dX3_write_50 rfl (lv_at hl 2 rfl) ?_
          refine kv_get (C := RX3) (T := TX3) (M := 5) (ci := 1) S hB (kn_c kn_iX3) 0 rfl rfl 3 (by decide) (List.mem_cons_of_mem _ kn_32) rfl rfl dX3_write_51 ?_
          refine lv_aload_n S.1 S.2.1 dX3_write_54 rfl (lv_at hl 2 rfl) ?_
          refine kv_get (C := RX3) (T := TX3) (M := 5) (ci := 1) S hB (kn_c kn_iX3) 0 rfl rfl 4 (by decide) (List.mem_cons_of_mem _ kn_33) rfl rfl dX3_write_55 ?_
          refine lv_iload_n S.1 S.2.1 dX3_write_58 rfl (lv_at hl 3 rfl) ?_
          refine lv_iload S.1 S.2.1 dX3_write_59 (lv_at hl 1 rfl) ?_
          refine lv_iload S.1 S.2.1 dX3_write_61 (lv_at hl 0 rfl) ?_
          refine kv_sP (As := [.int dk, .int pk, .int (nI z), .int (nI j), .int t]) (rest := [.int (nI j), .ref r]) S (kc_CI_encipherSectorWord l D dk pk (nI z) j t  (by omega)) (kn_cS S kn_89 kn_90 kn_5 kn_91 kd_X0_encipherSectorWord rfl rfl ⟨Nat.le_of_ble_eq_true rfl, Nat.le_of_ble_eq_true rfl⟩) hB rfl hl.1 rfl (Nat.le_of_ble_eq_true rfl) dX3_write_63 ⟨Nat.zero_le _, Nat.zero_le _⟩ (fun H locs hB => ?_)
          refine kv_iast S hB 3 0 rfl rfl j rfl (by omega) (by decide) dX3_write_66 (fun H locs hB => ?_)
          have hB : kv_B N D [(cA, .int)] A s (vo_W h d w r cA σ (upd gg j (kp_hide dk pk (nI z) j t)) dv dk pk) H locs := hB
          refine lv_iinc (k := 1) (v := nI (j + 1)) S.1 S.2.1 dX3_write_67 hl rfl (nI_1 j) (by decide) rfl (fun ls hl => ?_)
          have hl : lv_has ls 7 [(5, .int (nI (j + 1))), (6, .int t), (0, .ref h), (1, .int (nI z)), (2, .int (nI i)), (3, .int t)] := hl
          refine lv_goto (tgt := 19) S.1 S.2.1 dX3_write_70 (by decide) ?_
          exact ih19 (j + 1) (upd gg j (kp_hide dk pk (nI z) j t)) _ _ _ (by omega) (by subst_vars; rw [← hT, kp_wl]; first | rw [if_pos rfl] | rw [if_neg h_28]) (lv_sub hl [0, 2, 3, 4, 5] rfl) hB
    exact loop19 4 0 g _ _ _ (rfl) (rfl) (lv_sub hl [0, 2, 3, 4, 5] rfl) hB
  · skip
    have h_R : ¬ kp_rw dv x y = 0 := by rw [← ex_1]; exact h_10
    refine lv_iload S.1 S.2.1 dX3_write_13 (lv_at hl 0 rfl) ?_
    exact K _ _ _ _ _ _ hB (by rw [kp_x_write, if_neg h_R, ex_1]) (by rw [kp_x_write, if_neg h_R]) dX3_write_15

abbrev kr_VO_read : Room := { frames := 6, cells := 0, slots := 0, locals := 141 }
set_option maxRecDepth 100000 in
set_option maxHeartbeats 4000000 in
theorem kc_VO_read (l : Launch) (N : State → Prop) (hN : kv_Mv N) (D : va_G) (cA : ClassId) (h d w r : Nat) (σ : kp_S) (g : Nat → Int32) (dv dk pk : Int32) (x : Int32) (y : Int32) : kv_L N l yX3_read wsX3_read kr_VO_read D [(cA, .int)] [.ref h, .int x, .int y] (vo_W h d w r cA σ g dv dk pk) (kp_x_read (σ, g, dv, dk, pk) x y) (vo_W h d w r cA σ g dv dk pk) := by
  refine kv_openL (cc := cX3_read) (maxL := 4) (by decide) rfl (Nat.le_of_ble_eq_true rfl) ?_
  intro p e s m args below meth c A H locs ls Q S hl hB K
  have hl : lv_has ls 4 [(0, .ref h), (1, .int x), (2, .int y)] := hl
  refine lv_aload_n S.1 S.2.1 dX3_read_0 rfl (lv_at hl 0 rfl) ?_
  refine lv_iload_n S.1 S.2.1 dX3_read_1 rfl (lv_at hl 1 rfl) ?_
  refine lv_iload_n S.1 S.2.1 dX3_read_2 rfl (lv_at hl 2 rfl) ?_
  refine kv_vI (As := [.int x, .int y]) (rest := []) hN S (kc_VO_refusalOfWord l N hN D cA h d w r σ g dv dk pk x y  ) (kn_cV (C := RX3) S kn_199 kn_200 kn_406 kn_1 kn_201 rfl kd_X3_refusalOfWord rfl rfl ⟨Nat.le_of_ble_eq_true rfl, Nat.le_of_ble_eq_true rfl⟩) hB 0 rfl rfl rfl hl.1 rfl (Nat.le_of_ble_eq_true rfl) dX3_read_3 ⟨Nat.zero_le _, Nat.zero_le _⟩ (fun H locs hB => ?_)
  refine lv_topi (fun x_1 ex_1 => ?_)
  refine lv_istore_n S.1 S.2.1 dX3_read_6 rfl hl (by decide) rfl (fun ls hl => ?_)
  have hl : lv_has ls 4 [(3, .int x_1), (0, .ref h), (1, .int x), (2, .int y)] := hl
  refine lv_iload_n S.1 S.2.1 dX3_read_7 rfl (lv_at hl 0 rfl) ?_
  refine lv_if_eq (tgt := 14) S.1 S.2.1 dX3_read_8 (by decide) (fun h_8 => ?_) (fun h_8 => ?_)
  · skip
    have h_R : kp_rw dv x y = 0 := by rw [← ex_1]; exact h_8
    obtain ⟨z, hz, i, hi, rfl, rfl⟩ := kp_rw_k h_R
    refine lv_aload_n S.1 S.2.1 dX3_read_14 rfl (lv_at hl 1 rfl) ?_
    refine lv_iload_n S.1 S.2.1 dX3_read_15 rfl (lv_at hl 2 rfl) ?_
    refine lv_iload_n S.1 S.2.1 dX3_read_16 rfl (lv_at hl 3 rfl) ?_
    refine kv_vI (As := [.int (nI z), .int (nI i)]) (rest := []) hN S (kc_VO_plainWord l N hN D cA h d w r σ g dv dk pk z i  (by omega) (by omega)) (kn_cV (C := RX3) S kn_202 kn_203 kn_407 kn_1 kn_204 rfl kd_X3_plainWord rfl rfl ⟨Nat.le_of_ble_eq_true rfl, Nat.le_of_ble_eq_true rfl⟩) hB 0 rfl rfl rfl hl.1 rfl (Nat.le_of_ble_eq_true rfl) dX3_read_17 ⟨Nat.zero_le _, Nat.zero_le _⟩ (fun H locs hB => ?_)
    refine lv_i2l (v := (kp_show dk pk (nI z) i (σ.1 (48 + 4 * z + i))).toInt64) S.1 S.2.1 dX3_read_20 rfl ?_
    refine lv_ldc2 (v := 4294967295) S.1 S.2.1 S.2.2.2.1 (S.2.2.2.2 _ (List.mem_cons_of_mem _ kn_213)) dX3_read_21 ?_
    refine lv_land S.1 S.2.1 dX3_read_24 ?_
    exact K _ _ _ _ _ _ hB (by rw [kp_x_read, if_pos h_R, nI_clamp (by omega), nI_clamp (by omega)]) (rfl) dX3_read_25
  · skip
    have h_R : ¬ kp_rw dv x y = 0 := by rw [← ex_1]; exact h_8
    refine lv_iload_n S.1 S.2.1 dX3_read_11 rfl (lv_at hl 0 rfl) ?_
    refine lv_i2l (v := x_1.toInt64) S.1 S.2.1 dX3_read_12 rfl ?_
    exact K _ _ _ _ _ _ hB (by rw [kp_x_read, if_neg h_R, ex_1]) (rfl) dX3_read_13

abbrev kr_VO_state : Room := { frames := 0, cells := 0, slots := 0, locals := 0 }
set_option maxRecDepth 100000 in
set_option maxHeartbeats 4000000 in
theorem kc_VO_state (l : Launch) (N : State → Prop) (hN : kv_Mv N) (D : va_G) (cA : ClassId) (h d w r : Nat) (σ : kp_S) (g : Nat → Int32) (dv dk pk : Int32) : kv_I N l yX3_state wsX3_state kr_VO_state D [(cA, .int)] [.ref h] (vo_W h d w r cA σ g dv dk pk) dv (vo_W h d w r cA σ g dv dk pk) := by
  refine kv_openI (cc := cX3_state) (maxL := 1) (rt := .int) (by decide) rfl (rfl) (Nat.le_of_ble_eq_true rfl) ?_
  intro p e s m args below meth c A H locs ls Q S hl hB K
  have hl : lv_has ls 1 [(0, .ref h)] := hl
  refine lv_aload_n S.1 S.2.1 dX3_state_0 rfl (lv_at hl 0 rfl) ?_
  refine kv_get (C := RX3) (T := TX3) (M := 5) (ci := 1) S hB (kn_c kn_iX3) 0 rfl rfl 2 (by decide) (List.mem_cons_of_mem _ kn_31) rfl rfl dX3_state_1 ?_
  exact K _ _ _ _ _ _ hB (rfl) (rfl) dX3_state_4

abbrev kr_VO_peek : Room := { frames := 1, cells := 0, slots := 0, locals := 21 }
set_option maxRecDepth 100000 in
set_option maxHeartbeats 4000000 in
theorem kc_VO_peek (l : Launch) (N : State → Prop) (hN : kv_Mv N) (D : va_G) (cA : ClassId) (h d w r : Nat) (σ : kp_S) (g : Nat → Int32) (dv dk pk : Int32) (x : Int32) : kv_I N l yX3_peek wsX3_peek kr_VO_peek D [(cA, .int)] [.ref h, .int x] (vo_W h d w r cA σ g dv dk pk) (kp_at σ.1 x) (vo_W h d w r cA σ g dv dk pk) := by
  refine kv_openI (cc := cX3_peek) (maxL := 2) (rt := .int) (by decide) rfl (rfl) (Nat.le_of_ble_eq_true rfl) ?_
  intro p e s m args below meth c A H locs ls Q S hl hB K
  have hl : lv_has ls 2 [(0, .ref h), (1, .int x)] := hl
  refine lv_aload_n S.1 S.2.1 dX3_peek_0 rfl (lv_at hl 0 rfl) ?_
  refine kv_get (C := RX3) (T := TX3) (M := 5) (ci := 1) S hB (kn_c kn_iX3) 0 rfl rfl 0 (by decide) (List.mem_cons_of_mem _ kn_29) rfl rfl dX3_peek_1 ?_
  refine lv_iload_n S.1 S.2.1 dX3_peek_4 rfl (lv_at hl 1 rfl) ?_
  refine kv_vI (As := [.int x]) (rest := []) hN S (kc_DI_wordAt l N hN D cA h d w r σ g dv dk pk x  ) (kn_cV (C := RX1) S kn_114 kn_115 kn_116 kn_2 kn_117 rfl kd_X1_wordAt rfl rfl ⟨Nat.le_of_ble_eq_true rfl, Nat.le_of_ble_eq_true rfl⟩) hB 1 rfl rfl rfl hl.1 rfl (Nat.le_of_ble_eq_true rfl) dX3_peek_5 ⟨Nat.zero_le _, Nat.zero_le _⟩ (fun H locs hB => ?_)
  exact K _ _ _ _ _ _ hB (rfl) (rfl) dX3_peek_8

abbrev kr_VO_cut : Room := { frames := 0, cells := 0, slots := 0, locals := 0 }
set_option maxRecDepth 100000 in
set_option maxHeartbeats 4000000 in
theorem kc_VO_cut (l : Launch) (D : va_G) (cA : ClassId) (h d w r : Nat) (σ : kp_S) (g : Nat → Int32) (dv dk pk : Int32) (x : Int32) : kv_I kv_N l yX3_cut wsX3_cut kr_VO_cut D [(cA, .int)] [.ref h, .int x] (vo_W h d w r cA σ g dv dk pk) ((kp_x_cut (σ, g, dv, dk, pk) x).1) (vo_T h d w r cA (kp_x_cut (σ, g, dv, dk, pk) x).2) := by
  refine kv_openI (cc := cX3_cut) (maxL := 2) (rt := .boolean) (by decide) rfl (kp_x_cut_z _ _) (Nat.le_of_ble_eq_true rfl) ?_
  intro p e s m args below meth c A H locs ls Q S hl hB K
  have hl : lv_has ls 2 [(0, .ref h), (1, .int x)] := hl
  refine lv_iload_n S.1 S.2.1 dX3_cut_0 rfl (lv_at hl 1 rfl) ?_
  refine lv_iconst (v := (-1)) S.1 S.2.1 dX3_cut_1 (by decide) ?_
  refine lv_icmp_ge (tgt := 7) S.1 S.2.1 dX3_cut_2 (by decide) (fun h_2 => ?_) (fun h_2 => ?_)
  · skip
    refine lv_aload_n S.1 S.2.1 dX3_cut_7 rfl (lv_at hl 0 rfl) ?_
    refine kv_get (C := RX3) (T := TX3) (M := 5) (ci := 1) S hB (kn_c kn_iX3) 0 rfl rfl 0 (by decide) (List.mem_cons_of_mem _ kn_29) rfl rfl dX3_cut_8 ?_
    refine lv_iload_n S.1 S.2.1 dX3_cut_11 rfl (lv_at hl 1 rfl) ?_
    refine kv_putn (C := RX1) (T := TX1) (M := 3) (ci := 0) (v := x) S hB (kn_c kn_iX1) tyX1 tyX1_ok nmX1 1 rfl rfl 2 (by decide) hB.2.2.2.2.2.1 rfl rfl rfl (Nat.le_of_ble_eq_true rfl) dX3_cut_12 (fun H locs hB => ?_)
    have hB : kv_B kv_N D [(cA, .int)] A s (vo_W h d w r cA (σ.1, σ.2.1, x) g dv dk pk) H locs := hB
    refine lv_iconst (v := 1) S.1 S.2.1 dX3_cut_15 (by decide) ?_
    exact K _ _ _ _ _ _ hB (by rw [kp_x_cut, if_pos h_2]) (by rw [kp_x_cut, if_pos h_2]) dX3_cut_16
  · skip
    refine lv_iconst (v := 0) S.1 S.2.1 dX3_cut_5 (by decide) ?_
    exact K _ _ _ _ _ _ hB (by rw [kp_x_cut, if_neg h_2]) (by rw [kp_x_cut, if_neg h_2]) dX3_cut_6

abbrev kr_VO_writes : Room := { frames := 0, cells := 0, slots := 0, locals := 0 }
set_option maxRecDepth 100000 in
set_option maxHeartbeats 4000000 in
theorem kc_VO_writes (l : Launch) (D : va_G) (cA : ClassId) (h d w r : Nat) (σ : kp_S) (g : Nat → Int32) (dv dk pk : Int32) : kv_I kv_N l yX3_writes wsX3_writes kr_VO_writes D [(cA, .int)] [.ref h] (vo_W h d w r cA σ g dv dk pk) σ.2.1 (vo_W h d w r cA σ g dv dk pk) := by
  refine kv_openI (cc := cX3_writes) (maxL := 1) (rt := .int) (by decide) rfl (rfl) (Nat.le_of_ble_eq_true rfl) ?_
  intro p e s m args below meth c A H locs ls Q S hl hB K
  have hl : lv_has ls 1 [(0, .ref h)] := hl
  refine lv_aload_n S.1 S.2.1 dX3_writes_0 rfl (lv_at hl 0 rfl) ?_
  refine kv_get (C := RX3) (T := TX3) (M := 5) (ci := 1) S hB (kn_c kn_iX3) 0 rfl rfl 0 (by decide) (List.mem_cons_of_mem _ kn_29) rfl rfl dX3_writes_1 ?_
  refine kv_getn (C := RX1) (T := TX1) (M := 3) (ci := 0) S hB (kn_c kn_iX1) 1 rfl rfl 1 (by decide) hB.2.2.2.2.2.2 rfl rfl dX3_writes_4 ?_
  exact K _ _ _ _ _ _ hB (rfl) (rfl) dX3_writes_7
end
