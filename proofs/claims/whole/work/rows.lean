section
-- ===== PART A: goes FIRST, ahead of the names: the tables' words, and 'selects' of the private methods out of them =====
/-- a private method of a class that the tables say can be made, by its rows of tables_1 -/
def lw_okq (q : MethodName × Nat) : Prop := (q.1.cls ≠ "java/lang/invoke/MethodHandle" ∧ q.1.cls ≠ "java/lang/invoke/VarHandle") ∧ Cond.instantiable q.1.cls q.2 ∈ tables_1 ∧ Cond.privateMethod q.1 ∈ tables_1 ∧ Cond.instanceMethod q.1 ∈ tables_1
theorem lw_p0 : lw_okq (⟨"TargetRows$Table", "firstSlotFor", "(I)I"⟩, 9) := ⟨⟨by decide +kernel, by decide +kernel⟩, List.mem_of_getElem? (i := 29) (by decide +kernel), List.mem_of_getElem? (i := 179) (by decide +kernel), List.mem_of_getElem? (i := 180) (by decide +kernel)⟩
theorem lw_p1 : lw_okq (⟨"TargetRows$Table", "tagOf", "(I)I"⟩, 9) := ⟨⟨by decide +kernel, by decide +kernel⟩, List.mem_of_getElem? (i := 29) (by decide +kernel), List.mem_of_getElem? (i := 183) (by decide +kernel), List.mem_of_getElem? (i := 184) (by decide +kernel)⟩
theorem lw_p2 : lw_okq (⟨"TargetRows", "toldOf", "(II)I"⟩, 7) := ⟨⟨by decide +kernel, by decide +kernel⟩, List.mem_of_getElem? (i := 18) (by decide +kernel), List.mem_of_getElem? (i := 187) (by decide +kernel), List.mem_of_getElem? (i := 188) (by decide +kernel)⟩
theorem lw_p3 : lw_okq (⟨"TargetRows$HistoryRows", "indexFor", "(I)I"⟩, 3) := ⟨⟨by decide +kernel, by decide +kernel⟩, List.mem_of_getElem? (i := 73) (by decide +kernel), List.mem_of_getElem? (i := 202) (by decide +kernel), List.mem_of_getElem? (i := 203) (by decide +kernel)⟩
theorem lw_p4 : lw_okq (⟨"java/lang/Throwable", "fillInStackTrace", "(I)Ljava/lang/Throwable;"⟩, 6) := ⟨⟨by decide +kernel, by decide +kernel⟩, List.mem_of_getElem? (i := 290) (by decide +kernel), List.mem_of_getElem? (i := 288) (by decide +kernel), List.mem_of_getElem? (i := 289) (by decide +kernel)⟩
theorem lw_p5 : lw_okq (⟨"TargetRows$Queue", "indexOf", "(I)I"⟩, 7) := ⟨⟨by decide +kernel, by decide +kernel⟩, List.mem_of_getElem? (i := 120) (by decide +kernel), List.mem_of_getElem? (i := 324) (by decide +kernel), List.mem_of_getElem? (i := 325) (by decide +kernel)⟩
theorem lw_p6 : lw_okq (⟨"TargetRows", "moveStack", "(II)V"⟩, 7) := ⟨⟨by decide +kernel, by decide +kernel⟩, List.mem_of_getElem? (i := 18) (by decide +kernel), List.mem_of_getElem? (i := 332) (by decide +kernel), List.mem_of_getElem? (i := 333) (by decide +kernel)⟩
theorem lw_p7 : lw_okq (⟨"TargetRows$Returns", "loseLowest", "()V"⟩, 5) := ⟨⟨by decide +kernel, by decide +kernel⟩, List.mem_of_getElem? (i := 93) (by decide +kernel), List.mem_of_getElem? (i := 340) (by decide +kernel), List.mem_of_getElem? (i := 341) (by decide +kernel)⟩
theorem lw_p8 : lw_okq (⟨"TargetRows", "causeOf", "(IIZ)I"⟩, 7) := ⟨⟨by decide +kernel, by decide +kernel⟩, List.mem_of_getElem? (i := 18) (by decide +kernel), List.mem_of_getElem? (i := 397) (by decide +kernel), List.mem_of_getElem? (i := 398) (by decide +kernel)⟩
theorem lw_p9 : lw_okq (⟨"TargetRows", "repair", "(IIZ)V"⟩, 7) := ⟨⟨by decide +kernel, by decide +kernel⟩, List.mem_of_getElem? (i := 18) (by decide +kernel), List.mem_of_getElem? (i := 405) (by decide +kernel), List.mem_of_getElem? (i := 406) (by decide +kernel)⟩
theorem lw_p10 : lw_okq (⟨"TargetRows", "update", "(III)V"⟩, 7) := ⟨⟨by decide +kernel, by decide +kernel⟩, List.mem_of_getElem? (i := 18) (by decide +kernel), List.mem_of_getElem? (i := 409) (by decide +kernel), List.mem_of_getElem? (i := 410) (by decide +kernel)⟩
theorem lw_p11 : lw_okq (⟨"TargetRows$Table", "slotToFill", "(I)I"⟩, 9) := ⟨⟨by decide +kernel, by decide +kernel⟩, List.mem_of_getElem? (i := 29) (by decide +kernel), List.mem_of_getElem? (i := 418) (by decide +kernel), List.mem_of_getElem? (i := 419) (by decide +kernel)⟩
theorem lw_p12 : lw_okq (⟨"TargetRowsModel", "tell", "(I)I"⟩, 25) := ⟨⟨by decide +kernel, by decide +kernel⟩, List.mem_of_getElem? (i := 480) (by decide +kernel), List.mem_of_getElem? (i := 574) (by decide +kernel), List.mem_of_getElem? (i := 575) (by decide +kernel)⟩
theorem lw_p13 : lw_okq (⟨"TargetRowsModel", "find", "(I)I"⟩, 25) := ⟨⟨by decide +kernel, by decide +kernel⟩, List.mem_of_getElem? (i := 480) (by decide +kernel), List.mem_of_getElem? (i := 578) (by decide +kernel), List.mem_of_getElem? (i := 579) (by decide +kernel)⟩
theorem lw_p14 : lw_okq (⟨"TargetRowsModel", "firstOf", "(I)I"⟩, 25) := ⟨⟨by decide +kernel, by decide +kernel⟩, List.mem_of_getElem? (i := 480) (by decide +kernel), List.mem_of_getElem? (i := 582) (by decide +kernel), List.mem_of_getElem? (i := 583) (by decide +kernel)⟩
theorem lw_p15 : lw_okq (⟨"TargetRowsModel", "tagOf", "(I)I"⟩, 25) := ⟨⟨by decide +kernel, by decide +kernel⟩, List.mem_of_getElem? (i := 480) (by decide +kernel), List.mem_of_getElem? (i := 586) (by decide +kernel), List.mem_of_getElem? (i := 587) (by decide +kernel)⟩
def lw_privs_1 : List (MethodName × Nat) := [(⟨"TargetRows$Table", "firstSlotFor", "(I)I"⟩, 9), (⟨"TargetRows$Table", "tagOf", "(I)I"⟩, 9), (⟨"TargetRows", "toldOf", "(II)I"⟩, 7), (⟨"TargetRows$HistoryRows", "indexFor", "(I)I"⟩, 3), (⟨"java/lang/Throwable", "fillInStackTrace", "(I)Ljava/lang/Throwable;"⟩, 6), (⟨"TargetRows$Queue", "indexOf", "(I)I"⟩, 7), (⟨"TargetRows", "moveStack", "(II)V"⟩, 7), (⟨"TargetRows$Returns", "loseLowest", "()V"⟩, 5), (⟨"TargetRows", "causeOf", "(IIZ)I"⟩, 7), (⟨"TargetRows", "repair", "(IIZ)V"⟩, 7), (⟨"TargetRows", "update", "(III)V"⟩, 7), (⟨"TargetRows$Table", "slotToFill", "(I)I"⟩, 9), (⟨"TargetRowsModel", "tell", "(I)I"⟩, 25), (⟨"TargetRowsModel", "find", "(I)I"⟩, 25), (⟨"TargetRowsModel", "firstOf", "(I)I"⟩, 25), (⟨"TargetRowsModel", "tagOf", "(I)I"⟩, 25)]
theorem lw_r1 : ∀ q ∈ lw_privs_1, lw_okq q := List.forall_mem_cons.mpr ⟨lw_p0, List.forall_mem_cons.mpr ⟨lw_p1, List.forall_mem_cons.mpr ⟨lw_p2, List.forall_mem_cons.mpr ⟨lw_p3, List.forall_mem_cons.mpr ⟨lw_p4, List.forall_mem_cons.mpr ⟨lw_p5, List.forall_mem_cons.mpr ⟨lw_p6, List.forall_mem_cons.mpr ⟨lw_p7, List.forall_mem_cons.mpr ⟨lw_p8, List.forall_mem_cons.mpr ⟨lw_p9, List.forall_mem_cons.mpr ⟨lw_p10, List.forall_mem_cons.mpr ⟨lw_p11, List.forall_mem_cons.mpr ⟨lw_p12, List.forall_mem_cons.mpr ⟨lw_p13, List.forall_mem_cons.mpr ⟨lw_p14, List.forall_mem_cons.mpr ⟨lw_p15, fun _ h => absurd h List.not_mem_nil⟩⟩⟩⟩⟩⟩⟩⟩⟩⟩⟩⟩⟩⟩⟩⟩
theorem lw_p16 : lw_okq (⟨"TargetRowsModel", "rowOf", "(I)I"⟩, 25) := ⟨⟨by decide +kernel, by decide +kernel⟩, List.mem_of_getElem? (i := 480) (by decide +kernel), List.mem_of_getElem? (i := 590) (by decide +kernel), List.mem_of_getElem? (i := 591) (by decide +kernel)⟩
theorem lw_p17 : lw_okq (⟨"TargetRowsModel", "fail", "(I)I"⟩, 25) := ⟨⟨by decide +kernel, by decide +kernel⟩, List.mem_of_getElem? (i := 480) (by decide +kernel), List.mem_of_getElem? (i := 601) (by decide +kernel), List.mem_of_getElem? (i := 602) (by decide +kernel)⟩
theorem lw_p18 : lw_okq (⟨"TargetRowsModel", "push", "(I)V"⟩, 25) := ⟨⟨by decide +kernel, by decide +kernel⟩, List.mem_of_getElem? (i := 480) (by decide +kernel), List.mem_of_getElem? (i := 605) (by decide +kernel), List.mem_of_getElem? (i := 606) (by decide +kernel)⟩
theorem lw_p19 : lw_okq (⟨"TargetRowsModel", "pop", "()V"⟩, 25) := ⟨⟨by decide +kernel, by decide +kernel⟩, List.mem_of_getElem? (i := 480) (by decide +kernel), List.mem_of_getElem? (i := 609) (by decide +kernel), List.mem_of_getElem? (i := 610) (by decide +kernel)⟩
theorem lw_p20 : lw_okq (⟨"TargetRowsModel", "causeOf", "(IIZ)I"⟩, 25) := ⟨⟨by decide +kernel, by decide +kernel⟩, List.mem_of_getElem? (i := 480) (by decide +kernel), List.mem_of_getElem? (i := 620) (by decide +kernel), List.mem_of_getElem? (i := 621) (by decide +kernel)⟩
theorem lw_p21 : lw_okq (⟨"TargetRowsModel", "dropFirst", "()V"⟩, 25) := ⟨⟨by decide +kernel, by decide +kernel⟩, List.mem_of_getElem? (i := 480) (by decide +kernel), List.mem_of_getElem? (i := 624) (by decide +kernel), List.mem_of_getElem? (i := 625) (by decide +kernel)⟩
theorem lw_p22 : lw_okq (⟨"TargetRowsModel", "ringAsBefore", "(I)V"⟩, 25) := ⟨⟨by decide +kernel, by decide +kernel⟩, List.mem_of_getElem? (i := 480) (by decide +kernel), List.mem_of_getElem? (i := 628) (by decide +kernel), List.mem_of_getElem? (i := 629) (by decide +kernel)⟩
theorem lw_p23 : lw_okq (⟨"TargetRowsModel", "learn", "(III)V"⟩, 25) := ⟨⟨by decide +kernel, by decide +kernel⟩, List.mem_of_getElem? (i := 480) (by decide +kernel), List.mem_of_getElem? (i := 632) (by decide +kernel), List.mem_of_getElem? (i := 633) (by decide +kernel)⟩
theorem lw_p24 : lw_okq (⟨"TargetRowsModel", "wayFor", "(I)I"⟩, 25) := ⟨⟨by decide +kernel, by decide +kernel⟩, List.mem_of_getElem? (i := 480) (by decide +kernel), List.mem_of_getElem? (i := 636) (by decide +kernel), List.mem_of_getElem? (i := 637) (by decide +kernel)⟩
def lw_privs_2 : List (MethodName × Nat) := [(⟨"TargetRowsModel", "rowOf", "(I)I"⟩, 25), (⟨"TargetRowsModel", "fail", "(I)I"⟩, 25), (⟨"TargetRowsModel", "push", "(I)V"⟩, 25), (⟨"TargetRowsModel", "pop", "()V"⟩, 25), (⟨"TargetRowsModel", "causeOf", "(IIZ)I"⟩, 25), (⟨"TargetRowsModel", "dropFirst", "()V"⟩, 25), (⟨"TargetRowsModel", "ringAsBefore", "(I)V"⟩, 25), (⟨"TargetRowsModel", "learn", "(III)V"⟩, 25), (⟨"TargetRowsModel", "wayFor", "(I)I"⟩, 25)]
theorem lw_r2 : ∀ q ∈ lw_privs_2, lw_okq q := List.forall_mem_cons.mpr ⟨lw_p16, List.forall_mem_cons.mpr ⟨lw_p17, List.forall_mem_cons.mpr ⟨lw_p18, List.forall_mem_cons.mpr ⟨lw_p19, List.forall_mem_cons.mpr ⟨lw_p20, List.forall_mem_cons.mpr ⟨lw_p21, List.forall_mem_cons.mpr ⟨lw_p22, List.forall_mem_cons.mpr ⟨lw_p23, List.forall_mem_cons.mpr ⟨lw_p24, fun _ h => absurd h List.not_mem_nil⟩⟩⟩⟩⟩⟩⟩⟩⟩
def lw_privs : List (MethodName × Nat) := lw_privs_1 ++ (lw_privs_2)
def lw_tbl : List Cond := k2_sels lw_privs ++ tables_1
theorem lw_privs_ok : ∀ q ∈ lw_privs, lw_okq q := by
  show ∀ q ∈ lw_privs_1 ++ (lw_privs_2), lw_okq q
  exact List.forall_mem_append.mpr ⟨lw_r1, lw_r2⟩
end
section
def RX0 : String := "TargetRows$HistoryRows"
def RX1 : String := "TargetRows$Queue"
def RX2 : String := "TargetRows$Returns"
def RX3 : String := "TargetRows$Table"
def RX4 : String := "TargetRows"
def RX5 : String := "TargetRowsModel"
def RL : String := "TargetRowsLaw"
def RJ9 : String := "java/lang/Math"
def RJ7 : String := "java/util/Arrays"
def TX0 : u_T := fun k => match k with
  | 0 => ("TargetRows$HistoryRows", "tags", "[I", true)
  | 1 => ("TargetRows$HistoryRows", "targets", "[I", true)
  | _ => ("TargetRows$HistoryRows", "history", "I", false)
def tyX0 : Nat → FieldType := fun k => match k with
  | 0 => .array .int
  | 1 => .array .int
  | _ => .int
theorem nmX0 : ∀ a, a < 3 → ∀ b, b < 3 → a ≠ b → (TX0 a).2.1 ≠ (TX0 b).2.1 := by decide +kernel
theorem tyX0_ok : ∀ k, k < 3 → parseFieldDescriptor (TX0 k).2.2.1 = some (tyX0 k) := by decide +kernel
def TX1 : u_T := fun k => match k with
  | 0 => ("TargetRows$Queue", "size", "I", false)
  | 1 => ("TargetRows$Queue", "first", "I", false)
  | 2 => ("TargetRows$Queue", "ringLength", "I", true)
  | 3 => ("TargetRows$Queue", "places", "[I", true)
  | 4 => ("TargetRows$Queue", "told", "[I", true)
  | 5 => ("TargetRows$Queue", "depths", "[I", true)
  | _ => ("TargetRows$Queue", "rings", "[I", true)
def tyX1 : Nat → FieldType := fun k => match k with
  | 0 => .int
  | 1 => .int
  | 2 => .int
  | 3 => .array .int
  | 4 => .array .int
  | 5 => .array .int
  | _ => .array .int
theorem nmX1 : ∀ a, a < 7 → ∀ b, b < 7 → a ≠ b → (TX1 a).2.1 ≠ (TX1 b).2.1 := by decide +kernel
theorem tyX1_ok : ∀ k, k < 7 → parseFieldDescriptor (TX1 k).2.2.1 = some (tyX1 k) := by decide +kernel
def TX2 : u_T := fun k => match k with
  | 0 => ("TargetRows$Returns", "limit", "I", true)
  | 1 => ("TargetRows$Returns", "depth", "I", false)
  | 2 => ("TargetRows$Returns", "overflows", "I", false)
  | 3 => ("TargetRows$Returns", "underflows", "I", false)
  | _ => ("TargetRows$Returns", "places", "[I", true)
def tyX2 : Nat → FieldType := fun k => match k with
  | 0 => .int
  | 1 => .int
  | 2 => .int
  | 3 => .int
  | _ => .array .int
theorem nmX2 : ∀ a, a < 5 → ∀ b, b < 5 → a ≠ b → (TX2 a).2.1 ≠ (TX2 b).2.1 := by decide +kernel
theorem tyX2_ok : ∀ k, k < 5 → parseFieldDescriptor (TX2 k).2.2.1 = some (tyX2 k) := by decide +kernel
def TX3 : u_T := fun k => match k with
  | 0 => ("TargetRows$Table", "sets", "I", true)
  | 1 => ("TargetRows$Table", "ways", "I", true)
  | 2 => ("TargetRows$Table", "tags", "[I", true)
  | 3 => ("TargetRows$Table", "kinds", "[I", true)
  | 4 => ("TargetRows$Table", "targets", "[I", true)
  | 5 => ("TargetRows$Table", "filled", "I", false)
  | 6 => ("TargetRows$Table", "setBits", "I", true)
  | 7 => ("TargetRows$Table", "lastUses", "[I", true)
  | _ => ("TargetRows$Table", "uses", "I", false)
def tyX3 : Nat → FieldType := fun k => match k with
  | 0 => .int
  | 1 => .int
  | 2 => .array .int
  | 3 => .array .int
  | 4 => .array .int
  | 5 => .int
  | 6 => .int
  | 7 => .array .int
  | _ => .int
theorem nmX3 : ∀ a, a < 9 → ∀ b, b < 9 → a ≠ b → (TX3 a).2.1 ≠ (TX3 b).2.1 := by decide +kernel
theorem tyX3_ok : ∀ k, k < 9 → parseFieldDescriptor (TX3 k).2.2.1 = some (tyX3 k) := by decide +kernel
def TX4 : u_T := fun k => match k with
  | 0 => ("TargetRows", "table", "LTargetRows$Table;", true)
  | 1 => ("TargetRows", "rows", "LTargetRows$HistoryRows;", true)
  | 2 => ("TargetRows", "stack", "LTargetRows$Returns;", true)
  | 3 => ("TargetRows", "queue", "LTargetRows$Queue;", true)
  | 4 => ("TargetRows", "answers", "[I", true)
  | 5 => ("TargetRows", "checked", "I", false)
  | _ => ("TargetRows", "lost", "I", false)
def tyX4 : Nat → FieldType := fun k => match k with
  | 0 => .object "TargetRows$Table"
  | 1 => .object "TargetRows$HistoryRows"
  | 2 => .object "TargetRows$Returns"
  | 3 => .object "TargetRows$Queue"
  | 4 => .array .int
  | 5 => .int
  | _ => .int
theorem nmX4 : ∀ a, a < 7 → ∀ b, b < 7 → a ≠ b → (TX4 a).2.1 ≠ (TX4 b).2.1 := by decide +kernel
theorem tyX4_ok : ∀ k, k < 7 → parseFieldDescriptor (TX4 k).2.2.1 = some (tyX4 k) := by decide +kernel
def TX5 : u_T := fun k => match k with
  | 0 => ("TargetRowsModel", "thrown", "I", false)
  | 1 => ("TargetRowsModel", "sets", "I", true)
  | 2 => ("TargetRowsModel", "ways", "I", true)
  | 3 => ("TargetRowsModel", "room", "I", true)
  | 4 => ("TargetRowsModel", "setBits", "I", true)
  | 5 => ("TargetRowsModel", "has", "[Z", true)
  | 6 => ("TargetRowsModel", "tag", "[I", true)
  | 7 => ("TargetRowsModel", "kind", "[I", true)
  | 8 => ("TargetRowsModel", "target", "[I", true)
  | 9 => ("TargetRowsModel", "used", "[I", true)
  | 10 => ("TargetRowsModel", "time", "I", false)
  | 11 => ("TargetRowsModel", "rowTag", "[I", true)
  | 12 => ("TargetRowsModel", "rowTarget", "[I", true)
  | 13 => ("TargetRowsModel", "history", "I", false)
  | 14 => ("TargetRowsModel", "deep", "I", false)
  | 15 => ("TargetRowsModel", "ring", "[I", true)
  | 16 => ("TargetRowsModel", "queued", "I", false)
  | 17 => ("TargetRowsModel", "place", "[I", true)
  | 18 => ("TargetRowsModel", "told", "[I", true)
  | 19 => ("TargetRowsModel", "wasDeep", "[I", true)
  | 20 => ("TargetRowsModel", "wasRing", "[I", true)
  | 21 => ("TargetRowsModel", "counts", "[I", true)
  | 22 => ("TargetRowsModel", "overflows", "I", false)
  | 23 => ("TargetRowsModel", "underflows", "I", false)
  | _ => ("TargetRowsModel", "lost", "I", false)
def tyX5 : Nat → FieldType := fun k => match k with
  | 0 => .int
  | 1 => .int
  | 2 => .int
  | 3 => .int
  | 4 => .int
  | 5 => .array .boolean
  | 6 => .array .int
  | 7 => .array .int
  | 8 => .array .int
  | 9 => .array .int
  | 10 => .int
  | 11 => .array .int
  | 12 => .array .int
  | 13 => .int
  | 14 => .int
  | 15 => .array .int
  | 16 => .int
  | 17 => .array .int
  | 18 => .array .int
  | 19 => .array .int
  | 20 => .array .int
  | 21 => .array .int
  | 22 => .int
  | 23 => .int
  | _ => .int
theorem nmX5 : ∀ a, a < 25 → ∀ b, b < 25 → a ≠ b → (TX5 a).2.1 ≠ (TX5 b).2.1 := by decide +kernel
theorem tyX5_ok : ∀ k, k < 25 → parseFieldDescriptor (TX5 k).2.2.1 = some (tyX5 k) := by decide +kernel
abbrev cX4_init : ByteArray := prog_1_method_1_code
def yX4_init : MethodName := ⟨RX4, "<init>", "(III)V"⟩
abbrev cJ9_floorMod : ByteArray := prog_12_method_50_code
def yJ9_floorMod : MethodName := ⟨RJ9, "floorMod", "(II)I"⟩
abbrev cX3_init : ByteArray := prog_5_method_1_code
def yX3_init : MethodName := ⟨RX3, "<init>", "(II)V"⟩
abbrev cJ7_fill : ByteArray := prog_18_method_103_code
def yJ7_fill : MethodName := ⟨RJ7, "fill", "([II)V"⟩
abbrev cX0_init : ByteArray := prog_2_method_1_code
def yX0_init : MethodName := ⟨RX0, "<init>", "()V"⟩
abbrev cX2_init : ByteArray := prog_4_method_1_code
def yX2_init : MethodName := ⟨RX2, "<init>", "(I)V"⟩
abbrev cX1_init : ByteArray := prog_3_method_1_code
def yX1_init : MethodName := ⟨RX1, "<init>", "(I)V"⟩
abbrev cX4_ask : ByteArray := prog_1_method_2_code
def yX4_ask : MethodName := ⟨RX4, "ask", "(I)I"⟩
abbrev cX3_find : ByteArray := prog_5_method_2_code
def yX3_find : MethodName := ⟨RX3, "find", "(I)I"⟩
abbrev cX3_firstSlotFor : ByteArray := prog_5_method_5_code
def yX3_firstSlotFor : MethodName := ⟨RX3, "firstSlotFor", "(I)I"⟩
abbrev cX3_tagOf : ByteArray := prog_5_method_6_code
def yX3_tagOf : MethodName := ⟨RX3, "tagOf", "(I)I"⟩
abbrev cX4_toldOf : ByteArray := prog_1_method_13_code
def yX4_toldOf : MethodName := ⟨RX4, "toldOf", "(II)I"⟩
abbrev cX4_behind : ByteArray := prog_1_method_12_code
def yX4_behind : MethodName := ⟨RX4, "behind", "(I)I"⟩
abbrev cX2_fromTop : ByteArray := prog_4_method_2_code
def yX2_fromTop : MethodName := ⟨RX2, "fromTop", "(I)I"⟩
abbrev cX0_knows : ByteArray := prog_2_method_2_code
def yX0_knows : MethodName := ⟨RX0, "knows", "(I)Z"⟩
abbrev cX0_indexFor : ByteArray := prog_2_method_6_code
def yX0_indexFor : MethodName := ⟨RX0, "indexFor", "(I)I"⟩
abbrev cX0_tagOf : ByteArray := prog_2_method_7_code
def yX0_tagOf : MethodName := ⟨RX0, "tagOf", "(I)I"⟩
abbrev cX0_targetFor : ByteArray := prog_2_method_3_code
def yX0_targetFor : MethodName := ⟨RX0, "targetFor", "(I)I"⟩
abbrev cX4_flush : ByteArray := prog_1_method_5_code
def yX4_flush : MethodName := ⟨RX4, "flush", "()I"⟩
abbrev cX1_giveBack : ByteArray := prog_3_method_5_code
def yX1_giveBack : MethodName := ⟨RX1, "giveBack", "(LTargetRows$Returns;)V"⟩
abbrev cX2_copyFrom : ByteArray := prog_4_method_6_code
def yX2_copyFrom : MethodName := ⟨RX2, "copyFrom", "([III)V"⟩
abbrev cX1_clear : ByteArray := prog_3_method_7_code
def yX1_clear : MethodName := ⟨RX1, "clear", "()V"⟩
abbrev cX4_storage : ByteArray := prog_1_method_10_code
def yX4_storage : MethodName := ⟨RX4, "storage", "()I"⟩
abbrev cX4_count : ByteArray := prog_1_method_11_code
def yX4_count : MethodName := ⟨RX4, "count", "(I)I"⟩
abbrev cL_cell : ByteArray := method_2_code
def yL_cell : MethodName := ⟨RL, "cell", "([II)I"⟩
abbrev cL_next : ByteArray := method_3_code
def yL_next : MethodName := ⟨RL, "next", "(LTargetRows;I[J)I"⟩
abbrev cX4_next : ByteArray := prog_1_method_3_code
def yX4_next : MethodName := ⟨RX4, "next", "(I)I"⟩
abbrev cX1_add : ByteArray := prog_3_method_2_code
def yX1_add : MethodName := ⟨RX1, "add", "(IILTargetRows$Returns;)V"⟩
abbrev cX1_indexOf : ByteArray := prog_3_method_8_code
def yX1_indexOf : MethodName := ⟨RX1, "indexOf", "(I)I"⟩
abbrev cX2_copyTo : ByteArray := prog_4_method_5_code
def yX2_copyTo : MethodName := ⟨RX2, "copyTo", "([II)V"⟩
abbrev cX4_moveStack : ByteArray := prog_1_method_14_code
def yX4_moveStack : MethodName := ⟨RX4, "moveStack", "(II)V"⟩
abbrev cX2_push : ByteArray := prog_4_method_3_code
def yX2_push : MethodName := ⟨RX2, "push", "(I)V"⟩
abbrev cX2_loseLowest : ByteArray := prog_4_method_7_code
def yX2_loseLowest : MethodName := ⟨RX2, "loseLowest", "()V"⟩
abbrev cX2_pop : ByteArray := prog_4_method_4_code
def yX2_pop : MethodName := ⟨RX2, "pop", "()V"⟩
abbrev cL_check : ByteArray := method_4_code
def yL_check : MethodName := ⟨RL, "check", "(LTargetRows;IZI[J)I"⟩
abbrev cX4_check : ByteArray := prog_1_method_4_code
def yX4_check : MethodName := ⟨RX4, "check", "(IZI)I"⟩
abbrev cX1_placeAt : ByteArray := prog_3_method_3_code
def yX1_placeAt : MethodName := ⟨RX1, "placeAt", "(I)I"⟩
abbrev cX1_toldAt : ByteArray := prog_3_method_4_code
def yX1_toldAt : MethodName := ⟨RX1, "toldAt", "(I)I"⟩
abbrev cX4_causeOf : ByteArray := prog_1_method_15_code
def yX4_causeOf : MethodName := ⟨RX4, "causeOf", "(IIZ)I"⟩
abbrev cX1_dropOldest : ByteArray := prog_3_method_6_code
def yX1_dropOldest : MethodName := ⟨RX1, "dropOldest", "()V"⟩
abbrev cX4_repair : ByteArray := prog_1_method_16_code
def yX4_repair : MethodName := ⟨RX4, "repair", "(IIZ)V"⟩
abbrev cX4_update : ByteArray := prog_1_method_17_code
def yX4_update : MethodName := ⟨RX4, "update", "(III)V"⟩
abbrev cX3_put : ByteArray := prog_5_method_3_code
def yX3_put : MethodName := ⟨RX3, "put", "(III)V"⟩
abbrev cX3_slotToFill : ByteArray := prog_5_method_4_code
def yX3_slotToFill : MethodName := ⟨RX3, "slotToFill", "(I)I"⟩
abbrev cX0_put : ByteArray := prog_2_method_4_code
def yX0_put : MethodName := ⟨RX0, "put", "(II)V"⟩
abbrev cX0_remember : ByteArray := prog_2_method_5_code
def yX0_remember : MethodName := ⟨RX0, "remember", "(I)V"⟩
abbrev cL_entry : ByteArray := method_5_code
def yL_entry : MethodName := ⟨RL, "entry", "(LTargetRows;III[J)I"⟩
abbrev cX4_entry : ByteArray := prog_1_method_6_code
def yX4_entry : MethodName := ⟨RX4, "entry", "(III)I"⟩
abbrev cL_row : ByteArray := method_6_code
def yL_row : MethodName := ⟨RL, "row", "(LTargetRows;II[J)I"⟩
abbrev cX4_row : ByteArray := prog_1_method_7_code
def yX4_row : MethodName := ⟨RX4, "row", "(II)I"⟩
abbrev cL_ring : ByteArray := method_7_code
def yL_ring : MethodName := ⟨RL, "ring", "(LTargetRows;I[J)I"⟩
abbrev cX4_ring : ByteArray := prog_1_method_8_code
def yX4_ring : MethodName := ⟨RX4, "ring", "(I)I"⟩
abbrev cL_queued : ByteArray := method_8_code
def yL_queued : MethodName := ⟨RL, "queued", "(LTargetRows;II[J)I"⟩
abbrev cX4_queued : ByteArray := prog_1_method_9_code
def yX4_queued : MethodName := ⟨RX4, "queued", "(II)I"⟩
abbrev cX5_init : ByteArray := prog_7_method_1_code
def yX5_init : MethodName := ⟨RX5, "<init>", "(III)V"⟩
abbrev cX5_modulo : ByteArray := prog_7_method_2_code
def yX5_modulo : MethodName := ⟨RX5, "modulo", "(II)I"⟩
abbrev cX5_thrown : ByteArray := prog_7_method_3_code
def yX5_thrown : MethodName := ⟨RX5, "thrown", "()I"⟩
abbrev cX5_ask : ByteArray := prog_7_method_15_code
def yX5_ask : MethodName := ⟨RX5, "ask", "(I)I"⟩
abbrev cX5_tell : ByteArray := prog_7_method_14_code
def yX5_tell : MethodName := ⟨RX5, "tell", "(I)I"⟩
abbrev cX5_find : ByteArray := prog_7_method_8_code
def yX5_find : MethodName := ⟨RX5, "find", "(I)I"⟩
abbrev cX5_firstOf : ByteArray := prog_7_method_6_code
def yX5_firstOf : MethodName := ⟨RX5, "firstOf", "(I)I"⟩
abbrev cX5_tagOf : ByteArray := prog_7_method_7_code
def yX5_tagOf : MethodName := ⟨RX5, "tagOf", "(I)I"⟩
abbrev cX5_rowOf : ByteArray := prog_7_method_9_code
def yX5_rowOf : MethodName := ⟨RX5, "rowOf", "(I)I"⟩
abbrev cX5_rowTagOf : ByteArray := prog_7_method_10_code
def yX5_rowTagOf : MethodName := ⟨RX5, "rowTagOf", "(I)I"⟩
abbrev cX5_next : ByteArray := prog_7_method_16_code
def yX5_next : MethodName := ⟨RX5, "next", "(I)I"⟩
abbrev cX5_fail : ByteArray := prog_7_method_4_code
def yX5_fail : MethodName := ⟨RX5, "fail", "(I)I"⟩
abbrev cX5_push : ByteArray := prog_7_method_11_code
def yX5_push : MethodName := ⟨RX5, "push", "(I)V"⟩
abbrev cX5_pop : ByteArray := prog_7_method_12_code
def yX5_pop : MethodName := ⟨RX5, "pop", "()V"⟩
abbrev cX5_check : ByteArray := prog_7_method_21_code
def yX5_check : MethodName := ⟨RX5, "check", "(IZI)I"⟩
abbrev cX5_within : ByteArray := prog_7_method_5_code
def yX5_within : MethodName := ⟨RX5, "within", "(III)Z"⟩
abbrev cX5_causeOf : ByteArray := prog_7_method_17_code
def yX5_causeOf : MethodName := ⟨RX5, "causeOf", "(IIZ)I"⟩
abbrev cX5_dropFirst : ByteArray := prog_7_method_18_code
def yX5_dropFirst : MethodName := ⟨RX5, "dropFirst", "()V"⟩
abbrev cX5_ringAsBefore : ByteArray := prog_7_method_13_code
def yX5_ringAsBefore : MethodName := ⟨RX5, "ringAsBefore", "(I)V"⟩
abbrev cX5_learn : ByteArray := prog_7_method_20_code
def yX5_learn : MethodName := ⟨RX5, "learn", "(III)V"⟩
abbrev cX5_wayFor : ByteArray := prog_7_method_19_code
def yX5_wayFor : MethodName := ⟨RX5, "wayFor", "(I)I"⟩
abbrev cX5_flush : ByteArray := prog_7_method_22_code
def yX5_flush : MethodName := ⟨RX5, "flush", "()I"⟩
abbrev cX5_entry : ByteArray := prog_7_method_23_code
def yX5_entry : MethodName := ⟨RX5, "entry", "(III)I"⟩
abbrev cX5_row : ByteArray := prog_7_method_24_code
def yX5_row : MethodName := ⟨RX5, "row", "(II)I"⟩
abbrev cX5_ring : ByteArray := prog_7_method_25_code
def yX5_ring : MethodName := ⟨RX5, "ring", "(I)I"⟩
abbrev cX5_queued : ByteArray := prog_7_method_26_code
def yX5_queued : MethodName := ⟨RX5, "queued", "(II)I"⟩
abbrev cX5_storage : ByteArray := prog_7_method_27_code
def yX5_storage : MethodName := ⟨RX5, "storage", "()I"⟩
abbrev cX5_count : ByteArray := prog_7_method_28_code
def yX5_count : MethodName := ⟨RX5, "count", "(I)I"⟩
abbrev cL_law : ByteArray := code
def yL_law : MethodName := ⟨RL, "law", "([I)Z"⟩
/-- the words that every method takes: all good ones of the tables -/
def kw_big : List Cond := lw_tbl.filter goodWord
theorem kwm {i : Nat} {w : Cond} (h : lw_tbl[i]? = some w) (g : goodWord w = true) : w ∈ kw_big := List.mem_filter.mpr ⟨List.mem_of_getElem? h, g⟩
theorem kw_good {X : Cond} {L : List Cond} (h : ∀ w ∈ L, w ∈ kw_big) : GoodIn (X :: kw_big) L := fun w hw => ⟨List.mem_cons_of_mem _ (h w hw), good_of_word (List.mem_filter.mp (h w hw)).2⟩
theorem kw_goodL {L : List Cond} (h : ∀ w ∈ L, w ∈ kw_big) : GoodIn lw_tbl L := fun w hw => ⟨(List.mem_filter.mp (h w hw)).1, good_of_word (List.mem_filter.mp (h w hw)).2⟩
def wsX4_init : List Cond := .code yX4_init cX4_init 5 none :: kw_big
def wsJ9_floorMod : List Cond := .code yJ9_floorMod cJ9_floorMod 3 (some .int) :: kw_big
def wsX3_init : List Cond := .code yX3_init cX3_init 4 none :: kw_big
def wsJ7_fill : List Cond := .code yJ7_fill cJ7_fill 4 none :: kw_big
def wsX0_init : List Cond := .code yX0_init cX0_init 1 none :: kw_big
def wsX2_init : List Cond := .code yX2_init cX2_init 2 none :: kw_big
def wsX1_init : List Cond := .code yX1_init cX1_init 2 none :: kw_big
def wsX4_ask : List Cond := .code yX4_ask cX4_ask 2 (some .int) :: kw_big
def wsX3_find : List Cond := .code yX3_find cX3_find 5 (some .int) :: kw_big
def wsX3_firstSlotFor : List Cond := .code yX3_firstSlotFor cX3_firstSlotFor 2 (some .int) :: kw_big
def wsX3_tagOf : List Cond := .code yX3_tagOf cX3_tagOf 2 (some .int) :: kw_big
def wsX4_toldOf : List Cond := .code yX4_toldOf cX4_toldOf 4 (some .int) :: kw_big
def wsX4_behind : List Cond := .code yX4_behind cX4_behind 1 (some .int) :: kw_big
def wsX2_fromTop : List Cond := .code yX2_fromTop cX2_fromTop 2 (some .int) :: kw_big
def wsX0_knows : List Cond := .code yX0_knows cX0_knows 2 (some .boolean) :: kw_big
def wsX0_indexFor : List Cond := .code yX0_indexFor cX0_indexFor 3 (some .int) :: kw_big
def wsX0_tagOf : List Cond := .code yX0_tagOf cX0_tagOf 1 (some .int) :: kw_big
def wsX0_targetFor : List Cond := .code yX0_targetFor cX0_targetFor 2 (some .int) :: kw_big
def wsX4_flush : List Cond := .code yX4_flush cX4_flush 2 (some .int) :: kw_big
def wsX1_giveBack : List Cond := .code yX1_giveBack cX1_giveBack 2 none :: kw_big
def wsX2_copyFrom : List Cond := .code yX2_copyFrom cX2_copyFrom 4 none :: kw_big
def wsX1_clear : List Cond := .code yX1_clear cX1_clear 1 none :: kw_big
def wsX4_storage : List Cond := .code yX4_storage cX4_storage 1 (some .int) :: kw_big
def wsX4_count : List Cond := .code yX4_count cX4_count 2 (some .int) :: kw_big
def wsL_cell : List Cond := .code yL_cell cL_cell 2 (some .int) :: kw_big
def wsL_next : List Cond := .codeWith yL_next cL_next 4 (some .int) [(0, 9, 12, 13)] :: kw_big
def wsX4_next : List Cond := .code yX4_next cX4_next 4 (some .int) :: kw_big
def wsX1_add : List Cond := .code yX1_add cX1_add 5 none :: kw_big
def wsX1_indexOf : List Cond := .code yX1_indexOf cX1_indexOf 2 (some .int) :: kw_big
def wsX2_copyTo : List Cond := .code yX2_copyTo cX2_copyTo 3 none :: kw_big
def wsX4_moveStack : List Cond := .code yX4_moveStack cX4_moveStack 3 none :: kw_big
def wsX2_push : List Cond := .code yX2_push cX2_push 2 none :: kw_big
def wsX2_loseLowest : List Cond := .code yX2_loseLowest cX2_loseLowest 1 none :: kw_big
def wsX2_pop : List Cond := .code yX2_pop cX2_pop 1 none :: kw_big
def wsL_check : List Cond := .codeWith yL_check cL_check 6 (some .int) [(0, 12, 15, 19), (0, 12, 19, 21)] :: kw_big
def wsX4_check : List Cond := .code yX4_check cX4_check 7 (some .int) :: kw_big
def wsX1_placeAt : List Cond := .code yX1_placeAt cX1_placeAt 2 (some .int) :: kw_big
def wsX1_toldAt : List Cond := .code yX1_toldAt cX1_toldAt 2 (some .int) :: kw_big
def wsX4_causeOf : List Cond := .code yX4_causeOf cX4_causeOf 5 (some .int) :: kw_big
def wsX1_dropOldest : List Cond := .code yX1_dropOldest cX1_dropOldest 1 none :: kw_big
def wsX4_repair : List Cond := .code yX4_repair cX4_repair 4 none :: kw_big
def wsX4_update : List Cond := .code yX4_update cX4_update 4 none :: kw_big
def wsX3_put : List Cond := .code yX3_put cX3_put 5 none :: kw_big
def wsX3_slotToFill : List Cond := .code yX3_slotToFill cX3_slotToFill 5 (some .int) :: kw_big
def wsX0_put : List Cond := .code yX0_put cX0_put 4 none :: kw_big
def wsX0_remember : List Cond := .code yX0_remember cX0_remember 2 none :: kw_big
def wsL_entry : List Cond := .codeWith yL_entry cL_entry 6 (some .int) [(0, 12, 15, 27)] :: kw_big
def wsX4_entry : List Cond := .code yX4_entry cX4_entry 5 (some .int) :: kw_big
def wsL_row : List Cond := .codeWith yL_row cL_row 5 (some .int) [(0, 10, 13, 27)] :: kw_big
def wsX4_row : List Cond := .code yX4_row cX4_row 3 (some .int) :: kw_big
def wsL_ring : List Cond := .codeWith yL_ring cL_ring 4 (some .int) [(0, 9, 12, 27)] :: kw_big
def wsX4_ring : List Cond := .code yX4_ring cX4_ring 2 (some .int) :: kw_big
def wsL_queued : List Cond := .codeWith yL_queued cL_queued 5 (some .int) [(0, 10, 13, 27)] :: kw_big
def wsX4_queued : List Cond := .code yX4_queued cX4_queued 3 (some .int) :: kw_big
def wsX5_init : List Cond := .code yX5_init cX5_init 6 none :: kw_big
def wsX5_modulo : List Cond := .code yX5_modulo cX5_modulo 2 (some .int) :: kw_big
def wsX5_thrown : List Cond := .code yX5_thrown cX5_thrown 1 (some .int) :: kw_big
def wsX5_ask : List Cond := .code yX5_ask cX5_ask 2 (some .int) :: kw_big
def wsX5_tell : List Cond := .code yX5_tell cX5_tell 4 (some .int) :: kw_big
def wsX5_find : List Cond := .code yX5_find cX5_find 4 (some .int) :: kw_big
def wsX5_firstOf : List Cond := .code yX5_firstOf cX5_firstOf 2 (some .int) :: kw_big
def wsX5_tagOf : List Cond := .code yX5_tagOf cX5_tagOf 2 (some .int) :: kw_big
def wsX5_rowOf : List Cond := .code yX5_rowOf cX5_rowOf 2 (some .int) :: kw_big
def wsX5_rowTagOf : List Cond := .code yX5_rowTagOf cX5_rowTagOf 1 (some .int) :: kw_big
def wsX5_next : List Cond := .code yX5_next cX5_next 3 (some .int) :: kw_big
def wsX5_fail : List Cond := .code yX5_fail cX5_fail 2 (some .int) :: kw_big
def wsX5_push : List Cond := .code yX5_push cX5_push 3 none :: kw_big
def wsX5_pop : List Cond := .code yX5_pop cX5_pop 1 none :: kw_big
def wsX5_check : List Cond := .code yX5_check cX5_check 7 (some .int) :: kw_big
def wsX5_within : List Cond := .code yX5_within cX5_within 3 (some .boolean) :: kw_big
def wsX5_causeOf : List Cond := .code yX5_causeOf cX5_causeOf 5 (some .int) :: kw_big
def wsX5_dropFirst : List Cond := .code yX5_dropFirst cX5_dropFirst 3 none :: kw_big
def wsX5_ringAsBefore : List Cond := .code yX5_ringAsBefore cX5_ringAsBefore 3 none :: kw_big
def wsX5_learn : List Cond := .code yX5_learn cX5_learn 5 none :: kw_big
def wsX5_wayFor : List Cond := .code yX5_wayFor cX5_wayFor 5 (some .int) :: kw_big
def wsX5_flush : List Cond := .code yX5_flush cX5_flush 2 (some .int) :: kw_big
def wsX5_entry : List Cond := .code yX5_entry cX5_entry 5 (some .int) :: kw_big
def wsX5_row : List Cond := .code yX5_row cX5_row 3 (some .int) :: kw_big
def wsX5_ring : List Cond := .code yX5_ring cX5_ring 2 (some .int) :: kw_big
def wsX5_queued : List Cond := .code yX5_queued cX5_queued 3 (some .int) :: kw_big
def wsX5_storage : List Cond := .code yX5_storage cX5_storage 1 (some .int) :: kw_big
def wsX5_count : List Cond := .code yX5_count cX5_count 4 (some .int) :: kw_big
abbrev vwCl : List vw_C := [(RX0, TX0, 3), (RX1, TX1, 7), (RX2, TX2, 5), (RX3, TX3, 9), (RX4, TX4, 7), (RX5, TX5, 25)]
end
section
theorem kw_V {own C : String} {idx : Nat} {y : MethodName} {cd X : Cond} (h1 : Cond.methodLink own idx y ∈ kw_big) (h2 : Cond.instanceMethod y ∈ kw_big) (h3 : Cond.selects C y y ∈ kw_big) (h4 : Cond.initialized C ∈ kw_big) (h5 : cd ∈ kw_big) : GoodIn (X :: kw_big) (wsV own idx C y (cd :: kw_big)) := kw_good (fun w h => by
  simp only [wsV, List.cons_append, List.nil_append, List.mem_cons] at h
  rcases h with rfl | rfl | rfl | rfl | rfl | h
  · exact h1
  · exact h2
  · exact h3
  · exact h4
  · exact h5
  · exact h)
theorem kw_VL {own C : String} {idx : Nat} {y : MethodName} {cd : Cond} (h1 : Cond.methodLink own idx y ∈ kw_big) (h2 : Cond.instanceMethod y ∈ kw_big) (h3 : Cond.selects C y y ∈ kw_big) (h4 : Cond.initialized C ∈ kw_big) (h5 : cd ∈ kw_big) : GoodIn lw_tbl (wsV own idx C y (cd :: kw_big)) := kw_goodL (fun w h => by
  simp only [wsV, List.cons_append, List.nil_append, List.mem_cons] at h
  rcases h with rfl | rfl | rfl | rfl | rfl | h
  · exact h1
  · exact h2
  · exact h3
  · exact h4
  · exact h5
  · exact h)
theorem kw_S {own : String} {idx : Nat} {y : MethodName} {cd X : Cond} (h1 : Cond.methodLink own idx y ∈ kw_big) (h2 : Cond.static y ∈ kw_big) (h4 : Cond.initialized y.cls ∈ kw_big) (h5 : cd ∈ kw_big) : GoodIn (X :: kw_big) (va_wsS own idx y (cd :: kw_big)) := kw_good (fun w h => by
  simp only [va_wsS, List.cons_append, List.nil_append, List.mem_cons] at h
  rcases h with rfl | rfl | rfl | rfl | h
  · exact h1
  · exact h2
  · exact h4
  · exact h5
  · exact h)
theorem kw_SL {own : String} {idx : Nat} {y : MethodName} {cd : Cond} (h1 : Cond.methodLink own idx y ∈ kw_big) (h2 : Cond.static y ∈ kw_big) (h4 : Cond.initialized y.cls ∈ kw_big) (h5 : cd ∈ kw_big) : GoodIn lw_tbl (va_wsS own idx y (cd :: kw_big)) := kw_goodL (fun w h => by
  simp only [va_wsS, List.cons_append, List.nil_append, List.mem_cons] at h
  rcases h with rfl | rfl | rfl | rfl | h
  · exact h1
  · exact h2
  · exact h4
  · exact h5
  · exact h)
theorem kw_I {cd X : Cond} (h5 : cd ∈ kw_big) : GoodIn (X :: kw_big) (cd :: kw_big) := kw_good (fun w h => by
  rcases List.mem_cons.mp h with rfl | h
  · exact h5
  · exact h)
theorem kw_IL {cd : Cond} (h5 : cd ∈ kw_big) : GoodIn lw_tbl (cd :: kw_big) := kw_goodL (fun w h => by
  rcases List.mem_cons.mp h with rfl | h
  · exact h5
  · exact h)
theorem kw_0 : (Cond.selects RX3 yX3_firstSlotFor yX3_firstSlotFor) ∈ kw_big := kwm (i := 0) (by decide +kernel) (by decide +kernel)
theorem kw_1 : (Cond.selects RX3 yX3_tagOf yX3_tagOf) ∈ kw_big := kwm (i := 1) (by decide +kernel) (by decide +kernel)
theorem kw_2 : (Cond.selects RX4 yX4_toldOf yX4_toldOf) ∈ kw_big := kwm (i := 2) (by decide +kernel) (by decide +kernel)
theorem kw_3 : (Cond.selects RX0 yX0_indexFor yX0_indexFor) ∈ kw_big := kwm (i := 3) (by decide +kernel) (by decide +kernel)
theorem kw_4 : (Cond.selects "java/lang/Throwable" ⟨"java/lang/Throwable", "fillInStackTrace", "(I)Ljava/lang/Throwable;"⟩ ⟨"java/lang/Throwable", "fillInStackTrace", "(I)Ljava/lang/Throwable;"⟩) ∈ kw_big := kwm (i := 4) (by decide +kernel) (by decide +kernel)
theorem kw_5 : (Cond.selects RX1 yX1_indexOf yX1_indexOf) ∈ kw_big := kwm (i := 5) (by decide +kernel) (by decide +kernel)
theorem kw_6 : (Cond.selects RX4 yX4_moveStack yX4_moveStack) ∈ kw_big := kwm (i := 6) (by decide +kernel) (by decide +kernel)
theorem kw_7 : (Cond.selects RX2 yX2_loseLowest yX2_loseLowest) ∈ kw_big := kwm (i := 7) (by decide +kernel) (by decide +kernel)
theorem kw_8 : (Cond.selects RX4 yX4_causeOf yX4_causeOf) ∈ kw_big := kwm (i := 8) (by decide +kernel) (by decide +kernel)
theorem kw_9 : (Cond.selects RX4 yX4_repair yX4_repair) ∈ kw_big := kwm (i := 9) (by decide +kernel) (by decide +kernel)
theorem kw_10 : (Cond.selects RX4 yX4_update yX4_update) ∈ kw_big := kwm (i := 10) (by decide +kernel) (by decide +kernel)
theorem kw_11 : (Cond.selects RX3 yX3_slotToFill yX3_slotToFill) ∈ kw_big := kwm (i := 11) (by decide +kernel) (by decide +kernel)
theorem kw_12 : (Cond.selects RX5 yX5_tell yX5_tell) ∈ kw_big := kwm (i := 12) (by decide +kernel) (by decide +kernel)
theorem kw_13 : (Cond.selects RX5 yX5_find yX5_find) ∈ kw_big := kwm (i := 13) (by decide +kernel) (by decide +kernel)
theorem kw_14 : (Cond.selects RX5 yX5_firstOf yX5_firstOf) ∈ kw_big := kwm (i := 14) (by decide +kernel) (by decide +kernel)
theorem kw_15 : (Cond.selects RX5 yX5_tagOf yX5_tagOf) ∈ kw_big := kwm (i := 15) (by decide +kernel) (by decide +kernel)
theorem kw_16 : (Cond.selects RX5 yX5_rowOf yX5_rowOf) ∈ kw_big := kwm (i := 16) (by decide +kernel) (by decide +kernel)
theorem kw_17 : (Cond.selects RX5 yX5_fail yX5_fail) ∈ kw_big := kwm (i := 17) (by decide +kernel) (by decide +kernel)
theorem kw_18 : (Cond.selects RX5 yX5_push yX5_push) ∈ kw_big := kwm (i := 18) (by decide +kernel) (by decide +kernel)
theorem kw_19 : (Cond.selects RX5 yX5_pop yX5_pop) ∈ kw_big := kwm (i := 19) (by decide +kernel) (by decide +kernel)
theorem kw_20 : (Cond.selects RX5 yX5_causeOf yX5_causeOf) ∈ kw_big := kwm (i := 20) (by decide +kernel) (by decide +kernel)
theorem kw_21 : (Cond.selects RX5 yX5_dropFirst yX5_dropFirst) ∈ kw_big := kwm (i := 21) (by decide +kernel) (by decide +kernel)
theorem kw_22 : (Cond.selects RX5 yX5_ringAsBefore yX5_ringAsBefore) ∈ kw_big := kwm (i := 22) (by decide +kernel) (by decide +kernel)
theorem kw_23 : (Cond.selects RX5 yX5_learn yX5_learn) ∈ kw_big := kwm (i := 23) (by decide +kernel) (by decide +kernel)
theorem kw_24 : (Cond.selects RX5 yX5_wayFor yX5_wayFor) ∈ kw_big := kwm (i := 24) (by decide +kernel) (by decide +kernel)
theorem kw_25 : (Cond.initialized RL) ∈ kw_big := kwm (i := 25) (by decide +kernel) (by decide +kernel)
theorem kw_26 : (Cond.initialized RX4) ∈ kw_big := kwm (i := 26) (by decide +kernel) (by decide +kernel)
theorem kw_27 : (Cond.initialized RJ9) ∈ kw_big := kwm (i := 27) (by decide +kernel) (by decide +kernel)
theorem kw_28 : (Cond.initialized RX3) ∈ kw_big := kwm (i := 28) (by decide +kernel) (by decide +kernel)
theorem kw_29 : (Cond.initialized RJ7) ∈ kw_big := kwm (i := 29) (by decide +kernel) (by decide +kernel)
theorem kw_30 : (Cond.initialized RX0) ∈ kw_big := kwm (i := 30) (by decide +kernel) (by decide +kernel)
theorem kw_31 : (Cond.initialized RX2) ∈ kw_big := kwm (i := 31) (by decide +kernel) (by decide +kernel)
theorem kw_32 : (Cond.initialized RX1) ∈ kw_big := kwm (i := 32) (by decide +kernel) (by decide +kernel)
theorem kw_33 : (Cond.initialized RX5) ∈ kw_big := kwm (i := 33) (by decide +kernel) (by decide +kernel)
theorem kw_34 : (Cond.initialized "java/lang/Throwable") ∈ kw_big := kwm (i := 34) (by decide +kernel) (by decide +kernel)
theorem kw_35 : (Cond.initialized "java/lang/Exception") ∈ kw_big := kwm (i := 35) (by decide +kernel) (by decide +kernel)
theorem kw_36 : (Cond.initialized "java/lang/RuntimeException") ∈ kw_big := kwm (i := 36) (by decide +kernel) (by decide +kernel)
theorem kw_37 : (Cond.initialized "java/lang/UnsupportedOperationException") ∈ kw_big := kwm (i := 37) (by decide +kernel) (by decide +kernel)
theorem kw_38 : (Cond.initialized "java/lang/System") ∈ kw_big := kwm (i := 38) (by decide +kernel) (by decide +kernel)
theorem kw_39 : (Cond.initialized "java/lang/IllegalArgumentException") ∈ kw_big := kwm (i := 39) (by decide +kernel) (by decide +kernel)
theorem kw_40 : (Cond.initialized "java/lang/IllegalStateException") ∈ kw_big := kwm (i := 40) (by decide +kernel) (by decide +kernel)
theorem kw_41 : (Cond.initialized "java/lang/IndexOutOfBoundsException") ∈ kw_big := kwm (i := 41) (by decide +kernel) (by decide +kernel)
theorem kw_42 : (Cond.classLink RL 8 RX4) ∈ kw_big := kwm (i := 42) (by decide +kernel) (by decide +kernel)
theorem kw_43 : (Cond.instantiable RX4 7) ∈ kw_big := kwm (i := 43) (by decide +kernel) (by decide +kernel)
theorem kw_44 : (Cond.methodLink RL 45 yX4_init) ∈ kw_big := kwm (i := 44) (by decide +kernel) (by decide +kernel)
theorem kw_45 : (Cond.instanceMethod yX4_init) ∈ kw_big := kwm (i := 45) (by decide +kernel) (by decide +kernel)
theorem kw_46 : (Cond.code yX4_init prog_1_method_1_code 5 none) ∈ kw_big := kwm (i := 46) (by decide +kernel) (by decide +kernel)
theorem kw_47 : (Cond.methodLink RX4 1 objectInit) ∈ kw_big := kwm (i := 47) (by decide +kernel) (by decide +kernel)
theorem kw_48 : (Cond.instanceMethod objectInit) ∈ kw_big := kwm (i := 48) (by decide +kernel) (by decide +kernel)
theorem kw_49 : (Cond.code objectInit ⟨#[0xb1]⟩ 1 none) ∈ kw_big := kwm (i := 49) (by decide +kernel) (by decide +kernel)
theorem kw_50 : (Cond.methodLink RX4 7 yJ9_floorMod) ∈ kw_big := kwm (i := 50) (by decide +kernel) (by decide +kernel)
theorem kw_51 : (Cond.static yJ9_floorMod) ∈ kw_big := kwm (i := 51) (by decide +kernel) (by decide +kernel)
theorem kw_52 : (Cond.code yJ9_floorMod prog_12_method_50_code 3 (some .int)) ∈ kw_big := kwm (i := 52) (by decide +kernel) (by decide +kernel)
theorem kw_53 : (Cond.classLink RX4 13 RX3) ∈ kw_big := kwm (i := 53) (by decide +kernel) (by decide +kernel)
theorem kw_54 : (Cond.instantiable RX3 9) ∈ kw_big := kwm (i := 54) (by decide +kernel) (by decide +kernel)
theorem kw_55 : (Cond.methodLink RX4 15 yX3_init) ∈ kw_big := kwm (i := 55) (by decide +kernel) (by decide +kernel)
theorem kw_56 : (Cond.instanceMethod yX3_init) ∈ kw_big := kwm (i := 56) (by decide +kernel) (by decide +kernel)
theorem kw_57 : (Cond.code yX3_init prog_5_method_1_code 4 none) ∈ kw_big := kwm (i := 57) (by decide +kernel) (by decide +kernel)
theorem kw_58 : (Cond.methodLink RX3 3 objectInit) ∈ kw_big := kwm (i := 58) (by decide +kernel) (by decide +kernel)
theorem kw_59 : (Cond.methodLink RX3 34 yJ7_fill) ∈ kw_big := kwm (i := 59) (by decide +kernel) (by decide +kernel)
theorem kw_60 : (Cond.static yJ7_fill) ∈ kw_big := kwm (i := 60) (by decide +kernel) (by decide +kernel)
theorem kw_61 : (Cond.code yJ7_fill prog_18_method_103_code 4 none) ∈ kw_big := kwm (i := 61) (by decide +kernel) (by decide +kernel)
theorem kw_62 : (Cond.fieldLink RX3 15 "TargetRows$Table" "sets" "I") ∈ kw_big := kwm (i := 62) (by decide +kernel) (by decide +kernel)
theorem kw_63 : (Cond.fieldLink RX4 126 "TargetRows$Table" "sets" "I") ∈ kw_big := kwm (i := 63) (by decide +kernel) (by decide +kernel)
theorem kw_64 : (Cond.fieldLink RX3 18 "TargetRows$Table" "ways" "I") ∈ kw_big := kwm (i := 64) (by decide +kernel) (by decide +kernel)
theorem kw_65 : (Cond.fieldLink RX4 129 "TargetRows$Table" "ways" "I") ∈ kw_big := kwm (i := 65) (by decide +kernel) (by decide +kernel)
theorem kw_66 : (Cond.fieldLink RX3 21 "TargetRows$Table" "tags" "[I") ∈ kw_big := kwm (i := 66) (by decide +kernel) (by decide +kernel)
theorem kw_67 : (Cond.fieldLink RX4 139 "TargetRows$Table" "tags" "[I") ∈ kw_big := kwm (i := 67) (by decide +kernel) (by decide +kernel)
theorem kw_68 : (Cond.fieldLink RX3 25 "TargetRows$Table" "kinds" "[I") ∈ kw_big := kwm (i := 68) (by decide +kernel) (by decide +kernel)
theorem kw_69 : (Cond.fieldLink RX4 73 "TargetRows$Table" "kinds" "[I") ∈ kw_big := kwm (i := 69) (by decide +kernel) (by decide +kernel)
theorem kw_70 : (Cond.fieldLink RX3 28 "TargetRows$Table" "targets" "[I") ∈ kw_big := kwm (i := 70) (by decide +kernel) (by decide +kernel)
theorem kw_71 : (Cond.fieldLink RX4 142 "TargetRows$Table" "targets" "[I") ∈ kw_big := kwm (i := 71) (by decide +kernel) (by decide +kernel)
theorem kw_72 : (Cond.fieldLink RX3 53 "TargetRows$Table" "filled" "I") ∈ kw_big := kwm (i := 72) (by decide +kernel) (by decide +kernel)
theorem kw_73 : (Cond.fieldLink RX4 168 "TargetRows$Table" "filled" "I") ∈ kw_big := kwm (i := 73) (by decide +kernel) (by decide +kernel)
theorem kw_74 : (Cond.fieldLink RX3 9 "TargetRows$Table" "setBits" "I") ∈ kw_big := kwm (i := 74) (by decide +kernel) (by decide +kernel)
theorem kw_75 : (Cond.fieldLink RX3 31 "TargetRows$Table" "lastUses" "[I") ∈ kw_big := kwm (i := 75) (by decide +kernel) (by decide +kernel)
theorem kw_76 : (Cond.fieldLink RX3 56 "TargetRows$Table" "uses" "I") ∈ kw_big := kwm (i := 76) (by decide +kernel) (by decide +kernel)
theorem kw_77 : (Cond.laysFinal RX3 "TargetRows$Table" "sets" "I") ∈ kw_big := kwm (i := 77) (by decide +kernel) (by decide +kernel)
theorem kw_79 : (Cond.laysFinal RX3 "TargetRows$Table" "ways" "I") ∈ kw_big := kwm (i := 79) (by decide +kernel) (by decide +kernel)
theorem kw_81 : (Cond.laysFinal RX3 "TargetRows$Table" "tags" "[I") ∈ kw_big := kwm (i := 81) (by decide +kernel) (by decide +kernel)
theorem kw_83 : (Cond.laysFinal RX3 "TargetRows$Table" "kinds" "[I") ∈ kw_big := kwm (i := 83) (by decide +kernel) (by decide +kernel)
theorem kw_85 : (Cond.laysFinal RX3 "TargetRows$Table" "targets" "[I") ∈ kw_big := kwm (i := 85) (by decide +kernel) (by decide +kernel)
theorem kw_87 : (Cond.lays RX3 "TargetRows$Table" "filled" "I") ∈ kw_big := kwm (i := 87) (by decide +kernel) (by decide +kernel)
theorem kw_89 : (Cond.laysFinal RX3 "TargetRows$Table" "setBits" "I") ∈ kw_big := kwm (i := 89) (by decide +kernel) (by decide +kernel)
theorem kw_91 : (Cond.laysFinal RX3 "TargetRows$Table" "lastUses" "[I") ∈ kw_big := kwm (i := 91) (by decide +kernel) (by decide +kernel)
theorem kw_93 : (Cond.lays RX3 "TargetRows$Table" "uses" "I") ∈ kw_big := kwm (i := 93) (by decide +kernel) (by decide +kernel)
theorem kw_96 : (Cond.arrayClass .int) ∈ kw_big := kwm (i := 96) (by decide +kernel) (by decide +kernel)
theorem kw_97 : (Cond.classLink RX4 24 RX0) ∈ kw_big := kwm (i := 97) (by decide +kernel) (by decide +kernel)
theorem kw_98 : (Cond.instantiable RX0 3) ∈ kw_big := kwm (i := 98) (by decide +kernel) (by decide +kernel)
theorem kw_99 : (Cond.methodLink RX4 26 yX0_init) ∈ kw_big := kwm (i := 99) (by decide +kernel) (by decide +kernel)
theorem kw_100 : (Cond.instanceMethod yX0_init) ∈ kw_big := kwm (i := 100) (by decide +kernel) (by decide +kernel)
theorem kw_101 : (Cond.code yX0_init prog_2_method_1_code 1 none) ∈ kw_big := kwm (i := 101) (by decide +kernel) (by decide +kernel)
theorem kw_102 : (Cond.methodLink RX0 3 objectInit) ∈ kw_big := kwm (i := 102) (by decide +kernel) (by decide +kernel)
theorem kw_103 : (Cond.methodLink RX0 18 yJ7_fill) ∈ kw_big := kwm (i := 103) (by decide +kernel) (by decide +kernel)
theorem kw_104 : (Cond.fieldLink RX0 9 "TargetRows$HistoryRows" "tags" "[I") ∈ kw_big := kwm (i := 104) (by decide +kernel) (by decide +kernel)
theorem kw_105 : (Cond.fieldLink RX4 147 "TargetRows$HistoryRows" "tags" "[I") ∈ kw_big := kwm (i := 105) (by decide +kernel) (by decide +kernel)
theorem kw_106 : (Cond.fieldLink RX0 15 "TargetRows$HistoryRows" "targets" "[I") ∈ kw_big := kwm (i := 106) (by decide +kernel) (by decide +kernel)
theorem kw_107 : (Cond.fieldLink RX4 148 "TargetRows$HistoryRows" "targets" "[I") ∈ kw_big := kwm (i := 107) (by decide +kernel) (by decide +kernel)
theorem kw_108 : (Cond.fieldLink RX0 31 "TargetRows$HistoryRows" "history" "I") ∈ kw_big := kwm (i := 108) (by decide +kernel) (by decide +kernel)
theorem kw_109 : (Cond.fieldLink RX4 171 "TargetRows$HistoryRows" "history" "I") ∈ kw_big := kwm (i := 109) (by decide +kernel) (by decide +kernel)
theorem kw_110 : (Cond.laysFinal RX0 "TargetRows$HistoryRows" "tags" "[I") ∈ kw_big := kwm (i := 110) (by decide +kernel) (by decide +kernel)
theorem kw_112 : (Cond.laysFinal RX0 "TargetRows$HistoryRows" "targets" "[I") ∈ kw_big := kwm (i := 112) (by decide +kernel) (by decide +kernel)
theorem kw_114 : (Cond.lays RX0 "TargetRows$HistoryRows" "history" "I") ∈ kw_big := kwm (i := 114) (by decide +kernel) (by decide +kernel)
theorem kw_117 : (Cond.classLink RX4 31 RX2) ∈ kw_big := kwm (i := 117) (by decide +kernel) (by decide +kernel)
theorem kw_118 : (Cond.instantiable RX2 5) ∈ kw_big := kwm (i := 118) (by decide +kernel) (by decide +kernel)
theorem kw_119 : (Cond.methodLink RX4 33 yX2_init) ∈ kw_big := kwm (i := 119) (by decide +kernel) (by decide +kernel)
theorem kw_120 : (Cond.instanceMethod yX2_init) ∈ kw_big := kwm (i := 120) (by decide +kernel) (by decide +kernel)
theorem kw_121 : (Cond.code yX2_init prog_4_method_1_code 2 none) ∈ kw_big := kwm (i := 121) (by decide +kernel) (by decide +kernel)
theorem kw_122 : (Cond.methodLink RX2 1 objectInit) ∈ kw_big := kwm (i := 122) (by decide +kernel) (by decide +kernel)
theorem kw_123 : (Cond.fieldLink RX2 7 "TargetRows$Returns" "limit" "I") ∈ kw_big := kwm (i := 123) (by decide +kernel) (by decide +kernel)
theorem kw_124 : (Cond.fieldLink RX4 159 "TargetRows$Returns" "limit" "I") ∈ kw_big := kwm (i := 124) (by decide +kernel) (by decide +kernel)
theorem kw_125 : (Cond.fieldLink RX2 17 "TargetRows$Returns" "depth" "I") ∈ kw_big := kwm (i := 125) (by decide +kernel) (by decide +kernel)
theorem kw_126 : (Cond.fieldLink RX1 35 "TargetRows$Returns" "depth" "I") ∈ kw_big := kwm (i := 126) (by decide +kernel) (by decide +kernel)
theorem kw_127 : (Cond.fieldLink RX4 149 "TargetRows$Returns" "depth" "I") ∈ kw_big := kwm (i := 127) (by decide +kernel) (by decide +kernel)
theorem kw_128 : (Cond.fieldLink RX2 20 "TargetRows$Returns" "overflows" "I") ∈ kw_big := kwm (i := 128) (by decide +kernel) (by decide +kernel)
theorem kw_129 : (Cond.fieldLink RX4 162 "TargetRows$Returns" "overflows" "I") ∈ kw_big := kwm (i := 129) (by decide +kernel) (by decide +kernel)
theorem kw_130 : (Cond.fieldLink RX2 26 "TargetRows$Returns" "underflows" "I") ∈ kw_big := kwm (i := 130) (by decide +kernel) (by decide +kernel)
theorem kw_131 : (Cond.fieldLink RX4 165 "TargetRows$Returns" "underflows" "I") ∈ kw_big := kwm (i := 131) (by decide +kernel) (by decide +kernel)
theorem kw_132 : (Cond.fieldLink RX2 13 "TargetRows$Returns" "places" "[I") ∈ kw_big := kwm (i := 132) (by decide +kernel) (by decide +kernel)
theorem kw_133 : (Cond.laysFinal RX2 "TargetRows$Returns" "limit" "I") ∈ kw_big := kwm (i := 133) (by decide +kernel) (by decide +kernel)
theorem kw_135 : (Cond.lays RX2 "TargetRows$Returns" "depth" "I") ∈ kw_big := kwm (i := 135) (by decide +kernel) (by decide +kernel)
theorem kw_137 : (Cond.lays RX2 "TargetRows$Returns" "overflows" "I") ∈ kw_big := kwm (i := 137) (by decide +kernel) (by decide +kernel)
theorem kw_139 : (Cond.lays RX2 "TargetRows$Returns" "underflows" "I") ∈ kw_big := kwm (i := 139) (by decide +kernel) (by decide +kernel)
theorem kw_141 : (Cond.laysFinal RX2 "TargetRows$Returns" "places" "[I") ∈ kw_big := kwm (i := 141) (by decide +kernel) (by decide +kernel)
theorem kw_144 : (Cond.classLink RX4 40 RX1) ∈ kw_big := kwm (i := 144) (by decide +kernel) (by decide +kernel)
theorem kw_145 : (Cond.instantiable RX1 7) ∈ kw_big := kwm (i := 145) (by decide +kernel) (by decide +kernel)
theorem kw_146 : (Cond.methodLink RX4 42 yX1_init) ∈ kw_big := kwm (i := 146) (by decide +kernel) (by decide +kernel)
theorem kw_147 : (Cond.instanceMethod yX1_init) ∈ kw_big := kwm (i := 147) (by decide +kernel) (by decide +kernel)
theorem kw_148 : (Cond.code yX1_init prog_3_method_1_code 2 none) ∈ kw_big := kwm (i := 148) (by decide +kernel) (by decide +kernel)
theorem kw_149 : (Cond.methodLink RX1 3 objectInit) ∈ kw_big := kwm (i := 149) (by decide +kernel) (by decide +kernel)
theorem kw_150 : (Cond.fieldLink RX1 28 "TargetRows$Queue" "size" "I") ∈ kw_big := kwm (i := 150) (by decide +kernel) (by decide +kernel)
theorem kw_151 : (Cond.fieldLink RX4 58 "TargetRows$Queue" "size" "I") ∈ kw_big := kwm (i := 151) (by decide +kernel) (by decide +kernel)
theorem kw_152 : (Cond.fieldLink RX1 44 "TargetRows$Queue" "first" "I") ∈ kw_big := kwm (i := 152) (by decide +kernel) (by decide +kernel)
theorem kw_153 : (Cond.fieldLink RX1 9 "TargetRows$Queue" "ringLength" "I") ∈ kw_big := kwm (i := 153) (by decide +kernel) (by decide +kernel)
theorem kw_154 : (Cond.fieldLink RX1 15 "TargetRows$Queue" "places" "[I") ∈ kw_big := kwm (i := 154) (by decide +kernel) (by decide +kernel)
theorem kw_155 : (Cond.fieldLink RX1 19 "TargetRows$Queue" "told" "[I") ∈ kw_big := kwm (i := 155) (by decide +kernel) (by decide +kernel)
theorem kw_156 : (Cond.fieldLink RX1 22 "TargetRows$Queue" "depths" "[I") ∈ kw_big := kwm (i := 156) (by decide +kernel) (by decide +kernel)
theorem kw_157 : (Cond.fieldLink RX1 25 "TargetRows$Queue" "rings" "[I") ∈ kw_big := kwm (i := 157) (by decide +kernel) (by decide +kernel)
theorem kw_158 : (Cond.lays RX1 "TargetRows$Queue" "size" "I") ∈ kw_big := kwm (i := 158) (by decide +kernel) (by decide +kernel)
theorem kw_160 : (Cond.lays RX1 "TargetRows$Queue" "first" "I") ∈ kw_big := kwm (i := 160) (by decide +kernel) (by decide +kernel)
theorem kw_162 : (Cond.laysFinal RX1 "TargetRows$Queue" "ringLength" "I") ∈ kw_big := kwm (i := 162) (by decide +kernel) (by decide +kernel)
theorem kw_164 : (Cond.laysFinal RX1 "TargetRows$Queue" "places" "[I") ∈ kw_big := kwm (i := 164) (by decide +kernel) (by decide +kernel)
theorem kw_166 : (Cond.laysFinal RX1 "TargetRows$Queue" "told" "[I") ∈ kw_big := kwm (i := 166) (by decide +kernel) (by decide +kernel)
theorem kw_168 : (Cond.laysFinal RX1 "TargetRows$Queue" "depths" "[I") ∈ kw_big := kwm (i := 168) (by decide +kernel) (by decide +kernel)
theorem kw_170 : (Cond.laysFinal RX1 "TargetRows$Queue" "rings" "[I") ∈ kw_big := kwm (i := 170) (by decide +kernel) (by decide +kernel)
theorem kw_173 : (Cond.fieldLink RX4 18 "TargetRows" "table" "LTargetRows$Table;") ∈ kw_big := kwm (i := 173) (by decide +kernel) (by decide +kernel)
theorem kw_174 : (Cond.fieldLink RX4 27 "TargetRows" "rows" "LTargetRows$HistoryRows;") ∈ kw_big := kwm (i := 174) (by decide +kernel) (by decide +kernel)
theorem kw_175 : (Cond.fieldLink RX4 36 "TargetRows" "stack" "LTargetRows$Returns;") ∈ kw_big := kwm (i := 175) (by decide +kernel) (by decide +kernel)
theorem kw_176 : (Cond.fieldLink RX4 43 "TargetRows" "queue" "LTargetRows$Queue;") ∈ kw_big := kwm (i := 176) (by decide +kernel) (by decide +kernel)
theorem kw_177 : (Cond.fieldLink RX4 47 "TargetRows" "answers" "[I") ∈ kw_big := kwm (i := 177) (by decide +kernel) (by decide +kernel)
theorem kw_178 : (Cond.fieldLink RX4 113 "TargetRows" "checked" "I") ∈ kw_big := kwm (i := 178) (by decide +kernel) (by decide +kernel)
theorem kw_179 : (Cond.fieldLink RX4 123 "TargetRows" "lost" "I") ∈ kw_big := kwm (i := 179) (by decide +kernel) (by decide +kernel)
theorem kw_180 : (Cond.laysFinal RX4 "TargetRows" "table" "LTargetRows$Table;") ∈ kw_big := kwm (i := 180) (by decide +kernel) (by decide +kernel)
theorem kw_182 : (Cond.laysFinal RX4 "TargetRows" "rows" "LTargetRows$HistoryRows;") ∈ kw_big := kwm (i := 182) (by decide +kernel) (by decide +kernel)
theorem kw_184 : (Cond.laysFinal RX4 "TargetRows" "stack" "LTargetRows$Returns;") ∈ kw_big := kwm (i := 184) (by decide +kernel) (by decide +kernel)
theorem kw_186 : (Cond.laysFinal RX4 "TargetRows" "queue" "LTargetRows$Queue;") ∈ kw_big := kwm (i := 186) (by decide +kernel) (by decide +kernel)
theorem kw_188 : (Cond.laysFinal RX4 "TargetRows" "answers" "[I") ∈ kw_big := kwm (i := 188) (by decide +kernel) (by decide +kernel)
theorem kw_190 : (Cond.lays RX4 "TargetRows" "checked" "I") ∈ kw_big := kwm (i := 190) (by decide +kernel) (by decide +kernel)
theorem kw_192 : (Cond.lays RX4 "TargetRows" "lost" "I") ∈ kw_big := kwm (i := 192) (by decide +kernel) (by decide +kernel)
theorem kw_195 : (Cond.methodLink RL 51 yX4_ask) ∈ kw_big := kwm (i := 195) (by decide +kernel) (by decide +kernel)
theorem kw_196 : (Cond.instanceMethod yX4_ask) ∈ kw_big := kwm (i := 196) (by decide +kernel) (by decide +kernel)
theorem kw_197 : (Cond.selects RX4 yX4_ask yX4_ask) ∈ kw_big := kwm (i := 197) (by decide +kernel) (by decide +kernel)
theorem kw_198 : (Cond.code yX4_ask prog_1_method_2_code 2 (some .int)) ∈ kw_big := kwm (i := 198) (by decide +kernel) (by decide +kernel)
theorem kw_199 : (Cond.methodLink RX4 51 yX3_find) ∈ kw_big := kwm (i := 199) (by decide +kernel) (by decide +kernel)
theorem kw_200 : (Cond.instanceMethod yX3_find) ∈ kw_big := kwm (i := 200) (by decide +kernel) (by decide +kernel)
theorem kw_201 : (Cond.selects RX3 yX3_find yX3_find) ∈ kw_big := kwm (i := 201) (by decide +kernel) (by decide +kernel)
theorem kw_202 : (Cond.code yX3_find prog_5_method_2_code 5 (some .int)) ∈ kw_big := kwm (i := 202) (by decide +kernel) (by decide +kernel)
theorem kw_203 : (Cond.methodLink RX3 40 yX3_firstSlotFor) ∈ kw_big := kwm (i := 203) (by decide +kernel) (by decide +kernel)
theorem kw_205 : (Cond.instanceMethod yX3_firstSlotFor) ∈ kw_big := kwm (i := 205) (by decide +kernel) (by decide +kernel)
theorem kw_206 : (Cond.code yX3_firstSlotFor prog_5_method_5_code 2 (some .int)) ∈ kw_big := kwm (i := 206) (by decide +kernel) (by decide +kernel)
theorem kw_207 : (Cond.methodLink RX3 44 yX3_tagOf) ∈ kw_big := kwm (i := 207) (by decide +kernel) (by decide +kernel)
theorem kw_209 : (Cond.instanceMethod yX3_tagOf) ∈ kw_big := kwm (i := 209) (by decide +kernel) (by decide +kernel)
theorem kw_210 : (Cond.code yX3_tagOf prog_5_method_6_code 2 (some .int)) ∈ kw_big := kwm (i := 210) (by decide +kernel) (by decide +kernel)
theorem kw_211 : (Cond.methodLink RX4 55 yX4_toldOf) ∈ kw_big := kwm (i := 211) (by decide +kernel) (by decide +kernel)
theorem kw_213 : (Cond.instanceMethod yX4_toldOf) ∈ kw_big := kwm (i := 213) (by decide +kernel) (by decide +kernel)
theorem kw_214 : (Cond.code yX4_toldOf prog_1_method_13_code 4 (some .int)) ∈ kw_big := kwm (i := 214) (by decide +kernel) (by decide +kernel)
theorem kw_215 : (Cond.methodLink RX4 92 yX4_behind) ∈ kw_big := kwm (i := 215) (by decide +kernel) (by decide +kernel)
theorem kw_216 : (Cond.static yX4_behind) ∈ kw_big := kwm (i := 216) (by decide +kernel) (by decide +kernel)
theorem kw_217 : (Cond.code yX4_behind prog_1_method_12_code 1 (some .int)) ∈ kw_big := kwm (i := 217) (by decide +kernel) (by decide +kernel)
theorem kw_218 : (Cond.methodLink RX4 154 yX2_fromTop) ∈ kw_big := kwm (i := 218) (by decide +kernel) (by decide +kernel)
theorem kw_219 : (Cond.instanceMethod yX2_fromTop) ∈ kw_big := kwm (i := 219) (by decide +kernel) (by decide +kernel)
theorem kw_220 : (Cond.selects RX2 yX2_fromTop yX2_fromTop) ∈ kw_big := kwm (i := 220) (by decide +kernel) (by decide +kernel)
theorem kw_221 : (Cond.code yX2_fromTop prog_4_method_2_code 2 (some .int)) ∈ kw_big := kwm (i := 221) (by decide +kernel) (by decide +kernel)
theorem kw_222 : (Cond.methodLink RX4 174 yX0_knows) ∈ kw_big := kwm (i := 222) (by decide +kernel) (by decide +kernel)
theorem kw_223 : (Cond.instanceMethod yX0_knows) ∈ kw_big := kwm (i := 223) (by decide +kernel) (by decide +kernel)
theorem kw_224 : (Cond.selects RX0 yX0_knows yX0_knows) ∈ kw_big := kwm (i := 224) (by decide +kernel) (by decide +kernel)
theorem kw_225 : (Cond.code yX0_knows prog_2_method_2_code 2 (some .boolean)) ∈ kw_big := kwm (i := 225) (by decide +kernel) (by decide +kernel)
theorem kw_226 : (Cond.methodLink RX0 24 yX0_indexFor) ∈ kw_big := kwm (i := 226) (by decide +kernel) (by decide +kernel)
theorem kw_228 : (Cond.instanceMethod yX0_indexFor) ∈ kw_big := kwm (i := 228) (by decide +kernel) (by decide +kernel)
theorem kw_229 : (Cond.code yX0_indexFor prog_2_method_6_code 3 (some .int)) ∈ kw_big := kwm (i := 229) (by decide +kernel) (by decide +kernel)
theorem kw_230 : (Cond.methodLink RX0 28 yX0_tagOf) ∈ kw_big := kwm (i := 230) (by decide +kernel) (by decide +kernel)
theorem kw_231 : (Cond.static yX0_tagOf) ∈ kw_big := kwm (i := 231) (by decide +kernel) (by decide +kernel)
theorem kw_232 : (Cond.code yX0_tagOf prog_2_method_7_code 1 (some .int)) ∈ kw_big := kwm (i := 232) (by decide +kernel) (by decide +kernel)
theorem kw_233 : (Cond.methodLink RX4 178 yX0_targetFor) ∈ kw_big := kwm (i := 233) (by decide +kernel) (by decide +kernel)
theorem kw_234 : (Cond.instanceMethod yX0_targetFor) ∈ kw_big := kwm (i := 234) (by decide +kernel) (by decide +kernel)
theorem kw_235 : (Cond.selects RX0 yX0_targetFor yX0_targetFor) ∈ kw_big := kwm (i := 235) (by decide +kernel) (by decide +kernel)
theorem kw_236 : (Cond.code yX0_targetFor prog_2_method_3_code 2 (some .int)) ∈ kw_big := kwm (i := 236) (by decide +kernel) (by decide +kernel)
theorem kw_237 : (Cond.methodLink RL 67 yX4_flush) ∈ kw_big := kwm (i := 237) (by decide +kernel) (by decide +kernel)
theorem kw_238 : (Cond.instanceMethod yX4_flush) ∈ kw_big := kwm (i := 238) (by decide +kernel) (by decide +kernel)
theorem kw_239 : (Cond.selects RX4 yX4_flush yX4_flush) ∈ kw_big := kwm (i := 239) (by decide +kernel) (by decide +kernel)
theorem kw_240 : (Cond.code yX4_flush prog_1_method_5_code 2 (some .int)) ∈ kw_big := kwm (i := 240) (by decide +kernel) (by decide +kernel)
theorem kw_241 : (Cond.methodLink RX4 116 yX1_giveBack) ∈ kw_big := kwm (i := 241) (by decide +kernel) (by decide +kernel)
theorem kw_242 : (Cond.instanceMethod yX1_giveBack) ∈ kw_big := kwm (i := 242) (by decide +kernel) (by decide +kernel)
theorem kw_243 : (Cond.selects RX1 yX1_giveBack yX1_giveBack) ∈ kw_big := kwm (i := 243) (by decide +kernel) (by decide +kernel)
theorem kw_244 : (Cond.code yX1_giveBack prog_3_method_5_code 2 none) ∈ kw_big := kwm (i := 244) (by decide +kernel) (by decide +kernel)
theorem kw_245 : (Cond.methodLink RX1 47 yX2_copyFrom) ∈ kw_big := kwm (i := 245) (by decide +kernel) (by decide +kernel)
theorem kw_246 : (Cond.instanceMethod yX2_copyFrom) ∈ kw_big := kwm (i := 246) (by decide +kernel) (by decide +kernel)
theorem kw_247 : (Cond.selects RX2 yX2_copyFrom yX2_copyFrom) ∈ kw_big := kwm (i := 247) (by decide +kernel) (by decide +kernel)
theorem kw_248 : (Cond.code yX2_copyFrom prog_4_method_6_code 4 none) ∈ kw_big := kwm (i := 248) (by decide +kernel) (by decide +kernel)
theorem kw_249 : (Cond.methodLink RX2 29 arraycopyName) ∈ kw_big := kwm (i := 249) (by decide +kernel) (by decide +kernel)
theorem kw_250 : (Cond.static arraycopyName) ∈ kw_big := kwm (i := 250) (by decide +kernel) (by decide +kernel)
theorem kw_251 : (Cond.native arraycopyName) ∈ kw_big := kwm (i := 251) (by decide +kernel) (by decide +kernel)
theorem kw_252 : (Cond.methodLink RX4 120 yX1_clear) ∈ kw_big := kwm (i := 252) (by decide +kernel) (by decide +kernel)
theorem kw_253 : (Cond.instanceMethod yX1_clear) ∈ kw_big := kwm (i := 253) (by decide +kernel) (by decide +kernel)
theorem kw_254 : (Cond.selects RX1 yX1_clear yX1_clear) ∈ kw_big := kwm (i := 254) (by decide +kernel) (by decide +kernel)
theorem kw_255 : (Cond.code yX1_clear prog_3_method_7_code 1 none) ∈ kw_big := kwm (i := 255) (by decide +kernel) (by decide +kernel)
theorem kw_256 : (Cond.methodLink RL 85 yX4_storage) ∈ kw_big := kwm (i := 256) (by decide +kernel) (by decide +kernel)
theorem kw_257 : (Cond.instanceMethod yX4_storage) ∈ kw_big := kwm (i := 257) (by decide +kernel) (by decide +kernel)
theorem kw_258 : (Cond.selects RX4 yX4_storage yX4_storage) ∈ kw_big := kwm (i := 258) (by decide +kernel) (by decide +kernel)
theorem kw_259 : (Cond.code yX4_storage prog_1_method_10_code 1 (some .int)) ∈ kw_big := kwm (i := 259) (by decide +kernel) (by decide +kernel)
theorem kw_260 : (Cond.methodLink RL 89 yX4_count) ∈ kw_big := kwm (i := 260) (by decide +kernel) (by decide +kernel)
theorem kw_261 : (Cond.instanceMethod yX4_count) ∈ kw_big := kwm (i := 261) (by decide +kernel) (by decide +kernel)
theorem kw_262 : (Cond.selects RX4 yX4_count yX4_count) ∈ kw_big := kwm (i := 262) (by decide +kernel) (by decide +kernel)
theorem kw_263 : (Cond.code yX4_count prog_1_method_11_code 2 (some .int)) ∈ kw_big := kwm (i := 263) (by decide +kernel) (by decide +kernel)
theorem kw_264 : (Cond.methodLink RL 39 yL_cell) ∈ kw_big := kwm (i := 264) (by decide +kernel) (by decide +kernel)
theorem kw_265 : (Cond.static yL_cell) ∈ kw_big := kwm (i := 265) (by decide +kernel) (by decide +kernel)
theorem kw_266 : (Cond.code yL_cell method_2_code 2 (some .int)) ∈ kw_big := kwm (i := 266) (by decide +kernel) (by decide +kernel)
theorem kw_267 : (Cond.methodLink RL 55 yL_next) ∈ kw_big := kwm (i := 267) (by decide +kernel) (by decide +kernel)
theorem kw_268 : (Cond.static yL_next) ∈ kw_big := kwm (i := 268) (by decide +kernel) (by decide +kernel)
theorem kw_269 : (Cond.codeWith yL_next method_3_code 4 (some .int) [(0, 9, 12, 13)]) ∈ kw_big := kwm (i := 269) (by decide +kernel) (by decide +kernel)
theorem kw_270 : (Cond.classLink RL 13 "java/lang/UnsupportedOperationException") ∈ kw_big := kwm (i := 270) (by decide +kernel) (by decide +kernel)
theorem kw_271 : (Cond.methodLink RL 7 yX4_next) ∈ kw_big := kwm (i := 271) (by decide +kernel) (by decide +kernel)
theorem kw_272 : (Cond.instanceMethod yX4_next) ∈ kw_big := kwm (i := 272) (by decide +kernel) (by decide +kernel)
theorem kw_273 : (Cond.selects RX4 yX4_next yX4_next) ∈ kw_big := kwm (i := 273) (by decide +kernel) (by decide +kernel)
theorem kw_274 : (Cond.code yX4_next prog_1_method_3_code 4 (some .int)) ∈ kw_big := kwm (i := 274) (by decide +kernel) (by decide +kernel)
theorem kw_275 : (Cond.classLink RX4 62 "java/lang/UnsupportedOperationException") ∈ kw_big := kwm (i := 275) (by decide +kernel) (by decide +kernel)
theorem kw_276 : (Cond.instantiable "java/lang/UnsupportedOperationException" 6) ∈ kw_big := kwm (i := 276) (by decide +kernel) (by decide +kernel)
theorem kw_284 : (Cond.selects "java/lang/UnsupportedOperationException" ⟨"java/lang/Throwable", "fillInStackTrace", "(I)Ljava/lang/Throwable;"⟩ ⟨"java/lang/Throwable", "fillInStackTrace", "(I)Ljava/lang/Throwable;"⟩) ∈ kw_big := kwm (i := 284) (by decide +kernel) (by decide +kernel)
theorem kw_285 : (Cond.selects "java/lang/UnsupportedOperationException" ⟨"java/lang/Throwable", "fillInStackTrace", "()Ljava/lang/Throwable;"⟩ ⟨"java/lang/Throwable", "fillInStackTrace", "()Ljava/lang/Throwable;"⟩) ∈ kw_big := kwm (i := 285) (by decide +kernel) (by decide +kernel)
theorem kw_286 : (Cond.lays "java/lang/UnsupportedOperationException" "java/lang/Throwable" "cause" "Ljava/lang/Throwable;") ∈ kw_big := kwm (i := 286) (by decide +kernel) (by decide +kernel)
theorem kw_287 : (Cond.lays "java/lang/Throwable" "java/lang/Throwable" "cause" "Ljava/lang/Throwable;") ∈ kw_big := kwm (i := 287) (by decide +kernel) (by decide +kernel)
theorem kw_288 : (Cond.lays "java/lang/UnsupportedOperationException" "java/lang/Throwable" "stackTrace" "[Ljava/lang/StackTraceElement;") ∈ kw_big := kwm (i := 288) (by decide +kernel) (by decide +kernel)
theorem kw_289 : (Cond.lays "java/lang/Throwable" "java/lang/Throwable" "stackTrace" "[Ljava/lang/StackTraceElement;") ∈ kw_big := kwm (i := 289) (by decide +kernel) (by decide +kernel)
theorem kw_290 : (Cond.lays "java/lang/UnsupportedOperationException" "java/lang/Throwable" "suppressedExceptions" "Ljava/util/List;") ∈ kw_big := kwm (i := 290) (by decide +kernel) (by decide +kernel)
theorem kw_291 : (Cond.lays "java/lang/Throwable" "java/lang/Throwable" "suppressedExceptions" "Ljava/util/List;") ∈ kw_big := kwm (i := 291) (by decide +kernel) (by decide +kernel)
theorem kw_292 : (Cond.lays "java/lang/UnsupportedOperationException" "java/lang/Throwable" "detailMessage" "Ljava/lang/String;") ∈ kw_big := kwm (i := 292) (by decide +kernel) (by decide +kernel)
theorem kw_293 : (Cond.lays "java/lang/Throwable" "java/lang/Throwable" "detailMessage" "Ljava/lang/String;") ∈ kw_big := kwm (i := 293) (by decide +kernel) (by decide +kernel)
theorem kw_294 : (Cond.lays "java/lang/UnsupportedOperationException" "java/lang/Throwable" "backtrace" "Ljava/lang/Object;") ∈ kw_big := kwm (i := 294) (by decide +kernel) (by decide +kernel)
theorem kw_295 : (Cond.lays "java/lang/Throwable" "java/lang/Throwable" "backtrace" "Ljava/lang/Object;") ∈ kw_big := kwm (i := 295) (by decide +kernel) (by decide +kernel)
theorem kw_296 : (Cond.fieldLink "java/lang/Throwable" 198 "java/lang/Throwable" "backtrace" "Ljava/lang/Object;") ∈ kw_big := kwm (i := 296) (by decide +kernel) (by decide +kernel)
theorem kw_298 : (Cond.instanceMethod ⟨"java/lang/Throwable", "<init>", "()V"⟩) ∈ kw_big := kwm (i := 298) (by decide +kernel) (by decide +kernel)
theorem kw_299 : (Cond.code ⟨"java/lang/Throwable", "<init>", "()V"⟩ prog_16_method_1_code 1 none) ∈ kw_big := kwm (i := 299) (by decide +kernel) (by decide +kernel)
theorem kw_300 : (Cond.methodLink "java/lang/Throwable" 1 objectInit) ∈ kw_big := kwm (i := 300) (by decide +kernel) (by decide +kernel)
theorem kw_301 : (Cond.fieldLink "java/lang/Throwable" 13 "java/lang/Throwable" "UNASSIGNED_STACK" "[Ljava/lang/StackTraceElement;") ∈ kw_big := kwm (i := 301) (by decide +kernel) (by decide +kernel)
theorem kw_303 : (Cond.fieldLink "java/lang/Throwable" 20 "java/lang/Throwable" "SUPPRESSED_SENTINEL" "Ljava/util/List;") ∈ kw_big := kwm (i := 303) (by decide +kernel) (by decide +kernel)
theorem kw_305 : (Cond.methodLink "java/lang/Throwable" 27 ⟨"java/lang/Throwable", "fillInStackTrace", "()Ljava/lang/Throwable;"⟩) ∈ kw_big := kwm (i := 305) (by decide +kernel) (by decide +kernel)
theorem kw_306 : (Cond.instanceMethod ⟨"java/lang/Throwable", "fillInStackTrace", "()Ljava/lang/Throwable;"⟩) ∈ kw_big := kwm (i := 306) (by decide +kernel) (by decide +kernel)
theorem kw_307 : (Cond.sameMethod "java/lang/Throwable" "java/lang/Throwable" "fillInStackTrace" "()Ljava/lang/Throwable;") ∈ kw_big := kwm (i := 307) (by decide +kernel) (by decide +kernel)
theorem kw_308 : (Cond.selects "java/lang/IllegalArgumentException" ⟨"java/lang/Throwable", "fillInStackTrace", "()Ljava/lang/Throwable;"⟩ ⟨"java/lang/Throwable", "fillInStackTrace", "()Ljava/lang/Throwable;"⟩) ∈ kw_big := kwm (i := 308) (by decide +kernel) (by decide +kernel)
theorem kw_309 : (Cond.selects "java/lang/IllegalStateException" ⟨"java/lang/Throwable", "fillInStackTrace", "()Ljava/lang/Throwable;"⟩ ⟨"java/lang/Throwable", "fillInStackTrace", "()Ljava/lang/Throwable;"⟩) ∈ kw_big := kwm (i := 309) (by decide +kernel) (by decide +kernel)
theorem kw_310 : (Cond.selects "java/lang/IndexOutOfBoundsException" ⟨"java/lang/Throwable", "fillInStackTrace", "()Ljava/lang/Throwable;"⟩ ⟨"java/lang/Throwable", "fillInStackTrace", "()Ljava/lang/Throwable;"⟩) ∈ kw_big := kwm (i := 310) (by decide +kernel) (by decide +kernel)
theorem kw_312 : (Cond.methodLink "java/lang/Throwable" 202 ⟨"java/lang/Throwable", "fillInStackTrace", "(I)Ljava/lang/Throwable;"⟩) ∈ kw_big := kwm (i := 312) (by decide +kernel) (by decide +kernel)
theorem kw_314 : (Cond.instanceMethod ⟨"java/lang/Throwable", "fillInStackTrace", "(I)Ljava/lang/Throwable;"⟩) ∈ kw_big := kwm (i := 314) (by decide +kernel) (by decide +kernel)
theorem kw_315 : (Cond.instantiable "java/lang/Throwable" 6) ∈ kw_big := kwm (i := 315) (by decide +kernel) (by decide +kernel)
theorem kw_316 : (Cond.native ⟨"java/lang/Throwable", "fillInStackTrace", "(I)Ljava/lang/Throwable;"⟩) ∈ kw_big := kwm (i := 316) (by decide +kernel) (by decide +kernel)
theorem kw_318 : (Cond.methodLink RX4 66 ⟨"java/lang/UnsupportedOperationException", "<init>", "(Ljava/lang/String;)V"⟩) ∈ kw_big := kwm (i := 318) (by decide +kernel) (by decide +kernel)
theorem kw_319 : (Cond.instanceMethod ⟨"java/lang/UnsupportedOperationException", "<init>", "(Ljava/lang/String;)V"⟩) ∈ kw_big := kwm (i := 319) (by decide +kernel) (by decide +kernel)
theorem kw_320 : (Cond.code ⟨"java/lang/UnsupportedOperationException", "<init>", "(Ljava/lang/String;)V"⟩ prog_17_method_2_code 2 none) ∈ kw_big := kwm (i := 320) (by decide +kernel) (by decide +kernel)
theorem kw_321 : (Cond.methodLink "java/lang/UnsupportedOperationException" 7 ⟨"java/lang/RuntimeException", "<init>", "(Ljava/lang/String;)V"⟩) ∈ kw_big := kwm (i := 321) (by decide +kernel) (by decide +kernel)
theorem kw_322 : (Cond.instanceMethod ⟨"java/lang/RuntimeException", "<init>", "(Ljava/lang/String;)V"⟩) ∈ kw_big := kwm (i := 322) (by decide +kernel) (by decide +kernel)
theorem kw_323 : (Cond.code ⟨"java/lang/RuntimeException", "<init>", "(Ljava/lang/String;)V"⟩ prog_13_method_2_code 2 none) ∈ kw_big := kwm (i := 323) (by decide +kernel) (by decide +kernel)
theorem kw_324 : (Cond.methodLink "java/lang/RuntimeException" 7 ⟨"java/lang/Exception", "<init>", "(Ljava/lang/String;)V"⟩) ∈ kw_big := kwm (i := 324) (by decide +kernel) (by decide +kernel)
theorem kw_325 : (Cond.instanceMethod ⟨"java/lang/Exception", "<init>", "(Ljava/lang/String;)V"⟩) ∈ kw_big := kwm (i := 325) (by decide +kernel) (by decide +kernel)
theorem kw_326 : (Cond.code ⟨"java/lang/Exception", "<init>", "(Ljava/lang/String;)V"⟩ prog_8_method_2_code 2 none) ∈ kw_big := kwm (i := 326) (by decide +kernel) (by decide +kernel)
theorem kw_327 : (Cond.methodLink "java/lang/Exception" 7 ⟨"java/lang/Throwable", "<init>", "(Ljava/lang/String;)V"⟩) ∈ kw_big := kwm (i := 327) (by decide +kernel) (by decide +kernel)
theorem kw_328 : (Cond.instanceMethod ⟨"java/lang/Throwable", "<init>", "(Ljava/lang/String;)V"⟩) ∈ kw_big := kwm (i := 328) (by decide +kernel) (by decide +kernel)
theorem kw_329 : (Cond.code ⟨"java/lang/Throwable", "<init>", "(Ljava/lang/String;)V"⟩ prog_16_method_2_code 2 none) ∈ kw_big := kwm (i := 329) (by decide +kernel) (by decide +kernel)
theorem kw_331 : (Cond.fieldLink "java/lang/Throwable" 31 "java/lang/Throwable" "detailMessage" "Ljava/lang/String;") ∈ kw_big := kwm (i := 331) (by decide +kernel) (by decide +kernel)
theorem kw_332 : (Cond.fieldLink "java/lang/Throwable" 7 "java/lang/Throwable" "cause" "Ljava/lang/Throwable;") ∈ kw_big := kwm (i := 332) (by decide +kernel) (by decide +kernel)
theorem kw_333 : (Cond.fieldLink "java/lang/Throwable" 17 "java/lang/Throwable" "stackTrace" "[Ljava/lang/StackTraceElement;") ∈ kw_big := kwm (i := 333) (by decide +kernel) (by decide +kernel)
theorem kw_334 : (Cond.fieldLink "java/lang/Throwable" 24 "java/lang/Throwable" "suppressedExceptions" "Ljava/util/List;") ∈ kw_big := kwm (i := 334) (by decide +kernel) (by decide +kernel)
theorem kw_339 : (Cond.lays "java/lang/UnsupportedOperationException" "java/lang/Throwable" "depth" "I") ∈ kw_big := kwm (i := 339) (by decide +kernel) (by decide +kernel)
theorem kw_343 : (Cond.arrayClass .byte) ∈ kw_big := kwm (i := 343) (by decide +kernel) (by decide +kernel)
theorem kw_344 : (Cond.methodLink RX4 69 yX1_add) ∈ kw_big := kwm (i := 344) (by decide +kernel) (by decide +kernel)
theorem kw_345 : (Cond.instanceMethod yX1_add) ∈ kw_big := kwm (i := 345) (by decide +kernel) (by decide +kernel)
theorem kw_346 : (Cond.selects RX1 yX1_add yX1_add) ∈ kw_big := kwm (i := 346) (by decide +kernel) (by decide +kernel)
theorem kw_347 : (Cond.code yX1_add prog_3_method_2_code 5 none) ∈ kw_big := kwm (i := 347) (by decide +kernel) (by decide +kernel)
theorem kw_348 : (Cond.methodLink RX1 31 yX1_indexOf) ∈ kw_big := kwm (i := 348) (by decide +kernel) (by decide +kernel)
theorem kw_350 : (Cond.instanceMethod yX1_indexOf) ∈ kw_big := kwm (i := 350) (by decide +kernel) (by decide +kernel)
theorem kw_351 : (Cond.code yX1_indexOf prog_3_method_8_code 2 (some .int)) ∈ kw_big := kwm (i := 351) (by decide +kernel) (by decide +kernel)
theorem kw_352 : (Cond.methodLink RX1 40 yX2_copyTo) ∈ kw_big := kwm (i := 352) (by decide +kernel) (by decide +kernel)
theorem kw_353 : (Cond.instanceMethod yX2_copyTo) ∈ kw_big := kwm (i := 353) (by decide +kernel) (by decide +kernel)
theorem kw_354 : (Cond.selects RX2 yX2_copyTo yX2_copyTo) ∈ kw_big := kwm (i := 354) (by decide +kernel) (by decide +kernel)
theorem kw_355 : (Cond.code yX2_copyTo prog_4_method_5_code 3 none) ∈ kw_big := kwm (i := 355) (by decide +kernel) (by decide +kernel)
theorem kw_356 : (Cond.methodLink RX4 76 yX4_moveStack) ∈ kw_big := kwm (i := 356) (by decide +kernel) (by decide +kernel)
theorem kw_358 : (Cond.instanceMethod yX4_moveStack) ∈ kw_big := kwm (i := 358) (by decide +kernel) (by decide +kernel)
theorem kw_359 : (Cond.code yX4_moveStack prog_1_method_14_code 3 none) ∈ kw_big := kwm (i := 359) (by decide +kernel) (by decide +kernel)
theorem kw_360 : (Cond.methodLink RX4 181 yX2_push) ∈ kw_big := kwm (i := 360) (by decide +kernel) (by decide +kernel)
theorem kw_361 : (Cond.instanceMethod yX2_push) ∈ kw_big := kwm (i := 361) (by decide +kernel) (by decide +kernel)
theorem kw_362 : (Cond.selects RX2 yX2_push yX2_push) ∈ kw_big := kwm (i := 362) (by decide +kernel) (by decide +kernel)
theorem kw_363 : (Cond.code yX2_push prog_4_method_3_code 2 none) ∈ kw_big := kwm (i := 363) (by decide +kernel) (by decide +kernel)
theorem kw_364 : (Cond.methodLink RX2 23 yX2_loseLowest) ∈ kw_big := kwm (i := 364) (by decide +kernel) (by decide +kernel)
theorem kw_366 : (Cond.instanceMethod yX2_loseLowest) ∈ kw_big := kwm (i := 366) (by decide +kernel) (by decide +kernel)
theorem kw_367 : (Cond.code yX2_loseLowest prog_4_method_7_code 1 none) ∈ kw_big := kwm (i := 367) (by decide +kernel) (by decide +kernel)
theorem kw_368 : (Cond.methodLink RX4 184 yX2_pop) ∈ kw_big := kwm (i := 368) (by decide +kernel) (by decide +kernel)
theorem kw_369 : (Cond.instanceMethod yX2_pop) ∈ kw_big := kwm (i := 369) (by decide +kernel) (by decide +kernel)
theorem kw_370 : (Cond.selects RX2 yX2_pop yX2_pop) ∈ kw_big := kwm (i := 370) (by decide +kernel) (by decide +kernel)
theorem kw_371 : (Cond.code yX2_pop prog_4_method_4_code 1 none) ∈ kw_big := kwm (i := 371) (by decide +kernel) (by decide +kernel)
theorem kw_372 : (Cond.methodLink RL 63 yL_check) ∈ kw_big := kwm (i := 372) (by decide +kernel) (by decide +kernel)
theorem kw_373 : (Cond.static yL_check) ∈ kw_big := kwm (i := 373) (by decide +kernel) (by decide +kernel)
theorem kw_374 : (Cond.codeWith yL_check method_4_code 6 (some .int) [(0, 12, 15, 19), (0, 12, 19, 21)]) ∈ kw_big := kwm (i := 374) (by decide +kernel) (by decide +kernel)
theorem kw_375 : (Cond.classLink RL 19 "java/lang/IllegalArgumentException") ∈ kw_big := kwm (i := 375) (by decide +kernel) (by decide +kernel)
theorem kw_376 : (Cond.classLink RL 21 "java/lang/IllegalStateException") ∈ kw_big := kwm (i := 376) (by decide +kernel) (by decide +kernel)
theorem kw_377 : (Cond.methodLink RL 15 yX4_check) ∈ kw_big := kwm (i := 377) (by decide +kernel) (by decide +kernel)
theorem kw_378 : (Cond.instanceMethod yX4_check) ∈ kw_big := kwm (i := 378) (by decide +kernel) (by decide +kernel)
theorem kw_379 : (Cond.selects RX4 yX4_check yX4_check) ∈ kw_big := kwm (i := 379) (by decide +kernel) (by decide +kernel)
theorem kw_380 : (Cond.code yX4_check prog_1_method_4_code 7 (some .int)) ∈ kw_big := kwm (i := 380) (by decide +kernel) (by decide +kernel)
theorem kw_381 : (Cond.classLink RX4 79 "java/lang/IllegalArgumentException") ∈ kw_big := kwm (i := 381) (by decide +kernel) (by decide +kernel)
theorem kw_382 : (Cond.instantiable "java/lang/IllegalArgumentException" 6) ∈ kw_big := kwm (i := 382) (by decide +kernel) (by decide +kernel)
theorem kw_384 : (Cond.selects "java/lang/IllegalArgumentException" ⟨"java/lang/Throwable", "fillInStackTrace", "(I)Ljava/lang/Throwable;"⟩ ⟨"java/lang/Throwable", "fillInStackTrace", "(I)Ljava/lang/Throwable;"⟩) ∈ kw_big := kwm (i := 384) (by decide +kernel) (by decide +kernel)
theorem kw_385 : (Cond.lays "java/lang/IllegalArgumentException" "java/lang/Throwable" "cause" "Ljava/lang/Throwable;") ∈ kw_big := kwm (i := 385) (by decide +kernel) (by decide +kernel)
theorem kw_386 : (Cond.lays "java/lang/IllegalArgumentException" "java/lang/Throwable" "stackTrace" "[Ljava/lang/StackTraceElement;") ∈ kw_big := kwm (i := 386) (by decide +kernel) (by decide +kernel)
theorem kw_387 : (Cond.lays "java/lang/IllegalArgumentException" "java/lang/Throwable" "suppressedExceptions" "Ljava/util/List;") ∈ kw_big := kwm (i := 387) (by decide +kernel) (by decide +kernel)
theorem kw_388 : (Cond.lays "java/lang/IllegalArgumentException" "java/lang/Throwable" "detailMessage" "Ljava/lang/String;") ∈ kw_big := kwm (i := 388) (by decide +kernel) (by decide +kernel)
theorem kw_389 : (Cond.lays "java/lang/IllegalArgumentException" "java/lang/Throwable" "backtrace" "Ljava/lang/Object;") ∈ kw_big := kwm (i := 389) (by decide +kernel) (by decide +kernel)
theorem kw_391 : (Cond.methodLink RX4 83 ⟨"java/lang/IllegalArgumentException", "<init>", "(Ljava/lang/String;)V"⟩) ∈ kw_big := kwm (i := 391) (by decide +kernel) (by decide +kernel)
theorem kw_392 : (Cond.instanceMethod ⟨"java/lang/IllegalArgumentException", "<init>", "(Ljava/lang/String;)V"⟩) ∈ kw_big := kwm (i := 392) (by decide +kernel) (by decide +kernel)
theorem kw_393 : (Cond.code ⟨"java/lang/IllegalArgumentException", "<init>", "(Ljava/lang/String;)V"⟩ prog_9_method_2_code 2 none) ∈ kw_big := kwm (i := 393) (by decide +kernel) (by decide +kernel)
theorem kw_394 : (Cond.methodLink "java/lang/IllegalArgumentException" 7 ⟨"java/lang/RuntimeException", "<init>", "(Ljava/lang/String;)V"⟩) ∈ kw_big := kwm (i := 394) (by decide +kernel) (by decide +kernel)
theorem kw_395 : (Cond.lays "java/lang/IllegalArgumentException" "java/lang/Throwable" "depth" "I") ∈ kw_big := kwm (i := 395) (by decide +kernel) (by decide +kernel)
theorem kw_397 : (Cond.classLink RX4 84 "java/lang/IllegalStateException") ∈ kw_big := kwm (i := 397) (by decide +kernel) (by decide +kernel)
theorem kw_398 : (Cond.instantiable "java/lang/IllegalStateException" 6) ∈ kw_big := kwm (i := 398) (by decide +kernel) (by decide +kernel)
theorem kw_400 : (Cond.selects "java/lang/IllegalStateException" ⟨"java/lang/Throwable", "fillInStackTrace", "(I)Ljava/lang/Throwable;"⟩ ⟨"java/lang/Throwable", "fillInStackTrace", "(I)Ljava/lang/Throwable;"⟩) ∈ kw_big := kwm (i := 400) (by decide +kernel) (by decide +kernel)
theorem kw_401 : (Cond.lays "java/lang/IllegalStateException" "java/lang/Throwable" "cause" "Ljava/lang/Throwable;") ∈ kw_big := kwm (i := 401) (by decide +kernel) (by decide +kernel)
theorem kw_402 : (Cond.lays "java/lang/IllegalStateException" "java/lang/Throwable" "stackTrace" "[Ljava/lang/StackTraceElement;") ∈ kw_big := kwm (i := 402) (by decide +kernel) (by decide +kernel)
theorem kw_403 : (Cond.lays "java/lang/IllegalStateException" "java/lang/Throwable" "suppressedExceptions" "Ljava/util/List;") ∈ kw_big := kwm (i := 403) (by decide +kernel) (by decide +kernel)
theorem kw_404 : (Cond.lays "java/lang/IllegalStateException" "java/lang/Throwable" "detailMessage" "Ljava/lang/String;") ∈ kw_big := kwm (i := 404) (by decide +kernel) (by decide +kernel)
theorem kw_405 : (Cond.lays "java/lang/IllegalStateException" "java/lang/Throwable" "backtrace" "Ljava/lang/Object;") ∈ kw_big := kwm (i := 405) (by decide +kernel) (by decide +kernel)
theorem kw_407 : (Cond.methodLink RX4 88 ⟨"java/lang/IllegalStateException", "<init>", "(Ljava/lang/String;)V"⟩) ∈ kw_big := kwm (i := 407) (by decide +kernel) (by decide +kernel)
theorem kw_408 : (Cond.instanceMethod ⟨"java/lang/IllegalStateException", "<init>", "(Ljava/lang/String;)V"⟩) ∈ kw_big := kwm (i := 408) (by decide +kernel) (by decide +kernel)
theorem kw_409 : (Cond.code ⟨"java/lang/IllegalStateException", "<init>", "(Ljava/lang/String;)V"⟩ prog_10_method_2_code 2 none) ∈ kw_big := kwm (i := 409) (by decide +kernel) (by decide +kernel)
theorem kw_410 : (Cond.methodLink "java/lang/IllegalStateException" 7 ⟨"java/lang/RuntimeException", "<init>", "(Ljava/lang/String;)V"⟩) ∈ kw_big := kwm (i := 410) (by decide +kernel) (by decide +kernel)
theorem kw_411 : (Cond.lays "java/lang/IllegalStateException" "java/lang/Throwable" "depth" "I") ∈ kw_big := kwm (i := 411) (by decide +kernel) (by decide +kernel)
theorem kw_413 : (Cond.methodLink RX4 89 yX1_placeAt) ∈ kw_big := kwm (i := 413) (by decide +kernel) (by decide +kernel)
theorem kw_414 : (Cond.instanceMethod yX1_placeAt) ∈ kw_big := kwm (i := 414) (by decide +kernel) (by decide +kernel)
theorem kw_415 : (Cond.selects RX1 yX1_placeAt yX1_placeAt) ∈ kw_big := kwm (i := 415) (by decide +kernel) (by decide +kernel)
theorem kw_416 : (Cond.code yX1_placeAt prog_3_method_3_code 2 (some .int)) ∈ kw_big := kwm (i := 416) (by decide +kernel) (by decide +kernel)
theorem kw_417 : (Cond.methodLink RX4 95 yX1_toldAt) ∈ kw_big := kwm (i := 417) (by decide +kernel) (by decide +kernel)
theorem kw_418 : (Cond.instanceMethod yX1_toldAt) ∈ kw_big := kwm (i := 418) (by decide +kernel) (by decide +kernel)
theorem kw_419 : (Cond.selects RX1 yX1_toldAt yX1_toldAt) ∈ kw_big := kwm (i := 419) (by decide +kernel) (by decide +kernel)
theorem kw_420 : (Cond.code yX1_toldAt prog_3_method_4_code 2 (some .int)) ∈ kw_big := kwm (i := 420) (by decide +kernel) (by decide +kernel)
theorem kw_421 : (Cond.methodLink RX4 98 yX4_causeOf) ∈ kw_big := kwm (i := 421) (by decide +kernel) (by decide +kernel)
theorem kw_423 : (Cond.instanceMethod yX4_causeOf) ∈ kw_big := kwm (i := 423) (by decide +kernel) (by decide +kernel)
theorem kw_424 : (Cond.code yX4_causeOf prog_1_method_15_code 5 (some .int)) ∈ kw_big := kwm (i := 424) (by decide +kernel) (by decide +kernel)
theorem kw_425 : (Cond.methodLink RX4 102 yX1_dropOldest) ∈ kw_big := kwm (i := 425) (by decide +kernel) (by decide +kernel)
theorem kw_426 : (Cond.instanceMethod yX1_dropOldest) ∈ kw_big := kwm (i := 426) (by decide +kernel) (by decide +kernel)
theorem kw_427 : (Cond.selects RX1 yX1_dropOldest yX1_dropOldest) ∈ kw_big := kwm (i := 427) (by decide +kernel) (by decide +kernel)
theorem kw_428 : (Cond.code yX1_dropOldest prog_3_method_6_code 1 none) ∈ kw_big := kwm (i := 428) (by decide +kernel) (by decide +kernel)
theorem kw_429 : (Cond.methodLink RX4 105 yX4_repair) ∈ kw_big := kwm (i := 429) (by decide +kernel) (by decide +kernel)
theorem kw_431 : (Cond.instanceMethod yX4_repair) ∈ kw_big := kwm (i := 431) (by decide +kernel) (by decide +kernel)
theorem kw_432 : (Cond.code yX4_repair prog_1_method_16_code 4 none) ∈ kw_big := kwm (i := 432) (by decide +kernel) (by decide +kernel)
theorem kw_433 : (Cond.methodLink RX4 109 yX4_update) ∈ kw_big := kwm (i := 433) (by decide +kernel) (by decide +kernel)
theorem kw_435 : (Cond.instanceMethod yX4_update) ∈ kw_big := kwm (i := 435) (by decide +kernel) (by decide +kernel)
theorem kw_436 : (Cond.code yX4_update prog_1_method_17_code 4 none) ∈ kw_big := kwm (i := 436) (by decide +kernel) (by decide +kernel)
theorem kw_437 : (Cond.methodLink RX4 187 yX3_put) ∈ kw_big := kwm (i := 437) (by decide +kernel) (by decide +kernel)
theorem kw_438 : (Cond.instanceMethod yX3_put) ∈ kw_big := kwm (i := 438) (by decide +kernel) (by decide +kernel)
theorem kw_439 : (Cond.selects RX3 yX3_put yX3_put) ∈ kw_big := kwm (i := 439) (by decide +kernel) (by decide +kernel)
theorem kw_440 : (Cond.code yX3_put prog_5_method_3_code 5 none) ∈ kw_big := kwm (i := 440) (by decide +kernel) (by decide +kernel)
theorem kw_441 : (Cond.methodLink RX3 47 yX3_find) ∈ kw_big := kwm (i := 441) (by decide +kernel) (by decide +kernel)
theorem kw_442 : (Cond.methodLink RX3 50 yX3_slotToFill) ∈ kw_big := kwm (i := 442) (by decide +kernel) (by decide +kernel)
theorem kw_444 : (Cond.instanceMethod yX3_slotToFill) ∈ kw_big := kwm (i := 444) (by decide +kernel) (by decide +kernel)
theorem kw_445 : (Cond.code yX3_slotToFill prog_5_method_4_code 5 (some .int)) ∈ kw_big := kwm (i := 445) (by decide +kernel) (by decide +kernel)
theorem kw_446 : (Cond.methodLink RX4 190 yX0_put) ∈ kw_big := kwm (i := 446) (by decide +kernel) (by decide +kernel)
theorem kw_447 : (Cond.instanceMethod yX0_put) ∈ kw_big := kwm (i := 447) (by decide +kernel) (by decide +kernel)
theorem kw_448 : (Cond.selects RX0 yX0_put yX0_put) ∈ kw_big := kwm (i := 448) (by decide +kernel) (by decide +kernel)
theorem kw_449 : (Cond.code yX0_put prog_2_method_4_code 4 none) ∈ kw_big := kwm (i := 449) (by decide +kernel) (by decide +kernel)
theorem kw_450 : (Cond.methodLink RX4 192 yX0_remember) ∈ kw_big := kwm (i := 450) (by decide +kernel) (by decide +kernel)
theorem kw_451 : (Cond.instanceMethod yX0_remember) ∈ kw_big := kwm (i := 451) (by decide +kernel) (by decide +kernel)
theorem kw_452 : (Cond.selects RX0 yX0_remember yX0_remember) ∈ kw_big := kwm (i := 452) (by decide +kernel) (by decide +kernel)
theorem kw_453 : (Cond.code yX0_remember prog_2_method_5_code 2 none) ∈ kw_big := kwm (i := 453) (by decide +kernel) (by decide +kernel)
theorem kw_454 : (Cond.constant RX0 35 (16777215)) ∈ kw_big := kwm (i := 454) (by decide +kernel) (by decide +kernel)
theorem kw_455 : (Cond.methodLink RL 71 yL_entry) ∈ kw_big := kwm (i := 455) (by decide +kernel) (by decide +kernel)
theorem kw_456 : (Cond.static yL_entry) ∈ kw_big := kwm (i := 456) (by decide +kernel) (by decide +kernel)
theorem kw_457 : (Cond.codeWith yL_entry method_5_code 6 (some .int) [(0, 12, 15, 27)]) ∈ kw_big := kwm (i := 457) (by decide +kernel) (by decide +kernel)
theorem kw_458 : (Cond.classLink RL 27 "java/lang/IndexOutOfBoundsException") ∈ kw_big := kwm (i := 458) (by decide +kernel) (by decide +kernel)
theorem kw_459 : (Cond.methodLink RL 23 yX4_entry) ∈ kw_big := kwm (i := 459) (by decide +kernel) (by decide +kernel)
theorem kw_460 : (Cond.instanceMethod yX4_entry) ∈ kw_big := kwm (i := 460) (by decide +kernel) (by decide +kernel)
theorem kw_461 : (Cond.selects RX4 yX4_entry yX4_entry) ∈ kw_big := kwm (i := 461) (by decide +kernel) (by decide +kernel)
theorem kw_462 : (Cond.code yX4_entry prog_1_method_6_code 5 (some .int)) ∈ kw_big := kwm (i := 462) (by decide +kernel) (by decide +kernel)
theorem kw_463 : (Cond.classLink RX4 132 "java/lang/IndexOutOfBoundsException") ∈ kw_big := kwm (i := 463) (by decide +kernel) (by decide +kernel)
theorem kw_464 : (Cond.instantiable "java/lang/IndexOutOfBoundsException" 6) ∈ kw_big := kwm (i := 464) (by decide +kernel) (by decide +kernel)
theorem kw_466 : (Cond.selects "java/lang/IndexOutOfBoundsException" ⟨"java/lang/Throwable", "fillInStackTrace", "(I)Ljava/lang/Throwable;"⟩ ⟨"java/lang/Throwable", "fillInStackTrace", "(I)Ljava/lang/Throwable;"⟩) ∈ kw_big := kwm (i := 466) (by decide +kernel) (by decide +kernel)
theorem kw_467 : (Cond.lays "java/lang/IndexOutOfBoundsException" "java/lang/Throwable" "cause" "Ljava/lang/Throwable;") ∈ kw_big := kwm (i := 467) (by decide +kernel) (by decide +kernel)
theorem kw_468 : (Cond.lays "java/lang/IndexOutOfBoundsException" "java/lang/Throwable" "stackTrace" "[Ljava/lang/StackTraceElement;") ∈ kw_big := kwm (i := 468) (by decide +kernel) (by decide +kernel)
theorem kw_469 : (Cond.lays "java/lang/IndexOutOfBoundsException" "java/lang/Throwable" "suppressedExceptions" "Ljava/util/List;") ∈ kw_big := kwm (i := 469) (by decide +kernel) (by decide +kernel)
theorem kw_470 : (Cond.lays "java/lang/IndexOutOfBoundsException" "java/lang/Throwable" "detailMessage" "Ljava/lang/String;") ∈ kw_big := kwm (i := 470) (by decide +kernel) (by decide +kernel)
theorem kw_471 : (Cond.lays "java/lang/IndexOutOfBoundsException" "java/lang/Throwable" "backtrace" "Ljava/lang/Object;") ∈ kw_big := kwm (i := 471) (by decide +kernel) (by decide +kernel)
theorem kw_473 : (Cond.methodLink RX4 136 ⟨"java/lang/IndexOutOfBoundsException", "<init>", "(Ljava/lang/String;)V"⟩) ∈ kw_big := kwm (i := 473) (by decide +kernel) (by decide +kernel)
theorem kw_474 : (Cond.instanceMethod ⟨"java/lang/IndexOutOfBoundsException", "<init>", "(Ljava/lang/String;)V"⟩) ∈ kw_big := kwm (i := 474) (by decide +kernel) (by decide +kernel)
theorem kw_475 : (Cond.code ⟨"java/lang/IndexOutOfBoundsException", "<init>", "(Ljava/lang/String;)V"⟩ prog_11_method_2_code 2 none) ∈ kw_big := kwm (i := 475) (by decide +kernel) (by decide +kernel)
theorem kw_476 : (Cond.methodLink "java/lang/IndexOutOfBoundsException" 7 ⟨"java/lang/RuntimeException", "<init>", "(Ljava/lang/String;)V"⟩) ∈ kw_big := kwm (i := 476) (by decide +kernel) (by decide +kernel)
theorem kw_477 : (Cond.lays "java/lang/IndexOutOfBoundsException" "java/lang/Throwable" "depth" "I") ∈ kw_big := kwm (i := 477) (by decide +kernel) (by decide +kernel)
theorem kw_480 : (Cond.methodLink RL 75 yL_row) ∈ kw_big := kwm (i := 480) (by decide +kernel) (by decide +kernel)
theorem kw_481 : (Cond.static yL_row) ∈ kw_big := kwm (i := 481) (by decide +kernel) (by decide +kernel)
theorem kw_482 : (Cond.codeWith yL_row method_6_code 5 (some .int) [(0, 10, 13, 27)]) ∈ kw_big := kwm (i := 482) (by decide +kernel) (by decide +kernel)
theorem kw_483 : (Cond.methodLink RL 29 yX4_row) ∈ kw_big := kwm (i := 483) (by decide +kernel) (by decide +kernel)
theorem kw_484 : (Cond.instanceMethod yX4_row) ∈ kw_big := kwm (i := 484) (by decide +kernel) (by decide +kernel)
theorem kw_485 : (Cond.selects RX4 yX4_row yX4_row) ∈ kw_big := kwm (i := 485) (by decide +kernel) (by decide +kernel)
theorem kw_486 : (Cond.code yX4_row prog_1_method_7_code 3 (some .int)) ∈ kw_big := kwm (i := 486) (by decide +kernel) (by decide +kernel)
theorem kw_488 : (Cond.methodLink RL 79 yL_ring) ∈ kw_big := kwm (i := 488) (by decide +kernel) (by decide +kernel)
theorem kw_489 : (Cond.static yL_ring) ∈ kw_big := kwm (i := 489) (by decide +kernel) (by decide +kernel)
theorem kw_490 : (Cond.codeWith yL_ring method_7_code 4 (some .int) [(0, 9, 12, 27)]) ∈ kw_big := kwm (i := 490) (by decide +kernel) (by decide +kernel)
theorem kw_491 : (Cond.methodLink RL 33 yX4_ring) ∈ kw_big := kwm (i := 491) (by decide +kernel) (by decide +kernel)
theorem kw_492 : (Cond.instanceMethod yX4_ring) ∈ kw_big := kwm (i := 492) (by decide +kernel) (by decide +kernel)
theorem kw_493 : (Cond.selects RX4 yX4_ring yX4_ring) ∈ kw_big := kwm (i := 493) (by decide +kernel) (by decide +kernel)
theorem kw_494 : (Cond.code yX4_ring prog_1_method_8_code 2 (some .int)) ∈ kw_big := kwm (i := 494) (by decide +kernel) (by decide +kernel)
theorem kw_496 : (Cond.methodLink RL 82 yL_queued) ∈ kw_big := kwm (i := 496) (by decide +kernel) (by decide +kernel)
theorem kw_497 : (Cond.static yL_queued) ∈ kw_big := kwm (i := 497) (by decide +kernel) (by decide +kernel)
theorem kw_498 : (Cond.codeWith yL_queued method_8_code 5 (some .int) [(0, 10, 13, 27)]) ∈ kw_big := kwm (i := 498) (by decide +kernel) (by decide +kernel)
theorem kw_499 : (Cond.methodLink RL 36 yX4_queued) ∈ kw_big := kwm (i := 499) (by decide +kernel) (by decide +kernel)
theorem kw_500 : (Cond.instanceMethod yX4_queued) ∈ kw_big := kwm (i := 500) (by decide +kernel) (by decide +kernel)
theorem kw_501 : (Cond.selects RX4 yX4_queued yX4_queued) ∈ kw_big := kwm (i := 501) (by decide +kernel) (by decide +kernel)
theorem kw_502 : (Cond.code yX4_queued prog_1_method_9_code 3 (some .int)) ∈ kw_big := kwm (i := 502) (by decide +kernel) (by decide +kernel)
theorem kw_504 : (Cond.classLink RL 48 RX5) ∈ kw_big := kwm (i := 504) (by decide +kernel) (by decide +kernel)
theorem kw_505 : (Cond.instantiable RX5 25) ∈ kw_big := kwm (i := 505) (by decide +kernel) (by decide +kernel)
theorem kw_506 : (Cond.methodLink RL 50 yX5_init) ∈ kw_big := kwm (i := 506) (by decide +kernel) (by decide +kernel)
theorem kw_507 : (Cond.instanceMethod yX5_init) ∈ kw_big := kwm (i := 507) (by decide +kernel) (by decide +kernel)
theorem kw_508 : (Cond.code yX5_init prog_7_method_1_code 6 none) ∈ kw_big := kwm (i := 508) (by decide +kernel) (by decide +kernel)
theorem kw_509 : (Cond.methodLink RX5 1 objectInit) ∈ kw_big := kwm (i := 509) (by decide +kernel) (by decide +kernel)
theorem kw_510 : (Cond.methodLink RX5 50 yX5_modulo) ∈ kw_big := kwm (i := 510) (by decide +kernel) (by decide +kernel)
theorem kw_511 : (Cond.static yX5_modulo) ∈ kw_big := kwm (i := 511) (by decide +kernel) (by decide +kernel)
theorem kw_512 : (Cond.code yX5_modulo prog_7_method_2_code 2 (some .int)) ∈ kw_big := kwm (i := 512) (by decide +kernel) (by decide +kernel)
theorem kw_513 : (Cond.fieldLink RX5 67 "TargetRowsModel" "thrown" "I") ∈ kw_big := kwm (i := 513) (by decide +kernel) (by decide +kernel)
theorem kw_514 : (Cond.fieldLink RX5 54 "TargetRowsModel" "sets" "I") ∈ kw_big := kwm (i := 514) (by decide +kernel) (by decide +kernel)
theorem kw_515 : (Cond.fieldLink RX5 61 "TargetRowsModel" "ways" "I") ∈ kw_big := kwm (i := 515) (by decide +kernel) (by decide +kernel)
theorem kw_516 : (Cond.fieldLink RX5 64 "TargetRowsModel" "room" "I") ∈ kw_big := kwm (i := 516) (by decide +kernel) (by decide +kernel)
theorem kw_517 : (Cond.fieldLink RX5 58 "TargetRowsModel" "setBits" "I") ∈ kw_big := kwm (i := 517) (by decide +kernel) (by decide +kernel)
theorem kw_518 : (Cond.fieldLink RX5 7 "TargetRowsModel" "has" "[Z") ∈ kw_big := kwm (i := 518) (by decide +kernel) (by decide +kernel)
theorem kw_519 : (Cond.fieldLink RX5 13 "TargetRowsModel" "tag" "[I") ∈ kw_big := kwm (i := 519) (by decide +kernel) (by decide +kernel)
theorem kw_520 : (Cond.fieldLink RX5 17 "TargetRowsModel" "kind" "[I") ∈ kw_big := kwm (i := 520) (by decide +kernel) (by decide +kernel)
theorem kw_521 : (Cond.fieldLink RX5 20 "TargetRowsModel" "target" "[I") ∈ kw_big := kwm (i := 521) (by decide +kernel) (by decide +kernel)
theorem kw_522 : (Cond.fieldLink RX5 23 "TargetRowsModel" "used" "[I") ∈ kw_big := kwm (i := 522) (by decide +kernel) (by decide +kernel)
theorem kw_523 : (Cond.fieldLink RX5 117 "TargetRowsModel" "time" "I") ∈ kw_big := kwm (i := 523) (by decide +kernel) (by decide +kernel)
theorem kw_524 : (Cond.fieldLink RX5 26 "TargetRowsModel" "rowTag" "[I") ∈ kw_big := kwm (i := 524) (by decide +kernel) (by decide +kernel)
theorem kw_525 : (Cond.fieldLink RX5 29 "TargetRowsModel" "rowTarget" "[I") ∈ kw_big := kwm (i := 525) (by decide +kernel) (by decide +kernel)
theorem kw_526 : (Cond.fieldLink RX5 77 "TargetRowsModel" "history" "I") ∈ kw_big := kwm (i := 526) (by decide +kernel) (by decide +kernel)
theorem kw_527 : (Cond.fieldLink RX5 80 "TargetRowsModel" "deep" "I") ∈ kw_big := kwm (i := 527) (by decide +kernel) (by decide +kernel)
theorem kw_528 : (Cond.fieldLink RX5 32 "TargetRowsModel" "ring" "[I") ∈ kw_big := kwm (i := 528) (by decide +kernel) (by decide +kernel)
theorem kw_529 : (Cond.fieldLink RX5 101 "TargetRowsModel" "queued" "I") ∈ kw_big := kwm (i := 529) (by decide +kernel) (by decide +kernel)
theorem kw_530 : (Cond.fieldLink RX5 35 "TargetRowsModel" "place" "[I") ∈ kw_big := kwm (i := 530) (by decide +kernel) (by decide +kernel)
theorem kw_531 : (Cond.fieldLink RX5 38 "TargetRowsModel" "told" "[I") ∈ kw_big := kwm (i := 531) (by decide +kernel) (by decide +kernel)
theorem kw_532 : (Cond.fieldLink RX5 41 "TargetRowsModel" "wasDeep" "[I") ∈ kw_big := kwm (i := 532) (by decide +kernel) (by decide +kernel)
theorem kw_533 : (Cond.fieldLink RX5 44 "TargetRowsModel" "wasRing" "[I") ∈ kw_big := kwm (i := 533) (by decide +kernel) (by decide +kernel)
theorem kw_534 : (Cond.fieldLink RX5 47 "TargetRowsModel" "counts" "[I") ∈ kw_big := kwm (i := 534) (by decide +kernel) (by decide +kernel)
theorem kw_535 : (Cond.fieldLink RX5 83 "TargetRowsModel" "overflows" "I") ∈ kw_big := kwm (i := 535) (by decide +kernel) (by decide +kernel)
theorem kw_536 : (Cond.fieldLink RX5 86 "TargetRowsModel" "underflows" "I") ∈ kw_big := kwm (i := 536) (by decide +kernel) (by decide +kernel)
theorem kw_537 : (Cond.fieldLink RX5 132 "TargetRowsModel" "lost" "I") ∈ kw_big := kwm (i := 537) (by decide +kernel) (by decide +kernel)
theorem kw_538 : (Cond.lays RX5 "TargetRowsModel" "thrown" "I") ∈ kw_big := kwm (i := 538) (by decide +kernel) (by decide +kernel)
theorem kw_540 : (Cond.laysFinal RX5 "TargetRowsModel" "sets" "I") ∈ kw_big := kwm (i := 540) (by decide +kernel) (by decide +kernel)
theorem kw_542 : (Cond.laysFinal RX5 "TargetRowsModel" "ways" "I") ∈ kw_big := kwm (i := 542) (by decide +kernel) (by decide +kernel)
theorem kw_544 : (Cond.laysFinal RX5 "TargetRowsModel" "room" "I") ∈ kw_big := kwm (i := 544) (by decide +kernel) (by decide +kernel)
theorem kw_546 : (Cond.laysFinal RX5 "TargetRowsModel" "setBits" "I") ∈ kw_big := kwm (i := 546) (by decide +kernel) (by decide +kernel)
theorem kw_548 : (Cond.laysFinal RX5 "TargetRowsModel" "has" "[Z") ∈ kw_big := kwm (i := 548) (by decide +kernel) (by decide +kernel)
theorem kw_550 : (Cond.laysFinal RX5 "TargetRowsModel" "tag" "[I") ∈ kw_big := kwm (i := 550) (by decide +kernel) (by decide +kernel)
theorem kw_552 : (Cond.laysFinal RX5 "TargetRowsModel" "kind" "[I") ∈ kw_big := kwm (i := 552) (by decide +kernel) (by decide +kernel)
theorem kw_554 : (Cond.laysFinal RX5 "TargetRowsModel" "target" "[I") ∈ kw_big := kwm (i := 554) (by decide +kernel) (by decide +kernel)
theorem kw_556 : (Cond.laysFinal RX5 "TargetRowsModel" "used" "[I") ∈ kw_big := kwm (i := 556) (by decide +kernel) (by decide +kernel)
theorem kw_558 : (Cond.lays RX5 "TargetRowsModel" "time" "I") ∈ kw_big := kwm (i := 558) (by decide +kernel) (by decide +kernel)
theorem kw_560 : (Cond.laysFinal RX5 "TargetRowsModel" "rowTag" "[I") ∈ kw_big := kwm (i := 560) (by decide +kernel) (by decide +kernel)
theorem kw_562 : (Cond.laysFinal RX5 "TargetRowsModel" "rowTarget" "[I") ∈ kw_big := kwm (i := 562) (by decide +kernel) (by decide +kernel)
theorem kw_564 : (Cond.lays RX5 "TargetRowsModel" "history" "I") ∈ kw_big := kwm (i := 564) (by decide +kernel) (by decide +kernel)
theorem kw_566 : (Cond.lays RX5 "TargetRowsModel" "deep" "I") ∈ kw_big := kwm (i := 566) (by decide +kernel) (by decide +kernel)
theorem kw_568 : (Cond.laysFinal RX5 "TargetRowsModel" "ring" "[I") ∈ kw_big := kwm (i := 568) (by decide +kernel) (by decide +kernel)
theorem kw_570 : (Cond.lays RX5 "TargetRowsModel" "queued" "I") ∈ kw_big := kwm (i := 570) (by decide +kernel) (by decide +kernel)
theorem kw_572 : (Cond.laysFinal RX5 "TargetRowsModel" "place" "[I") ∈ kw_big := kwm (i := 572) (by decide +kernel) (by decide +kernel)
theorem kw_574 : (Cond.laysFinal RX5 "TargetRowsModel" "told" "[I") ∈ kw_big := kwm (i := 574) (by decide +kernel) (by decide +kernel)
theorem kw_576 : (Cond.laysFinal RX5 "TargetRowsModel" "wasDeep" "[I") ∈ kw_big := kwm (i := 576) (by decide +kernel) (by decide +kernel)
theorem kw_578 : (Cond.laysFinal RX5 "TargetRowsModel" "wasRing" "[I") ∈ kw_big := kwm (i := 578) (by decide +kernel) (by decide +kernel)
theorem kw_580 : (Cond.laysFinal RX5 "TargetRowsModel" "counts" "[I") ∈ kw_big := kwm (i := 580) (by decide +kernel) (by decide +kernel)
theorem kw_582 : (Cond.lays RX5 "TargetRowsModel" "overflows" "I") ∈ kw_big := kwm (i := 582) (by decide +kernel) (by decide +kernel)
theorem kw_584 : (Cond.lays RX5 "TargetRowsModel" "underflows" "I") ∈ kw_big := kwm (i := 584) (by decide +kernel) (by decide +kernel)
theorem kw_586 : (Cond.lays RX5 "TargetRowsModel" "lost" "I") ∈ kw_big := kwm (i := 586) (by decide +kernel) (by decide +kernel)
theorem kw_589 : (Cond.arrayClass .boolean) ∈ kw_big := kwm (i := 589) (by decide +kernel) (by decide +kernel)
theorem kw_590 : (Cond.methodLink RL 59 yX5_thrown) ∈ kw_big := kwm (i := 590) (by decide +kernel) (by decide +kernel)
theorem kw_591 : (Cond.instanceMethod yX5_thrown) ∈ kw_big := kwm (i := 591) (by decide +kernel) (by decide +kernel)
theorem kw_592 : (Cond.selects RX5 yX5_thrown yX5_thrown) ∈ kw_big := kwm (i := 592) (by decide +kernel) (by decide +kernel)
theorem kw_593 : (Cond.code yX5_thrown prog_7_method_3_code 1 (some .int)) ∈ kw_big := kwm (i := 593) (by decide +kernel) (by decide +kernel)
theorem kw_594 : (Cond.methodLink RL 54 yX5_ask) ∈ kw_big := kwm (i := 594) (by decide +kernel) (by decide +kernel)
theorem kw_595 : (Cond.instanceMethod yX5_ask) ∈ kw_big := kwm (i := 595) (by decide +kernel) (by decide +kernel)
theorem kw_596 : (Cond.selects RX5 yX5_ask yX5_ask) ∈ kw_big := kwm (i := 596) (by decide +kernel) (by decide +kernel)
theorem kw_597 : (Cond.code yX5_ask prog_7_method_15_code 2 (some .int)) ∈ kw_big := kwm (i := 597) (by decide +kernel) (by decide +kernel)
theorem kw_598 : (Cond.methodLink RX5 98 yX5_tell) ∈ kw_big := kwm (i := 598) (by decide +kernel) (by decide +kernel)
theorem kw_600 : (Cond.instanceMethod yX5_tell) ∈ kw_big := kwm (i := 600) (by decide +kernel) (by decide +kernel)
theorem kw_601 : (Cond.code yX5_tell prog_7_method_14_code 4 (some .int)) ∈ kw_big := kwm (i := 601) (by decide +kernel) (by decide +kernel)
theorem kw_602 : (Cond.methodLink RX5 89 yX5_find) ∈ kw_big := kwm (i := 602) (by decide +kernel) (by decide +kernel)
theorem kw_604 : (Cond.instanceMethod yX5_find) ∈ kw_big := kwm (i := 604) (by decide +kernel) (by decide +kernel)
theorem kw_605 : (Cond.code yX5_find prog_7_method_8_code 4 (some .int)) ∈ kw_big := kwm (i := 605) (by decide +kernel) (by decide +kernel)
theorem kw_606 : (Cond.methodLink RX5 70 yX5_firstOf) ∈ kw_big := kwm (i := 606) (by decide +kernel) (by decide +kernel)
theorem kw_608 : (Cond.instanceMethod yX5_firstOf) ∈ kw_big := kwm (i := 608) (by decide +kernel) (by decide +kernel)
theorem kw_609 : (Cond.code yX5_firstOf prog_7_method_6_code 2 (some .int)) ∈ kw_big := kwm (i := 609) (by decide +kernel) (by decide +kernel)
theorem kw_610 : (Cond.methodLink RX5 74 yX5_tagOf) ∈ kw_big := kwm (i := 610) (by decide +kernel) (by decide +kernel)
theorem kw_612 : (Cond.instanceMethod yX5_tagOf) ∈ kw_big := kwm (i := 612) (by decide +kernel) (by decide +kernel)
theorem kw_613 : (Cond.code yX5_tagOf prog_7_method_7_code 2 (some .int)) ∈ kw_big := kwm (i := 613) (by decide +kernel) (by decide +kernel)
theorem kw_614 : (Cond.methodLink RX5 92 yX5_rowOf) ∈ kw_big := kwm (i := 614) (by decide +kernel) (by decide +kernel)
theorem kw_616 : (Cond.instanceMethod yX5_rowOf) ∈ kw_big := kwm (i := 616) (by decide +kernel) (by decide +kernel)
theorem kw_617 : (Cond.code yX5_rowOf prog_7_method_9_code 2 (some .int)) ∈ kw_big := kwm (i := 617) (by decide +kernel) (by decide +kernel)
theorem kw_618 : (Cond.methodLink RX5 95 yX5_rowTagOf) ∈ kw_big := kwm (i := 618) (by decide +kernel) (by decide +kernel)
theorem kw_619 : (Cond.static yX5_rowTagOf) ∈ kw_big := kwm (i := 619) (by decide +kernel) (by decide +kernel)
theorem kw_620 : (Cond.code yX5_rowTagOf prog_7_method_10_code 1 (some .int)) ∈ kw_big := kwm (i := 620) (by decide +kernel) (by decide +kernel)
theorem kw_621 : (Cond.methodLink RL 58 yX5_next) ∈ kw_big := kwm (i := 621) (by decide +kernel) (by decide +kernel)
theorem kw_622 : (Cond.instanceMethod yX5_next) ∈ kw_big := kwm (i := 622) (by decide +kernel) (by decide +kernel)
theorem kw_623 : (Cond.selects RX5 yX5_next yX5_next) ∈ kw_big := kwm (i := 623) (by decide +kernel) (by decide +kernel)
theorem kw_624 : (Cond.code yX5_next prog_7_method_16_code 3 (some .int)) ∈ kw_big := kwm (i := 624) (by decide +kernel) (by decide +kernel)
theorem kw_625 : (Cond.methodLink RX5 104 yX5_fail) ∈ kw_big := kwm (i := 625) (by decide +kernel) (by decide +kernel)
theorem kw_627 : (Cond.instanceMethod yX5_fail) ∈ kw_big := kwm (i := 627) (by decide +kernel) (by decide +kernel)
theorem kw_628 : (Cond.code yX5_fail prog_7_method_4_code 2 (some .int)) ∈ kw_big := kwm (i := 628) (by decide +kernel) (by decide +kernel)
theorem kw_629 : (Cond.methodLink RX5 107 yX5_push) ∈ kw_big := kwm (i := 629) (by decide +kernel) (by decide +kernel)
theorem kw_631 : (Cond.instanceMethod yX5_push) ∈ kw_big := kwm (i := 631) (by decide +kernel) (by decide +kernel)
theorem kw_632 : (Cond.code yX5_push prog_7_method_11_code 3 none) ∈ kw_big := kwm (i := 632) (by decide +kernel) (by decide +kernel)
theorem kw_633 : (Cond.methodLink RX5 111 yX5_pop) ∈ kw_big := kwm (i := 633) (by decide +kernel) (by decide +kernel)
theorem kw_635 : (Cond.instanceMethod yX5_pop) ∈ kw_big := kwm (i := 635) (by decide +kernel) (by decide +kernel)
theorem kw_636 : (Cond.code yX5_pop prog_7_method_12_code 1 none) ∈ kw_big := kwm (i := 636) (by decide +kernel) (by decide +kernel)
theorem kw_637 : (Cond.methodLink RL 66 yX5_check) ∈ kw_big := kwm (i := 637) (by decide +kernel) (by decide +kernel)
theorem kw_638 : (Cond.instanceMethod yX5_check) ∈ kw_big := kwm (i := 638) (by decide +kernel) (by decide +kernel)
theorem kw_639 : (Cond.selects RX5 yX5_check yX5_check) ∈ kw_big := kwm (i := 639) (by decide +kernel) (by decide +kernel)
theorem kw_640 : (Cond.code yX5_check prog_7_method_21_code 7 (some .int)) ∈ kw_big := kwm (i := 640) (by decide +kernel) (by decide +kernel)
theorem kw_641 : (Cond.methodLink RX5 121 yX5_within) ∈ kw_big := kwm (i := 641) (by decide +kernel) (by decide +kernel)
theorem kw_642 : (Cond.static yX5_within) ∈ kw_big := kwm (i := 642) (by decide +kernel) (by decide +kernel)
theorem kw_643 : (Cond.code yX5_within prog_7_method_5_code 3 (some .boolean)) ∈ kw_big := kwm (i := 643) (by decide +kernel) (by decide +kernel)
theorem kw_644 : (Cond.methodLink RX5 125 yX5_causeOf) ∈ kw_big := kwm (i := 644) (by decide +kernel) (by decide +kernel)
theorem kw_646 : (Cond.instanceMethod yX5_causeOf) ∈ kw_big := kwm (i := 646) (by decide +kernel) (by decide +kernel)
theorem kw_647 : (Cond.code yX5_causeOf prog_7_method_17_code 5 (some .int)) ∈ kw_big := kwm (i := 647) (by decide +kernel) (by decide +kernel)
theorem kw_648 : (Cond.methodLink RX5 129 yX5_dropFirst) ∈ kw_big := kwm (i := 648) (by decide +kernel) (by decide +kernel)
theorem kw_650 : (Cond.instanceMethod yX5_dropFirst) ∈ kw_big := kwm (i := 650) (by decide +kernel) (by decide +kernel)
theorem kw_651 : (Cond.code yX5_dropFirst prog_7_method_18_code 3 none) ∈ kw_big := kwm (i := 651) (by decide +kernel) (by decide +kernel)
theorem kw_652 : (Cond.methodLink RX5 135 yX5_ringAsBefore) ∈ kw_big := kwm (i := 652) (by decide +kernel) (by decide +kernel)
theorem kw_654 : (Cond.instanceMethod yX5_ringAsBefore) ∈ kw_big := kwm (i := 654) (by decide +kernel) (by decide +kernel)
theorem kw_655 : (Cond.code yX5_ringAsBefore prog_7_method_13_code 3 none) ∈ kw_big := kwm (i := 655) (by decide +kernel) (by decide +kernel)
theorem kw_656 : (Cond.methodLink RX5 138 yX5_learn) ∈ kw_big := kwm (i := 656) (by decide +kernel) (by decide +kernel)
theorem kw_658 : (Cond.instanceMethod yX5_learn) ∈ kw_big := kwm (i := 658) (by decide +kernel) (by decide +kernel)
theorem kw_659 : (Cond.code yX5_learn prog_7_method_20_code 5 none) ∈ kw_big := kwm (i := 659) (by decide +kernel) (by decide +kernel)
theorem kw_660 : (Cond.methodLink RX5 114 yX5_wayFor) ∈ kw_big := kwm (i := 660) (by decide +kernel) (by decide +kernel)
theorem kw_662 : (Cond.instanceMethod yX5_wayFor) ∈ kw_big := kwm (i := 662) (by decide +kernel) (by decide +kernel)
theorem kw_663 : (Cond.code yX5_wayFor prog_7_method_19_code 5 (some .int)) ∈ kw_big := kwm (i := 663) (by decide +kernel) (by decide +kernel)
theorem kw_664 : (Cond.constant RX5 120 (16777215)) ∈ kw_big := kwm (i := 664) (by decide +kernel) (by decide +kernel)
theorem kw_665 : (Cond.methodLink RL 70 yX5_flush) ∈ kw_big := kwm (i := 665) (by decide +kernel) (by decide +kernel)
theorem kw_666 : (Cond.instanceMethod yX5_flush) ∈ kw_big := kwm (i := 666) (by decide +kernel) (by decide +kernel)
theorem kw_667 : (Cond.selects RX5 yX5_flush yX5_flush) ∈ kw_big := kwm (i := 667) (by decide +kernel) (by decide +kernel)
theorem kw_668 : (Cond.code yX5_flush prog_7_method_22_code 2 (some .int)) ∈ kw_big := kwm (i := 668) (by decide +kernel) (by decide +kernel)
theorem kw_669 : (Cond.methodLink RL 74 yX5_entry) ∈ kw_big := kwm (i := 669) (by decide +kernel) (by decide +kernel)
theorem kw_670 : (Cond.instanceMethod yX5_entry) ∈ kw_big := kwm (i := 670) (by decide +kernel) (by decide +kernel)
theorem kw_671 : (Cond.selects RX5 yX5_entry yX5_entry) ∈ kw_big := kwm (i := 671) (by decide +kernel) (by decide +kernel)
theorem kw_672 : (Cond.code yX5_entry prog_7_method_23_code 5 (some .int)) ∈ kw_big := kwm (i := 672) (by decide +kernel) (by decide +kernel)
theorem kw_673 : (Cond.methodLink RL 78 yX5_row) ∈ kw_big := kwm (i := 673) (by decide +kernel) (by decide +kernel)
theorem kw_674 : (Cond.instanceMethod yX5_row) ∈ kw_big := kwm (i := 674) (by decide +kernel) (by decide +kernel)
theorem kw_675 : (Cond.selects RX5 yX5_row yX5_row) ∈ kw_big := kwm (i := 675) (by decide +kernel) (by decide +kernel)
theorem kw_676 : (Cond.code yX5_row prog_7_method_24_code 3 (some .int)) ∈ kw_big := kwm (i := 676) (by decide +kernel) (by decide +kernel)
theorem kw_677 : (Cond.methodLink RL 81 yX5_ring) ∈ kw_big := kwm (i := 677) (by decide +kernel) (by decide +kernel)
theorem kw_678 : (Cond.instanceMethod yX5_ring) ∈ kw_big := kwm (i := 678) (by decide +kernel) (by decide +kernel)
theorem kw_679 : (Cond.selects RX5 yX5_ring yX5_ring) ∈ kw_big := kwm (i := 679) (by decide +kernel) (by decide +kernel)
theorem kw_680 : (Cond.code yX5_ring prog_7_method_25_code 2 (some .int)) ∈ kw_big := kwm (i := 680) (by decide +kernel) (by decide +kernel)
theorem kw_681 : (Cond.methodLink RL 84 yX5_queued) ∈ kw_big := kwm (i := 681) (by decide +kernel) (by decide +kernel)
theorem kw_682 : (Cond.instanceMethod yX5_queued) ∈ kw_big := kwm (i := 682) (by decide +kernel) (by decide +kernel)
theorem kw_683 : (Cond.selects RX5 yX5_queued yX5_queued) ∈ kw_big := kwm (i := 683) (by decide +kernel) (by decide +kernel)
theorem kw_684 : (Cond.code yX5_queued prog_7_method_26_code 3 (some .int)) ∈ kw_big := kwm (i := 684) (by decide +kernel) (by decide +kernel)
theorem kw_685 : (Cond.methodLink RL 88 yX5_storage) ∈ kw_big := kwm (i := 685) (by decide +kernel) (by decide +kernel)
theorem kw_686 : (Cond.instanceMethod yX5_storage) ∈ kw_big := kwm (i := 686) (by decide +kernel) (by decide +kernel)
theorem kw_687 : (Cond.selects RX5 yX5_storage yX5_storage) ∈ kw_big := kwm (i := 687) (by decide +kernel) (by decide +kernel)
theorem kw_688 : (Cond.code yX5_storage prog_7_method_27_code 1 (some .int)) ∈ kw_big := kwm (i := 688) (by decide +kernel) (by decide +kernel)
theorem kw_689 : (Cond.methodLink RL 92 yX5_count) ∈ kw_big := kwm (i := 689) (by decide +kernel) (by decide +kernel)
theorem kw_690 : (Cond.instanceMethod yX5_count) ∈ kw_big := kwm (i := 690) (by decide +kernel) (by decide +kernel)
theorem kw_691 : (Cond.selects RX5 yX5_count yX5_count) ∈ kw_big := kwm (i := 691) (by decide +kernel) (by decide +kernel)
theorem kw_692 : (Cond.code yX5_count prog_7_method_28_code 4 (some .int)) ∈ kw_big := kwm (i := 692) (by decide +kernel) (by decide +kernel)
theorem kw_693 : (Cond.arrayClass .long) ∈ kw_big := kwm (i := 693) (by decide +kernel) (by decide +kernel)
theorem kw_694 : (Cond.sameMethod "java/lang/Throwable" "java/lang/Throwable" "fillInStackTrace" "(I)Ljava/lang/Throwable;") ∈ kw_big := kwm (i := 694) (by decide +kernel) (by decide +kernel)
theorem hiX0 : ∀ w ∈ u_ws RX0 TX0 3, w ∈ kw_big := by decide +kernel
theorem hiX1 : ∀ w ∈ u_ws RX1 TX1 7, w ∈ kw_big := by decide +kernel
theorem hiX2 : ∀ w ∈ u_ws RX2 TX2 5, w ∈ kw_big := by decide +kernel
theorem hiX3 : ∀ w ∈ u_ws RX3 TX3 9, w ∈ kw_big := by decide +kernel
theorem hiX4 : ∀ w ∈ u_ws RX4 TX4 7, w ∈ kw_big := by decide +kernel
theorem hiX5 : ∀ w ∈ u_ws RX5 TX5 25, w ∈ kw_big := by decide +kernel
end
section
theorem dX4_init_0 : decode cX4_init 0 = .ok (.aload_n 0, 1) := by decide +kernel
theorem dX4_init_1 : decode cX4_init 1 = .ok (.invokespecial 1, 3) := by decide +kernel
theorem dX4_init_4 : decode cX4_init 4 = .ok (.iload_n 3, 1) := by decide +kernel
theorem dX4_init_5 : decode cX4_init 5 = .ok (.bipush 17, 2) := by decide +kernel
theorem dX4_init_7 : decode cX4_init 7 = .ok (.invokestatic 7, 3) := by decide +kernel
theorem dX4_init_10 : decode cX4_init 10 = .ok (.istore 4, 2) := by decide +kernel
theorem dX4_init_12 : decode cX4_init 12 = .ok (.aload_n 0, 1) := by decide +kernel
theorem dX4_init_13 : decode cX4_init 13 = .ok (.new 13, 3) := by decide +kernel
theorem dX4_init_16 : decode cX4_init 16 = .ok (.dup, 1) := by decide +kernel
theorem dX4_init_17 : decode cX4_init 17 = .ok (.iload_n 1, 1) := by decide +kernel
theorem dX4_init_18 : decode cX4_init 18 = .ok (.bipush 6, 2) := by decide +kernel
theorem dX4_init_20 : decode cX4_init 20 = .ok (.invokestatic 7, 3) := by decide +kernel
theorem dX4_init_23 : decode cX4_init 23 = .ok (.iconst 1, 1) := by decide +kernel
theorem dX4_init_24 : decode cX4_init 24 = .ok (.iload_n 2, 1) := by decide +kernel
theorem dX4_init_25 : decode cX4_init 25 = .ok (.iconst 1, 1) := by decide +kernel
theorem dX4_init_26 : decode cX4_init 26 = .ok (.isub, 1) := by decide +kernel
theorem dX4_init_27 : decode cX4_init 27 = .ok (.iconst 4, 1) := by decide +kernel
theorem dX4_init_28 : decode cX4_init 28 = .ok (.invokestatic 7, 3) := by decide +kernel
theorem dX4_init_31 : decode cX4_init 31 = .ok (.iadd, 1) := by decide +kernel
theorem dX4_init_32 : decode cX4_init 32 = .ok (.invokespecial 15, 3) := by decide +kernel
theorem dX4_init_35 : decode cX4_init 35 = .ok (.putfield 18, 3) := by decide +kernel
theorem dX4_init_38 : decode cX4_init 38 = .ok (.aload_n 0, 1) := by decide +kernel
theorem dX4_init_39 : decode cX4_init 39 = .ok (.new 24, 3) := by decide +kernel
theorem dX4_init_42 : decode cX4_init 42 = .ok (.dup, 1) := by decide +kernel
theorem dX4_init_43 : decode cX4_init 43 = .ok (.invokespecial 26, 3) := by decide +kernel
theorem dX4_init_46 : decode cX4_init 46 = .ok (.putfield 27, 3) := by decide +kernel
theorem dX4_init_49 : decode cX4_init 49 = .ok (.aload_n 0, 1) := by decide +kernel
theorem dX4_init_50 : decode cX4_init 50 = .ok (.new 31, 3) := by decide +kernel
theorem dX4_init_53 : decode cX4_init 53 = .ok (.dup, 1) := by decide +kernel
theorem dX4_init_54 : decode cX4_init 54 = .ok (.iload 4, 2) := by decide +kernel
theorem dX4_init_56 : decode cX4_init 56 = .ok (.invokespecial 33, 3) := by decide +kernel
theorem dX4_init_59 : decode cX4_init 59 = .ok (.putfield 36, 3) := by decide +kernel
theorem dX4_init_62 : decode cX4_init 62 = .ok (.aload_n 0, 1) := by decide +kernel
theorem dX4_init_63 : decode cX4_init 63 = .ok (.new 40, 3) := by decide +kernel
theorem dX4_init_66 : decode cX4_init 66 = .ok (.dup, 1) := by decide +kernel
theorem dX4_init_67 : decode cX4_init 67 = .ok (.iload 4, 2) := by decide +kernel
theorem dX4_init_69 : decode cX4_init 69 = .ok (.invokespecial 42, 3) := by decide +kernel
theorem dX4_init_72 : decode cX4_init 72 = .ok (.putfield 43, 3) := by decide +kernel
theorem dX4_init_75 : decode cX4_init 75 = .ok (.aload_n 0, 1) := by decide +kernel
theorem dX4_init_76 : decode cX4_init 76 = .ok (.bipush 7, 2) := by decide +kernel
theorem dX4_init_78 : decode cX4_init 78 = .ok (.newarray .int, 2) := by decide +kernel
theorem dX4_init_80 : decode cX4_init 80 = .ok (.putfield 47, 3) := by decide +kernel
theorem dX4_init_83 : decode cX4_init 83 = .ok (.return_, 1) := by decide +kernel
theorem dJ9_floorMod_0 : decode cJ9_floorMod 0 = .ok (.iload_n 0, 1) := by decide +kernel
theorem dJ9_floorMod_1 : decode cJ9_floorMod 1 = .ok (.iload_n 1, 1) := by decide +kernel
theorem dJ9_floorMod_2 : decode cJ9_floorMod 2 = .ok (.irem, 1) := by decide +kernel
theorem dJ9_floorMod_3 : decode cJ9_floorMod 3 = .ok (.istore_n 2, 1) := by decide +kernel
theorem dJ9_floorMod_4 : decode cJ9_floorMod 4 = .ok (.iload_n 0, 1) := by decide +kernel
theorem dJ9_floorMod_5 : decode cJ9_floorMod 5 = .ok (.iload_n 1, 1) := by decide +kernel
theorem dJ9_floorMod_6 : decode cJ9_floorMod 6 = .ok (.ixor, 1) := by decide +kernel
theorem dJ9_floorMod_7 : decode cJ9_floorMod 7 = .ok (.ifCond .ge 11, 3) := by decide +kernel
theorem dJ9_floorMod_10 : decode cJ9_floorMod 10 = .ok (.iload_n 2, 1) := by decide +kernel
theorem dJ9_floorMod_11 : decode cJ9_floorMod 11 = .ok (.ifCond .eq 7, 3) := by decide +kernel
theorem dJ9_floorMod_14 : decode cJ9_floorMod 14 = .ok (.iload_n 2, 1) := by decide +kernel
theorem dJ9_floorMod_15 : decode cJ9_floorMod 15 = .ok (.iload_n 1, 1) := by decide +kernel
theorem dJ9_floorMod_16 : decode cJ9_floorMod 16 = .ok (.iadd, 1) := by decide +kernel
theorem dJ9_floorMod_17 : decode cJ9_floorMod 17 = .ok (.ireturn, 1) := by decide +kernel
theorem dJ9_floorMod_18 : decode cJ9_floorMod 18 = .ok (.iload_n 2, 1) := by decide +kernel
theorem dJ9_floorMod_19 : decode cJ9_floorMod 19 = .ok (.ireturn, 1) := by decide +kernel
theorem dX3_init_0 : decode cX3_init 0 = .ok (.aload_n 0, 1) := by decide +kernel
theorem dX3_init_1 : decode cX3_init 1 = .ok (.invokespecial 3, 3) := by decide +kernel
theorem dX3_init_4 : decode cX3_init 4 = .ok (.aload_n 0, 1) := by decide +kernel
theorem dX3_init_5 : decode cX3_init 5 = .ok (.iload_n 1, 1) := by decide +kernel
theorem dX3_init_6 : decode cX3_init 6 = .ok (.ifCond .le 9, 3) := by decide +kernel
theorem dX3_init_9 : decode cX3_init 9 = .ok (.iload_n 1, 1) := by decide +kernel
theorem dX3_init_10 : decode cX3_init 10 = .ok (.iconst 1, 1) := by decide +kernel
theorem dX3_init_11 : decode cX3_init 11 = .ok (.isub, 1) := by decide +kernel
theorem dX3_init_12 : decode cX3_init 12 = .ok (.goto 4, 3) := by decide +kernel
theorem dX3_init_15 : decode cX3_init 15 = .ok (.iconst 0, 1) := by decide +kernel
theorem dX3_init_16 : decode cX3_init 16 = .ok (.putfield 9, 3) := by decide +kernel
theorem dX3_init_19 : decode cX3_init 19 = .ok (.aload_n 0, 1) := by decide +kernel
theorem dX3_init_20 : decode cX3_init 20 = .ok (.iload_n 1, 1) := by decide +kernel
theorem dX3_init_21 : decode cX3_init 21 = .ok (.ifCond .le 12, 3) := by decide +kernel
theorem dX3_init_24 : decode cX3_init 24 = .ok (.iconst 1, 1) := by decide +kernel
theorem dX3_init_25 : decode cX3_init 25 = .ok (.aload_n 0, 1) := by decide +kernel
theorem dX3_init_26 : decode cX3_init 26 = .ok (.getfield 9, 3) := by decide +kernel
theorem dX3_init_29 : decode cX3_init 29 = .ok (.ishl, 1) := by decide +kernel
theorem dX3_init_30 : decode cX3_init 30 = .ok (.goto 4, 3) := by decide +kernel
theorem dX3_init_33 : decode cX3_init 33 = .ok (.iconst 0, 1) := by decide +kernel
theorem dX3_init_34 : decode cX3_init 34 = .ok (.putfield 15, 3) := by decide +kernel
theorem dX3_init_37 : decode cX3_init 37 = .ok (.aload_n 0, 1) := by decide +kernel
theorem dX3_init_38 : decode cX3_init 38 = .ok (.iload_n 2, 1) := by decide +kernel
theorem dX3_init_39 : decode cX3_init 39 = .ok (.putfield 18, 3) := by decide +kernel
theorem dX3_init_42 : decode cX3_init 42 = .ok (.aload_n 0, 1) := by decide +kernel
theorem dX3_init_43 : decode cX3_init 43 = .ok (.getfield 15, 3) := by decide +kernel
theorem dX3_init_46 : decode cX3_init 46 = .ok (.iload_n 2, 1) := by decide +kernel
theorem dX3_init_47 : decode cX3_init 47 = .ok (.imul, 1) := by decide +kernel
theorem dX3_init_48 : decode cX3_init 48 = .ok (.istore_n 3, 1) := by decide +kernel
theorem dX3_init_49 : decode cX3_init 49 = .ok (.aload_n 0, 1) := by decide +kernel
theorem dX3_init_50 : decode cX3_init 50 = .ok (.iload_n 3, 1) := by decide +kernel
theorem dX3_init_51 : decode cX3_init 51 = .ok (.newarray .int, 2) := by decide +kernel
theorem dX3_init_53 : decode cX3_init 53 = .ok (.putfield 21, 3) := by decide +kernel
theorem dX3_init_56 : decode cX3_init 56 = .ok (.aload_n 0, 1) := by decide +kernel
theorem dX3_init_57 : decode cX3_init 57 = .ok (.iload_n 3, 1) := by decide +kernel
theorem dX3_init_58 : decode cX3_init 58 = .ok (.newarray .int, 2) := by decide +kernel
theorem dX3_init_60 : decode cX3_init 60 = .ok (.putfield 25, 3) := by decide +kernel
theorem dX3_init_63 : decode cX3_init 63 = .ok (.aload_n 0, 1) := by decide +kernel
theorem dX3_init_64 : decode cX3_init 64 = .ok (.iload_n 3, 1) := by decide +kernel
theorem dX3_init_65 : decode cX3_init 65 = .ok (.newarray .int, 2) := by decide +kernel
theorem dX3_init_67 : decode cX3_init 67 = .ok (.putfield 28, 3) := by decide +kernel
theorem dX3_init_70 : decode cX3_init 70 = .ok (.aload_n 0, 1) := by decide +kernel
theorem dX3_init_71 : decode cX3_init 71 = .ok (.iload_n 3, 1) := by decide +kernel
theorem dX3_init_72 : decode cX3_init 72 = .ok (.newarray .int, 2) := by decide +kernel
theorem dX3_init_74 : decode cX3_init 74 = .ok (.putfield 31, 3) := by decide +kernel
theorem dX3_init_77 : decode cX3_init 77 = .ok (.aload_n 0, 1) := by decide +kernel
theorem dX3_init_78 : decode cX3_init 78 = .ok (.getfield 21, 3) := by decide +kernel
theorem dX3_init_81 : decode cX3_init 81 = .ok (.iconst (-1), 1) := by decide +kernel
theorem dX3_init_82 : decode cX3_init 82 = .ok (.invokestatic 34, 3) := by decide +kernel
theorem dX3_init_85 : decode cX3_init 85 = .ok (.return_, 1) := by decide +kernel
theorem dJ7_fill_0 : decode cJ7_fill 0 = .ok (.iconst 0, 1) := by decide +kernel
theorem dJ7_fill_1 : decode cJ7_fill 1 = .ok (.istore_n 2, 1) := by decide +kernel
theorem dJ7_fill_2 : decode cJ7_fill 2 = .ok (.aload_n 0, 1) := by decide +kernel
theorem dJ7_fill_3 : decode cJ7_fill 3 = .ok (.arraylength, 1) := by decide +kernel
theorem dJ7_fill_4 : decode cJ7_fill 4 = .ok (.istore_n 3, 1) := by decide +kernel
theorem dJ7_fill_5 : decode cJ7_fill 5 = .ok (.iload_n 2, 1) := by decide +kernel
theorem dJ7_fill_6 : decode cJ7_fill 6 = .ok (.iload_n 3, 1) := by decide +kernel
theorem dJ7_fill_7 : decode cJ7_fill 7 = .ok (.if_icmp .ge 13, 3) := by decide +kernel
theorem dJ7_fill_10 : decode cJ7_fill 10 = .ok (.aload_n 0, 1) := by decide +kernel
theorem dJ7_fill_11 : decode cJ7_fill 11 = .ok (.iload_n 2, 1) := by decide +kernel
theorem dJ7_fill_12 : decode cJ7_fill 12 = .ok (.iload_n 1, 1) := by decide +kernel
theorem dJ7_fill_13 : decode cJ7_fill 13 = .ok (.iastore, 1) := by decide +kernel
theorem dJ7_fill_14 : decode cJ7_fill 14 = .ok (.iinc 2 1, 3) := by decide +kernel
theorem dJ7_fill_17 : decode cJ7_fill 17 = .ok (.goto (-12), 3) := by decide +kernel
theorem dJ7_fill_20 : decode cJ7_fill 20 = .ok (.return_, 1) := by decide +kernel
theorem dX0_init_0 : decode cX0_init 0 = .ok (.aload_n 0, 1) := by decide +kernel
theorem dX0_init_1 : decode cX0_init 1 = .ok (.invokespecial 3, 3) := by decide +kernel
theorem dX0_init_4 : decode cX0_init 4 = .ok (.aload_n 0, 1) := by decide +kernel
theorem dX0_init_5 : decode cX0_init 5 = .ok (.bipush 64, 2) := by decide +kernel
theorem dX0_init_7 : decode cX0_init 7 = .ok (.newarray .int, 2) := by decide +kernel
theorem dX0_init_9 : decode cX0_init 9 = .ok (.putfield 9, 3) := by decide +kernel
theorem dX0_init_12 : decode cX0_init 12 = .ok (.aload_n 0, 1) := by decide +kernel
theorem dX0_init_13 : decode cX0_init 13 = .ok (.bipush 64, 2) := by decide +kernel
theorem dX0_init_15 : decode cX0_init 15 = .ok (.newarray .int, 2) := by decide +kernel
theorem dX0_init_17 : decode cX0_init 17 = .ok (.putfield 15, 3) := by decide +kernel
theorem dX0_init_20 : decode cX0_init 20 = .ok (.aload_n 0, 1) := by decide +kernel
theorem dX0_init_21 : decode cX0_init 21 = .ok (.getfield 9, 3) := by decide +kernel
theorem dX0_init_24 : decode cX0_init 24 = .ok (.iconst (-1), 1) := by decide +kernel
theorem dX0_init_25 : decode cX0_init 25 = .ok (.invokestatic 18, 3) := by decide +kernel
theorem dX0_init_28 : decode cX0_init 28 = .ok (.return_, 1) := by decide +kernel
theorem dX2_init_0 : decode cX2_init 0 = .ok (.aload_n 0, 1) := by decide +kernel
theorem dX2_init_1 : decode cX2_init 1 = .ok (.invokespecial 1, 3) := by decide +kernel
theorem dX2_init_4 : decode cX2_init 4 = .ok (.aload_n 0, 1) := by decide +kernel
theorem dX2_init_5 : decode cX2_init 5 = .ok (.iload_n 1, 1) := by decide +kernel
theorem dX2_init_6 : decode cX2_init 6 = .ok (.putfield 7, 3) := by decide +kernel
theorem dX2_init_9 : decode cX2_init 9 = .ok (.aload_n 0, 1) := by decide +kernel
theorem dX2_init_10 : decode cX2_init 10 = .ok (.iload_n 1, 1) := by decide +kernel
theorem dX2_init_11 : decode cX2_init 11 = .ok (.newarray .int, 2) := by decide +kernel
theorem dX2_init_13 : decode cX2_init 13 = .ok (.putfield 13, 3) := by decide +kernel
theorem dX2_init_16 : decode cX2_init 16 = .ok (.return_, 1) := by decide +kernel
theorem dX1_init_0 : decode cX1_init 0 = .ok (.aload_n 0, 1) := by decide +kernel
theorem dX1_init_1 : decode cX1_init 1 = .ok (.invokespecial 3, 3) := by decide +kernel
theorem dX1_init_4 : decode cX1_init 4 = .ok (.aload_n 0, 1) := by decide +kernel
theorem dX1_init_5 : decode cX1_init 5 = .ok (.iload_n 1, 1) := by decide +kernel
theorem dX1_init_6 : decode cX1_init 6 = .ok (.putfield 9, 3) := by decide +kernel
theorem dX1_init_9 : decode cX1_init 9 = .ok (.aload_n 0, 1) := by decide +kernel
theorem dX1_init_10 : decode cX1_init 10 = .ok (.bipush 16, 2) := by decide +kernel
theorem dX1_init_12 : decode cX1_init 12 = .ok (.newarray .int, 2) := by decide +kernel
theorem dX1_init_14 : decode cX1_init 14 = .ok (.putfield 15, 3) := by decide +kernel
theorem dX1_init_17 : decode cX1_init 17 = .ok (.aload_n 0, 1) := by decide +kernel
theorem dX1_init_18 : decode cX1_init 18 = .ok (.bipush 16, 2) := by decide +kernel
theorem dX1_init_20 : decode cX1_init 20 = .ok (.newarray .int, 2) := by decide +kernel
theorem dX1_init_22 : decode cX1_init 22 = .ok (.putfield 19, 3) := by decide +kernel
theorem dX1_init_25 : decode cX1_init 25 = .ok (.aload_n 0, 1) := by decide +kernel
theorem dX1_init_26 : decode cX1_init 26 = .ok (.bipush 16, 2) := by decide +kernel
theorem dX1_init_28 : decode cX1_init 28 = .ok (.newarray .int, 2) := by decide +kernel
theorem dX1_init_30 : decode cX1_init 30 = .ok (.putfield 22, 3) := by decide +kernel
theorem dX1_init_33 : decode cX1_init 33 = .ok (.aload_n 0, 1) := by decide +kernel
theorem dX1_init_34 : decode cX1_init 34 = .ok (.bipush 16, 2) := by decide +kernel
theorem dX1_init_36 : decode cX1_init 36 = .ok (.iload_n 1, 1) := by decide +kernel
theorem dX1_init_37 : decode cX1_init 37 = .ok (.imul, 1) := by decide +kernel
theorem dX1_init_38 : decode cX1_init 38 = .ok (.newarray .int, 2) := by decide +kernel
theorem dX1_init_40 : decode cX1_init 40 = .ok (.putfield 25, 3) := by decide +kernel
theorem dX1_init_43 : decode cX1_init 43 = .ok (.return_, 1) := by decide +kernel
theorem dX4_ask_0 : decode cX4_ask 0 = .ok (.aload_n 0, 1) := by decide +kernel
theorem dX4_ask_1 : decode cX4_ask 1 = .ok (.iload_n 1, 1) := by decide +kernel
theorem dX4_ask_2 : decode cX4_ask 2 = .ok (.aload_n 0, 1) := by decide +kernel
theorem dX4_ask_3 : decode cX4_ask 3 = .ok (.getfield 18, 3) := by decide +kernel
theorem dX4_ask_6 : decode cX4_ask 6 = .ok (.iload_n 1, 1) := by decide +kernel
theorem dX4_ask_7 : decode cX4_ask 7 = .ok (.invokevirtual 51, 3) := by decide +kernel
theorem dX4_ask_10 : decode cX4_ask 10 = .ok (.invokevirtual 55, 3) := by decide +kernel
theorem dX4_ask_13 : decode cX4_ask 13 = .ok (.ireturn, 1) := by decide +kernel
theorem dX3_find_0 : decode cX3_find 0 = .ok (.aload_n 0, 1) := by decide +kernel
theorem dX3_find_1 : decode cX3_find 1 = .ok (.getfield 15, 3) := by decide +kernel
theorem dX3_find_4 : decode cX3_find 4 = .ok (.ifCond .ne 5, 3) := by decide +kernel
theorem dX3_find_7 : decode cX3_find 7 = .ok (.iconst (-1), 1) := by decide +kernel
theorem dX3_find_8 : decode cX3_find 8 = .ok (.ireturn, 1) := by decide +kernel
theorem dX3_find_9 : decode cX3_find 9 = .ok (.aload_n 0, 1) := by decide +kernel
theorem dX3_find_10 : decode cX3_find 10 = .ok (.iload_n 1, 1) := by decide +kernel
theorem dX3_find_11 : decode cX3_find 11 = .ok (.invokevirtual 40, 3) := by decide +kernel
theorem dX3_find_14 : decode cX3_find 14 = .ok (.istore_n 2, 1) := by decide +kernel
theorem dX3_find_15 : decode cX3_find 15 = .ok (.aload_n 0, 1) := by decide +kernel
theorem dX3_find_16 : decode cX3_find 16 = .ok (.iload_n 1, 1) := by decide +kernel
theorem dX3_find_17 : decode cX3_find 17 = .ok (.invokevirtual 44, 3) := by decide +kernel
theorem dX3_find_20 : decode cX3_find 20 = .ok (.istore_n 3, 1) := by decide +kernel
theorem dX3_find_21 : decode cX3_find 21 = .ok (.iload_n 2, 1) := by decide +kernel
theorem dX3_find_22 : decode cX3_find 22 = .ok (.istore 4, 2) := by decide +kernel
theorem dX3_find_24 : decode cX3_find 24 = .ok (.iload 4, 2) := by decide +kernel
theorem dX3_find_26 : decode cX3_find 26 = .ok (.iload_n 2, 1) := by decide +kernel
theorem dX3_find_27 : decode cX3_find 27 = .ok (.aload_n 0, 1) := by decide +kernel
theorem dX3_find_28 : decode cX3_find 28 = .ok (.getfield 18, 3) := by decide +kernel
theorem dX3_find_31 : decode cX3_find 31 = .ok (.iadd, 1) := by decide +kernel
theorem dX3_find_32 : decode cX3_find 32 = .ok (.if_icmp .ge 23, 3) := by decide +kernel
theorem dX3_find_35 : decode cX3_find 35 = .ok (.aload_n 0, 1) := by decide +kernel
theorem dX3_find_36 : decode cX3_find 36 = .ok (.getfield 21, 3) := by decide +kernel
theorem dX3_find_39 : decode cX3_find 39 = .ok (.iload 4, 2) := by decide +kernel
theorem dX3_find_41 : decode cX3_find 41 = .ok (.iaload, 1) := by decide +kernel
theorem dX3_find_42 : decode cX3_find 42 = .ok (.iload_n 3, 1) := by decide +kernel
theorem dX3_find_43 : decode cX3_find 43 = .ok (.if_icmp .ne 6, 3) := by decide +kernel
theorem dX3_find_46 : decode cX3_find 46 = .ok (.iload 4, 2) := by decide +kernel
theorem dX3_find_48 : decode cX3_find 48 = .ok (.ireturn, 1) := by decide +kernel
theorem dX3_find_49 : decode cX3_find 49 = .ok (.iinc 4 1, 3) := by decide +kernel
theorem dX3_find_52 : decode cX3_find 52 = .ok (.goto (-28), 3) := by decide +kernel
theorem dX3_find_55 : decode cX3_find 55 = .ok (.iconst (-1), 1) := by decide +kernel
theorem dX3_find_56 : decode cX3_find 56 = .ok (.ireturn, 1) := by decide +kernel
theorem dX3_firstSlotFor_0 : decode cX3_firstSlotFor 0 = .ok (.iload_n 1, 1) := by decide +kernel
theorem dX3_firstSlotFor_1 : decode cX3_firstSlotFor 1 = .ok (.iconst 2, 1) := by decide +kernel
theorem dX3_firstSlotFor_2 : decode cX3_firstSlotFor 2 = .ok (.iushr, 1) := by decide +kernel
theorem dX3_firstSlotFor_3 : decode cX3_firstSlotFor 3 = .ok (.aload_n 0, 1) := by decide +kernel
theorem dX3_firstSlotFor_4 : decode cX3_firstSlotFor 4 = .ok (.getfield 15, 3) := by decide +kernel
theorem dX3_firstSlotFor_7 : decode cX3_firstSlotFor 7 = .ok (.iconst 1, 1) := by decide +kernel
theorem dX3_firstSlotFor_8 : decode cX3_firstSlotFor 8 = .ok (.isub, 1) := by decide +kernel
theorem dX3_firstSlotFor_9 : decode cX3_firstSlotFor 9 = .ok (.iand, 1) := by decide +kernel
theorem dX3_firstSlotFor_10 : decode cX3_firstSlotFor 10 = .ok (.aload_n 0, 1) := by decide +kernel
theorem dX3_firstSlotFor_11 : decode cX3_firstSlotFor 11 = .ok (.getfield 18, 3) := by decide +kernel
theorem dX3_firstSlotFor_14 : decode cX3_firstSlotFor 14 = .ok (.imul, 1) := by decide +kernel
theorem dX3_firstSlotFor_15 : decode cX3_firstSlotFor 15 = .ok (.ireturn, 1) := by decide +kernel
theorem dX3_tagOf_0 : decode cX3_tagOf 0 = .ok (.iload_n 1, 1) := by decide +kernel
theorem dX3_tagOf_1 : decode cX3_tagOf 1 = .ok (.iconst 2, 1) := by decide +kernel
theorem dX3_tagOf_2 : decode cX3_tagOf 2 = .ok (.iushr, 1) := by decide +kernel
theorem dX3_tagOf_3 : decode cX3_tagOf 3 = .ok (.aload_n 0, 1) := by decide +kernel
theorem dX3_tagOf_4 : decode cX3_tagOf 4 = .ok (.getfield 9, 3) := by decide +kernel
theorem dX3_tagOf_7 : decode cX3_tagOf 7 = .ok (.iushr, 1) := by decide +kernel
theorem dX3_tagOf_8 : decode cX3_tagOf 8 = .ok (.sipush 255, 3) := by decide +kernel
theorem dX3_tagOf_11 : decode cX3_tagOf 11 = .ok (.iand, 1) := by decide +kernel
theorem dX3_tagOf_12 : decode cX3_tagOf 12 = .ok (.ireturn, 1) := by decide +kernel
theorem dX4_toldOf_0 : decode cX4_toldOf 0 = .ok (.iload_n 2, 1) := by decide +kernel
theorem dX4_toldOf_1 : decode cX4_toldOf 1 = .ok (.iconst (-1), 1) := by decide +kernel
theorem dX4_toldOf_2 : decode cX4_toldOf 2 = .ok (.if_icmp .ne 8, 3) := by decide +kernel
theorem dX4_toldOf_5 : decode cX4_toldOf 5 = .ok (.iload_n 1, 1) := by decide +kernel
theorem dX4_toldOf_6 : decode cX4_toldOf 6 = .ok (.invokestatic 92, 3) := by decide +kernel
theorem dX4_toldOf_9 : decode cX4_toldOf 9 = .ok (.ireturn, 1) := by decide +kernel
theorem dX4_toldOf_10 : decode cX4_toldOf 10 = .ok (.aload_n 0, 1) := by decide +kernel
theorem dX4_toldOf_11 : decode cX4_toldOf 11 = .ok (.getfield 18, 3) := by decide +kernel
theorem dX4_toldOf_14 : decode cX4_toldOf 14 = .ok (.getfield 73, 3) := by decide +kernel
theorem dX4_toldOf_17 : decode cX4_toldOf 17 = .ok (.iload_n 2, 1) := by decide +kernel
theorem dX4_toldOf_18 : decode cX4_toldOf 18 = .ok (.iaload, 1) := by decide +kernel
theorem dX4_toldOf_19 : decode cX4_toldOf 19 = .ok (.istore_n 3, 1) := by decide +kernel
theorem dX4_toldOf_20 : decode cX4_toldOf 20 = .ok (.iload_n 3, 1) := by decide +kernel
theorem dX4_toldOf_21 : decode cX4_toldOf 21 = .ok (.iconst 2, 1) := by decide +kernel
theorem dX4_toldOf_22 : decode cX4_toldOf 22 = .ok (.if_icmp .ne 22, 3) := by decide +kernel
theorem dX4_toldOf_25 : decode cX4_toldOf 25 = .ok (.aload_n 0, 1) := by decide +kernel
theorem dX4_toldOf_26 : decode cX4_toldOf 26 = .ok (.getfield 36, 3) := by decide +kernel
theorem dX4_toldOf_29 : decode cX4_toldOf 29 = .ok (.getfield 149, 3) := by decide +kernel
theorem dX4_toldOf_32 : decode cX4_toldOf 32 = .ok (.ifCond .le 12, 3) := by decide +kernel
theorem dX4_toldOf_35 : decode cX4_toldOf 35 = .ok (.aload_n 0, 1) := by decide +kernel
theorem dX4_toldOf_36 : decode cX4_toldOf 36 = .ok (.getfield 36, 3) := by decide +kernel
theorem dX4_toldOf_39 : decode cX4_toldOf 39 = .ok (.iconst 0, 1) := by decide +kernel
theorem dX4_toldOf_40 : decode cX4_toldOf 40 = .ok (.invokevirtual 154, 3) := by decide +kernel
theorem dX4_toldOf_43 : decode cX4_toldOf 43 = .ok (.ireturn, 1) := by decide +kernel
theorem dX4_toldOf_44 : decode cX4_toldOf 44 = .ok (.iload_n 3, 1) := by decide +kernel
theorem dX4_toldOf_45 : decode cX4_toldOf 45 = .ok (.iconst 3, 1) := by decide +kernel
theorem dX4_toldOf_46 : decode cX4_toldOf 46 = .ok (.if_icmp .ne 23, 3) := by decide +kernel
theorem dX4_toldOf_49 : decode cX4_toldOf 49 = .ok (.aload_n 0, 1) := by decide +kernel
theorem dX4_toldOf_50 : decode cX4_toldOf 50 = .ok (.getfield 27, 3) := by decide +kernel
theorem dX4_toldOf_53 : decode cX4_toldOf 53 = .ok (.iload_n 1, 1) := by decide +kernel
theorem dX4_toldOf_54 : decode cX4_toldOf 54 = .ok (.invokevirtual 174, 3) := by decide +kernel
theorem dX4_toldOf_57 : decode cX4_toldOf 57 = .ok (.ifCond .eq 12, 3) := by decide +kernel
theorem dX4_toldOf_60 : decode cX4_toldOf 60 = .ok (.aload_n 0, 1) := by decide +kernel
theorem dX4_toldOf_61 : decode cX4_toldOf 61 = .ok (.getfield 27, 3) := by decide +kernel
theorem dX4_toldOf_64 : decode cX4_toldOf 64 = .ok (.iload_n 1, 1) := by decide +kernel
theorem dX4_toldOf_65 : decode cX4_toldOf 65 = .ok (.invokevirtual 178, 3) := by decide +kernel
theorem dX4_toldOf_68 : decode cX4_toldOf 68 = .ok (.ireturn, 1) := by decide +kernel
theorem dX4_toldOf_69 : decode cX4_toldOf 69 = .ok (.aload_n 0, 1) := by decide +kernel
theorem dX4_toldOf_70 : decode cX4_toldOf 70 = .ok (.getfield 18, 3) := by decide +kernel
theorem dX4_toldOf_73 : decode cX4_toldOf 73 = .ok (.getfield 142, 3) := by decide +kernel
theorem dX4_toldOf_76 : decode cX4_toldOf 76 = .ok (.iload_n 2, 1) := by decide +kernel
theorem dX4_toldOf_77 : decode cX4_toldOf 77 = .ok (.iaload, 1) := by decide +kernel
theorem dX4_toldOf_78 : decode cX4_toldOf 78 = .ok (.ireturn, 1) := by decide +kernel
theorem dX4_behind_0 : decode cX4_behind 0 = .ok (.iload_n 0, 1) := by decide +kernel
theorem dX4_behind_1 : decode cX4_behind 1 = .ok (.iconst 4, 1) := by decide +kernel
theorem dX4_behind_2 : decode cX4_behind 2 = .ok (.iadd, 1) := by decide +kernel
theorem dX4_behind_3 : decode cX4_behind 3 = .ok (.ireturn, 1) := by decide +kernel
theorem dX2_fromTop_0 : decode cX2_fromTop 0 = .ok (.aload_n 0, 1) := by decide +kernel
theorem dX2_fromTop_1 : decode cX2_fromTop 1 = .ok (.getfield 13, 3) := by decide +kernel
theorem dX2_fromTop_4 : decode cX2_fromTop 4 = .ok (.aload_n 0, 1) := by decide +kernel
theorem dX2_fromTop_5 : decode cX2_fromTop 5 = .ok (.getfield 17, 3) := by decide +kernel
theorem dX2_fromTop_8 : decode cX2_fromTop 8 = .ok (.iconst 1, 1) := by decide +kernel
theorem dX2_fromTop_9 : decode cX2_fromTop 9 = .ok (.isub, 1) := by decide +kernel
theorem dX2_fromTop_10 : decode cX2_fromTop 10 = .ok (.iload_n 1, 1) := by decide +kernel
theorem dX2_fromTop_11 : decode cX2_fromTop 11 = .ok (.isub, 1) := by decide +kernel
theorem dX2_fromTop_12 : decode cX2_fromTop 12 = .ok (.iaload, 1) := by decide +kernel
theorem dX2_fromTop_13 : decode cX2_fromTop 13 = .ok (.ireturn, 1) := by decide +kernel
theorem dX0_knows_0 : decode cX0_knows 0 = .ok (.aload_n 0, 1) := by decide +kernel
theorem dX0_knows_1 : decode cX0_knows 1 = .ok (.getfield 9, 3) := by decide +kernel
theorem dX0_knows_4 : decode cX0_knows 4 = .ok (.aload_n 0, 1) := by decide +kernel
theorem dX0_knows_5 : decode cX0_knows 5 = .ok (.iload_n 1, 1) := by decide +kernel
theorem dX0_knows_6 : decode cX0_knows 6 = .ok (.invokevirtual 24, 3) := by decide +kernel
theorem dX0_knows_9 : decode cX0_knows 9 = .ok (.iaload, 1) := by decide +kernel
theorem dX0_knows_10 : decode cX0_knows 10 = .ok (.iload_n 1, 1) := by decide +kernel
theorem dX0_knows_11 : decode cX0_knows 11 = .ok (.invokestatic 28, 3) := by decide +kernel
theorem dX0_knows_14 : decode cX0_knows 14 = .ok (.if_icmp .ne 7, 3) := by decide +kernel
theorem dX0_knows_17 : decode cX0_knows 17 = .ok (.iconst 1, 1) := by decide +kernel
theorem dX0_knows_18 : decode cX0_knows 18 = .ok (.goto 4, 3) := by decide +kernel
theorem dX0_knows_21 : decode cX0_knows 21 = .ok (.iconst 0, 1) := by decide +kernel
theorem dX0_knows_22 : decode cX0_knows 22 = .ok (.ireturn, 1) := by decide +kernel
theorem dX0_indexFor_0 : decode cX0_indexFor 0 = .ok (.aload_n 0, 1) := by decide +kernel
theorem dX0_indexFor_1 : decode cX0_indexFor 1 = .ok (.getfield 31, 3) := by decide +kernel
theorem dX0_indexFor_4 : decode cX0_indexFor 4 = .ok (.aload_n 0, 1) := by decide +kernel
theorem dX0_indexFor_5 : decode cX0_indexFor 5 = .ok (.getfield 31, 3) := by decide +kernel
theorem dX0_indexFor_8 : decode cX0_indexFor 8 = .ok (.bipush 6, 2) := by decide +kernel
theorem dX0_indexFor_10 : decode cX0_indexFor 10 = .ok (.iushr, 1) := by decide +kernel
theorem dX0_indexFor_11 : decode cX0_indexFor 11 = .ok (.ixor, 1) := by decide +kernel
theorem dX0_indexFor_12 : decode cX0_indexFor 12 = .ok (.aload_n 0, 1) := by decide +kernel
theorem dX0_indexFor_13 : decode cX0_indexFor 13 = .ok (.getfield 31, 3) := by decide +kernel
theorem dX0_indexFor_16 : decode cX0_indexFor 16 = .ok (.bipush 12, 2) := by decide +kernel
theorem dX0_indexFor_18 : decode cX0_indexFor 18 = .ok (.iushr, 1) := by decide +kernel
theorem dX0_indexFor_19 : decode cX0_indexFor 19 = .ok (.ixor, 1) := by decide +kernel
theorem dX0_indexFor_20 : decode cX0_indexFor 20 = .ok (.aload_n 0, 1) := by decide +kernel
theorem dX0_indexFor_21 : decode cX0_indexFor 21 = .ok (.getfield 31, 3) := by decide +kernel
theorem dX0_indexFor_24 : decode cX0_indexFor 24 = .ok (.bipush 18, 2) := by decide +kernel
theorem dX0_indexFor_26 : decode cX0_indexFor 26 = .ok (.iushr, 1) := by decide +kernel
theorem dX0_indexFor_27 : decode cX0_indexFor 27 = .ok (.ixor, 1) := by decide +kernel
theorem dX0_indexFor_28 : decode cX0_indexFor 28 = .ok (.istore_n 2, 1) := by decide +kernel
theorem dX0_indexFor_29 : decode cX0_indexFor 29 = .ok (.iload_n 1, 1) := by decide +kernel
theorem dX0_indexFor_30 : decode cX0_indexFor 30 = .ok (.iconst 2, 1) := by decide +kernel
theorem dX0_indexFor_31 : decode cX0_indexFor 31 = .ok (.iushr, 1) := by decide +kernel
theorem dX0_indexFor_32 : decode cX0_indexFor 32 = .ok (.iload_n 2, 1) := by decide +kernel
theorem dX0_indexFor_33 : decode cX0_indexFor 33 = .ok (.ixor, 1) := by decide +kernel
theorem dX0_indexFor_34 : decode cX0_indexFor 34 = .ok (.bipush 63, 2) := by decide +kernel
theorem dX0_indexFor_36 : decode cX0_indexFor 36 = .ok (.iand, 1) := by decide +kernel
theorem dX0_indexFor_37 : decode cX0_indexFor 37 = .ok (.ireturn, 1) := by decide +kernel
theorem dX0_tagOf_0 : decode cX0_tagOf 0 = .ok (.iload_n 0, 1) := by decide +kernel
theorem dX0_tagOf_1 : decode cX0_tagOf 1 = .ok (.bipush 8, 2) := by decide +kernel
theorem dX0_tagOf_3 : decode cX0_tagOf 3 = .ok (.iushr, 1) := by decide +kernel
theorem dX0_tagOf_4 : decode cX0_tagOf 4 = .ok (.sipush 255, 3) := by decide +kernel
theorem dX0_tagOf_7 : decode cX0_tagOf 7 = .ok (.iand, 1) := by decide +kernel
theorem dX0_tagOf_8 : decode cX0_tagOf 8 = .ok (.ireturn, 1) := by decide +kernel
theorem dX0_targetFor_0 : decode cX0_targetFor 0 = .ok (.aload_n 0, 1) := by decide +kernel
theorem dX0_targetFor_1 : decode cX0_targetFor 1 = .ok (.getfield 15, 3) := by decide +kernel
theorem dX0_targetFor_4 : decode cX0_targetFor 4 = .ok (.aload_n 0, 1) := by decide +kernel
theorem dX0_targetFor_5 : decode cX0_targetFor 5 = .ok (.iload_n 1, 1) := by decide +kernel
theorem dX0_targetFor_6 : decode cX0_targetFor 6 = .ok (.invokevirtual 24, 3) := by decide +kernel
theorem dX0_targetFor_9 : decode cX0_targetFor 9 = .ok (.iaload, 1) := by decide +kernel
theorem dX0_targetFor_10 : decode cX0_targetFor 10 = .ok (.ireturn, 1) := by decide +kernel
theorem dX4_flush_0 : decode cX4_flush 0 = .ok (.aload_n 0, 1) := by decide +kernel
theorem dX4_flush_1 : decode cX4_flush 1 = .ok (.getfield 43, 3) := by decide +kernel
theorem dX4_flush_4 : decode cX4_flush 4 = .ok (.getfield 58, 3) := by decide +kernel
theorem dX4_flush_7 : decode cX4_flush 7 = .ok (.istore_n 1, 1) := by decide +kernel
theorem dX4_flush_8 : decode cX4_flush 8 = .ok (.iload_n 1, 1) := by decide +kernel
theorem dX4_flush_9 : decode cX4_flush 9 = .ok (.ifCond .le 31, 3) := by decide +kernel
theorem dX4_flush_12 : decode cX4_flush 12 = .ok (.aload_n 0, 1) := by decide +kernel
theorem dX4_flush_13 : decode cX4_flush 13 = .ok (.getfield 43, 3) := by decide +kernel
theorem dX4_flush_16 : decode cX4_flush 16 = .ok (.aload_n 0, 1) := by decide +kernel
theorem dX4_flush_17 : decode cX4_flush 17 = .ok (.getfield 36, 3) := by decide +kernel
theorem dX4_flush_20 : decode cX4_flush 20 = .ok (.invokevirtual 116, 3) := by decide +kernel
theorem dX4_flush_23 : decode cX4_flush 23 = .ok (.aload_n 0, 1) := by decide +kernel
theorem dX4_flush_24 : decode cX4_flush 24 = .ok (.getfield 43, 3) := by decide +kernel
theorem dX4_flush_27 : decode cX4_flush 27 = .ok (.invokevirtual 120, 3) := by decide +kernel
theorem dX4_flush_30 : decode cX4_flush 30 = .ok (.aload_n 0, 1) := by decide +kernel
theorem dX4_flush_31 : decode cX4_flush 31 = .ok (.dup, 1) := by decide +kernel
theorem dX4_flush_32 : decode cX4_flush 32 = .ok (.getfield 123, 3) := by decide +kernel
theorem dX4_flush_35 : decode cX4_flush 35 = .ok (.iload_n 1, 1) := by decide +kernel
theorem dX4_flush_36 : decode cX4_flush 36 = .ok (.iadd, 1) := by decide +kernel
theorem dX4_flush_37 : decode cX4_flush 37 = .ok (.putfield 123, 3) := by decide +kernel
theorem dX4_flush_40 : decode cX4_flush 40 = .ok (.iload_n 1, 1) := by decide +kernel
theorem dX4_flush_41 : decode cX4_flush 41 = .ok (.ireturn, 1) := by decide +kernel
theorem dX1_giveBack_0 : decode cX1_giveBack 0 = .ok (.aload_n 1, 1) := by decide +kernel
theorem dX1_giveBack_1 : decode cX1_giveBack 1 = .ok (.aload_n 0, 1) := by decide +kernel
theorem dX1_giveBack_2 : decode cX1_giveBack 2 = .ok (.getfield 25, 3) := by decide +kernel
theorem dX1_giveBack_5 : decode cX1_giveBack 5 = .ok (.aload_n 0, 1) := by decide +kernel
theorem dX1_giveBack_6 : decode cX1_giveBack 6 = .ok (.getfield 44, 3) := by decide +kernel
theorem dX1_giveBack_9 : decode cX1_giveBack 9 = .ok (.aload_n 0, 1) := by decide +kernel
theorem dX1_giveBack_10 : decode cX1_giveBack 10 = .ok (.getfield 9, 3) := by decide +kernel
theorem dX1_giveBack_13 : decode cX1_giveBack 13 = .ok (.imul, 1) := by decide +kernel
theorem dX1_giveBack_14 : decode cX1_giveBack 14 = .ok (.aload_n 0, 1) := by decide +kernel
theorem dX1_giveBack_15 : decode cX1_giveBack 15 = .ok (.getfield 22, 3) := by decide +kernel
theorem dX1_giveBack_18 : decode cX1_giveBack 18 = .ok (.aload_n 0, 1) := by decide +kernel
theorem dX1_giveBack_19 : decode cX1_giveBack 19 = .ok (.getfield 44, 3) := by decide +kernel
theorem dX1_giveBack_22 : decode cX1_giveBack 22 = .ok (.iaload, 1) := by decide +kernel
theorem dX1_giveBack_23 : decode cX1_giveBack 23 = .ok (.invokevirtual 47, 3) := by decide +kernel
theorem dX1_giveBack_26 : decode cX1_giveBack 26 = .ok (.return_, 1) := by decide +kernel
theorem dX2_copyFrom_0 : decode cX2_copyFrom 0 = .ok (.aload_n 1, 1) := by decide +kernel
theorem dX2_copyFrom_1 : decode cX2_copyFrom 1 = .ok (.iload_n 2, 1) := by decide +kernel
theorem dX2_copyFrom_2 : decode cX2_copyFrom 2 = .ok (.aload_n 0, 1) := by decide +kernel
theorem dX2_copyFrom_3 : decode cX2_copyFrom 3 = .ok (.getfield 13, 3) := by decide +kernel
theorem dX2_copyFrom_6 : decode cX2_copyFrom 6 = .ok (.iconst 0, 1) := by decide +kernel
theorem dX2_copyFrom_7 : decode cX2_copyFrom 7 = .ok (.iload_n 3, 1) := by decide +kernel
theorem dX2_copyFrom_8 : decode cX2_copyFrom 8 = .ok (.invokestatic 29, 3) := by decide +kernel
theorem dX2_copyFrom_11 : decode cX2_copyFrom 11 = .ok (.aload_n 0, 1) := by decide +kernel
theorem dX2_copyFrom_12 : decode cX2_copyFrom 12 = .ok (.iload_n 3, 1) := by decide +kernel
theorem dX2_copyFrom_13 : decode cX2_copyFrom 13 = .ok (.putfield 17, 3) := by decide +kernel
theorem dX2_copyFrom_16 : decode cX2_copyFrom 16 = .ok (.return_, 1) := by decide +kernel
theorem dX1_clear_0 : decode cX1_clear 0 = .ok (.aload_n 0, 1) := by decide +kernel
theorem dX1_clear_1 : decode cX1_clear 1 = .ok (.iconst 0, 1) := by decide +kernel
theorem dX1_clear_2 : decode cX1_clear 2 = .ok (.putfield 28, 3) := by decide +kernel
theorem dX1_clear_5 : decode cX1_clear 5 = .ok (.return_, 1) := by decide +kernel
theorem dX4_storage_0 : decode cX4_storage 0 = .ok (.aload_n 0, 1) := by decide +kernel
theorem dX4_storage_1 : decode cX4_storage 1 = .ok (.getfield 18, 3) := by decide +kernel
theorem dX4_storage_4 : decode cX4_storage 4 = .ok (.getfield 126, 3) := by decide +kernel
theorem dX4_storage_7 : decode cX4_storage 7 = .ok (.aload_n 0, 1) := by decide +kernel
theorem dX4_storage_8 : decode cX4_storage 8 = .ok (.getfield 18, 3) := by decide +kernel
theorem dX4_storage_11 : decode cX4_storage 11 = .ok (.getfield 129, 3) := by decide +kernel
theorem dX4_storage_14 : decode cX4_storage 14 = .ok (.imul, 1) := by decide +kernel
theorem dX4_storage_15 : decode cX4_storage 15 = .ok (.bipush 42, 2) := by decide +kernel
theorem dX4_storage_17 : decode cX4_storage 17 = .ok (.imul, 1) := by decide +kernel
theorem dX4_storage_18 : decode cX4_storage 18 = .ok (.sipush 2560, 3) := by decide +kernel
theorem dX4_storage_21 : decode cX4_storage 21 = .ok (.iadd, 1) := by decide +kernel
theorem dX4_storage_22 : decode cX4_storage 22 = .ok (.aload_n 0, 1) := by decide +kernel
theorem dX4_storage_23 : decode cX4_storage 23 = .ok (.getfield 36, 3) := by decide +kernel
theorem dX4_storage_26 : decode cX4_storage 26 = .ok (.getfield 159, 3) := by decide +kernel
theorem dX4_storage_29 : decode cX4_storage 29 = .ok (.bipush 32, 2) := by decide +kernel
theorem dX4_storage_31 : decode cX4_storage 31 = .ok (.imul, 1) := by decide +kernel
theorem dX4_storage_32 : decode cX4_storage 32 = .ok (.iadd, 1) := by decide +kernel
theorem dX4_storage_33 : decode cX4_storage 33 = .ok (.bipush 24, 2) := by decide +kernel
theorem dX4_storage_35 : decode cX4_storage 35 = .ok (.iadd, 1) := by decide +kernel
theorem dX4_storage_36 : decode cX4_storage 36 = .ok (.ireturn, 1) := by decide +kernel
theorem dX4_count_0 : decode cX4_count 0 = .ok (.iload_n 1, 1) := by decide +kernel
theorem dX4_count_1 : decode cX4_count 1 = .ok (.iconst 1, 1) := by decide +kernel
theorem dX4_count_2 : decode cX4_count 2 = .ok (.if_icmp .lt 21, 3) := by decide +kernel
theorem dX4_count_5 : decode cX4_count 5 = .ok (.iload_n 1, 1) := by decide +kernel
theorem dX4_count_6 : decode cX4_count 6 = .ok (.aload_n 0, 1) := by decide +kernel
theorem dX4_count_7 : decode cX4_count 7 = .ok (.getfield 47, 3) := by decide +kernel
theorem dX4_count_10 : decode cX4_count 10 = .ok (.arraylength, 1) := by decide +kernel
theorem dX4_count_11 : decode cX4_count 11 = .ok (.if_icmp .gt 12, 3) := by decide +kernel
theorem dX4_count_14 : decode cX4_count 14 = .ok (.aload_n 0, 1) := by decide +kernel
theorem dX4_count_15 : decode cX4_count 15 = .ok (.getfield 47, 3) := by decide +kernel
theorem dX4_count_18 : decode cX4_count 18 = .ok (.iload_n 1, 1) := by decide +kernel
theorem dX4_count_19 : decode cX4_count 19 = .ok (.iconst 1, 1) := by decide +kernel
theorem dX4_count_20 : decode cX4_count 20 = .ok (.isub, 1) := by decide +kernel
theorem dX4_count_21 : decode cX4_count 21 = .ok (.iaload, 1) := by decide +kernel
theorem dX4_count_22 : decode cX4_count 22 = .ok (.ireturn, 1) := by decide +kernel
theorem dX4_count_23 : decode cX4_count 23 = .ok (.iload_n 1, 1) := by decide +kernel
theorem dX4_count_24 : decode cX4_count 24 = .ok (.tableswitch 170 0 17 #[88, 170, 170, 170, 170, 170, 170, 170, 93, 101, 109, 117, 125, 133, 141, 146, 154, 162], 88) := by decide +kernel
theorem dX4_count_112 : decode cX4_count 112 = .ok (.aload_n 0, 1) := by decide +kernel
theorem dX4_count_113 : decode cX4_count 113 = .ok (.getfield 113, 3) := by decide +kernel
theorem dX4_count_116 : decode cX4_count 116 = .ok (.ireturn, 1) := by decide +kernel
theorem dX4_count_117 : decode cX4_count 117 = .ok (.aload_n 0, 1) := by decide +kernel
theorem dX4_count_118 : decode cX4_count 118 = .ok (.getfield 36, 3) := by decide +kernel
theorem dX4_count_121 : decode cX4_count 121 = .ok (.getfield 162, 3) := by decide +kernel
theorem dX4_count_124 : decode cX4_count 124 = .ok (.ireturn, 1) := by decide +kernel
theorem dX4_count_125 : decode cX4_count 125 = .ok (.aload_n 0, 1) := by decide +kernel
theorem dX4_count_126 : decode cX4_count 126 = .ok (.getfield 36, 3) := by decide +kernel
theorem dX4_count_129 : decode cX4_count 129 = .ok (.getfield 165, 3) := by decide +kernel
theorem dX4_count_132 : decode cX4_count 132 = .ok (.ireturn, 1) := by decide +kernel
theorem dX4_count_133 : decode cX4_count 133 = .ok (.aload_n 0, 1) := by decide +kernel
theorem dX4_count_134 : decode cX4_count 134 = .ok (.getfield 43, 3) := by decide +kernel
theorem dX4_count_137 : decode cX4_count 137 = .ok (.getfield 58, 3) := by decide +kernel
theorem dX4_count_140 : decode cX4_count 140 = .ok (.ireturn, 1) := by decide +kernel
theorem dX4_count_141 : decode cX4_count 141 = .ok (.aload_n 0, 1) := by decide +kernel
theorem dX4_count_142 : decode cX4_count 142 = .ok (.getfield 36, 3) := by decide +kernel
end
section
theorem dX4_count_145 : decode cX4_count 145 = .ok (.getfield 149, 3) := by decide +kernel
theorem dX4_count_148 : decode cX4_count 148 = .ok (.ireturn, 1) := by decide +kernel
theorem dX4_count_149 : decode cX4_count 149 = .ok (.aload_n 0, 1) := by decide +kernel
theorem dX4_count_150 : decode cX4_count 150 = .ok (.getfield 18, 3) := by decide +kernel
theorem dX4_count_153 : decode cX4_count 153 = .ok (.getfield 168, 3) := by decide +kernel
theorem dX4_count_156 : decode cX4_count 156 = .ok (.ireturn, 1) := by decide +kernel
theorem dX4_count_157 : decode cX4_count 157 = .ok (.aload_n 0, 1) := by decide +kernel
theorem dX4_count_158 : decode cX4_count 158 = .ok (.getfield 27, 3) := by decide +kernel
theorem dX4_count_161 : decode cX4_count 161 = .ok (.getfield 171, 3) := by decide +kernel
theorem dX4_count_164 : decode cX4_count 164 = .ok (.ireturn, 1) := by decide +kernel
theorem dX4_count_165 : decode cX4_count 165 = .ok (.aload_n 0, 1) := by decide +kernel
theorem dX4_count_166 : decode cX4_count 166 = .ok (.getfield 123, 3) := by decide +kernel
theorem dX4_count_169 : decode cX4_count 169 = .ok (.ireturn, 1) := by decide +kernel
theorem dX4_count_170 : decode cX4_count 170 = .ok (.aload_n 0, 1) := by decide +kernel
theorem dX4_count_171 : decode cX4_count 171 = .ok (.getfield 18, 3) := by decide +kernel
theorem dX4_count_174 : decode cX4_count 174 = .ok (.getfield 126, 3) := by decide +kernel
theorem dX4_count_177 : decode cX4_count 177 = .ok (.ireturn, 1) := by decide +kernel
theorem dX4_count_178 : decode cX4_count 178 = .ok (.aload_n 0, 1) := by decide +kernel
theorem dX4_count_179 : decode cX4_count 179 = .ok (.getfield 18, 3) := by decide +kernel
theorem dX4_count_182 : decode cX4_count 182 = .ok (.getfield 129, 3) := by decide +kernel
theorem dX4_count_185 : decode cX4_count 185 = .ok (.ireturn, 1) := by decide +kernel
theorem dX4_count_186 : decode cX4_count 186 = .ok (.aload_n 0, 1) := by decide +kernel
theorem dX4_count_187 : decode cX4_count 187 = .ok (.getfield 36, 3) := by decide +kernel
theorem dX4_count_190 : decode cX4_count 190 = .ok (.getfield 159, 3) := by decide +kernel
theorem dX4_count_193 : decode cX4_count 193 = .ok (.ireturn, 1) := by decide +kernel
theorem dX4_count_194 : decode cX4_count 194 = .ok (.iconst (-1), 1) := by decide +kernel
theorem dX4_count_195 : decode cX4_count 195 = .ok (.ireturn, 1) := by decide +kernel
theorem dL_cell_0 : decode cL_cell 0 = .ok (.iload_n 1, 1) := by decide +kernel
theorem dL_cell_1 : decode cL_cell 1 = .ok (.aload_n 0, 1) := by decide +kernel
theorem dL_cell_2 : decode cL_cell 2 = .ok (.arraylength, 1) := by decide +kernel
theorem dL_cell_3 : decode cL_cell 3 = .ok (.if_icmp .ge 9, 3) := by decide +kernel
theorem dL_cell_6 : decode cL_cell 6 = .ok (.aload_n 0, 1) := by decide +kernel
theorem dL_cell_7 : decode cL_cell 7 = .ok (.iload_n 1, 1) := by decide +kernel
theorem dL_cell_8 : decode cL_cell 8 = .ok (.iaload, 1) := by decide +kernel
theorem dL_cell_9 : decode cL_cell 9 = .ok (.goto 4, 3) := by decide +kernel
theorem dL_cell_12 : decode cL_cell 12 = .ok (.iconst 0, 1) := by decide +kernel
theorem dL_cell_13 : decode cL_cell 13 = .ok (.ireturn, 1) := by decide +kernel
theorem dL_next_0 : decode cL_next 0 = .ok (.aload_n 2, 1) := by decide +kernel
theorem dL_next_1 : decode cL_next 1 = .ok (.iconst 0, 1) := by decide +kernel
theorem dL_next_2 : decode cL_next 2 = .ok (.aload_n 0, 1) := by decide +kernel
theorem dL_next_3 : decode cL_next 3 = .ok (.iload_n 1, 1) := by decide +kernel
theorem dL_next_4 : decode cL_next 4 = .ok (.invokevirtual 7, 3) := by decide +kernel
theorem dL_next_7 : decode cL_next 7 = .ok (.i2l, 1) := by decide +kernel
theorem dL_next_8 : decode cL_next 8 = .ok (.lastore, 1) := by decide +kernel
theorem dL_next_9 : decode cL_next 9 = .ok (.goto 6, 3) := by decide +kernel
theorem dL_next_12 : decode cL_next 12 = .ok (.astore_n 3, 1) := by decide +kernel
theorem dL_next_13 : decode cL_next 13 = .ok (.iconst 1, 1) := by decide +kernel
theorem dL_next_14 : decode cL_next 14 = .ok (.ireturn, 1) := by decide +kernel
theorem dL_next_15 : decode cL_next 15 = .ok (.iconst 0, 1) := by decide +kernel
theorem dL_next_16 : decode cL_next 16 = .ok (.ireturn, 1) := by decide +kernel
theorem dX4_next_0 : decode cX4_next 0 = .ok (.aload_n 0, 1) := by decide +kernel
theorem dX4_next_1 : decode cX4_next 1 = .ok (.getfield 43, 3) := by decide +kernel
theorem dX4_next_4 : decode cX4_next 4 = .ok (.getfield 58, 3) := by decide +kernel
theorem dX4_next_7 : decode cX4_next 7 = .ok (.bipush 16, 2) := by decide +kernel
theorem dX4_next_9 : decode cX4_next 9 = .ok (.if_icmp .ne 13, 3) := by decide +kernel
theorem dX4_next_12 : decode cX4_next 12 = .ok (.new 62, 3) := by decide +kernel
theorem dX4_next_15 : decode cX4_next 15 = .ok (.dup, 1) := by decide +kernel
theorem dX4_next_16 : decode cX4_next 16 = .ok (.ldc 64, 2) := by decide +kernel
theorem dX4_next_18 : decode cX4_next 18 = .ok (.invokespecial 66, 3) := by decide +kernel
theorem dX4_next_21 : decode cX4_next 21 = .ok (.athrow, 1) := by decide +kernel
theorem dX4_next_22 : decode cX4_next 22 = .ok (.aload_n 0, 1) := by decide +kernel
theorem dX4_next_23 : decode cX4_next 23 = .ok (.getfield 18, 3) := by decide +kernel
theorem dX4_next_26 : decode cX4_next 26 = .ok (.iload_n 1, 1) := by decide +kernel
theorem dX4_next_27 : decode cX4_next 27 = .ok (.invokevirtual 51, 3) := by decide +kernel
theorem dX4_next_30 : decode cX4_next 30 = .ok (.istore_n 2, 1) := by decide +kernel
theorem dX4_next_31 : decode cX4_next 31 = .ok (.aload_n 0, 1) := by decide +kernel
theorem dX4_next_32 : decode cX4_next 32 = .ok (.iload_n 1, 1) := by decide +kernel
theorem dX4_next_33 : decode cX4_next 33 = .ok (.iload_n 2, 1) := by decide +kernel
theorem dX4_next_34 : decode cX4_next 34 = .ok (.invokevirtual 55, 3) := by decide +kernel
theorem dX4_next_37 : decode cX4_next 37 = .ok (.istore_n 3, 1) := by decide +kernel
theorem dX4_next_38 : decode cX4_next 38 = .ok (.aload_n 0, 1) := by decide +kernel
theorem dX4_next_39 : decode cX4_next 39 = .ok (.getfield 43, 3) := by decide +kernel
theorem dX4_next_42 : decode cX4_next 42 = .ok (.iload_n 1, 1) := by decide +kernel
theorem dX4_next_43 : decode cX4_next 43 = .ok (.iload_n 3, 1) := by decide +kernel
theorem dX4_next_44 : decode cX4_next 44 = .ok (.aload_n 0, 1) := by decide +kernel
theorem dX4_next_45 : decode cX4_next 45 = .ok (.getfield 36, 3) := by decide +kernel
theorem dX4_next_48 : decode cX4_next 48 = .ok (.invokevirtual 69, 3) := by decide +kernel
theorem dX4_next_51 : decode cX4_next 51 = .ok (.iload_n 2, 1) := by decide +kernel
theorem dX4_next_52 : decode cX4_next 52 = .ok (.iconst (-1), 1) := by decide +kernel
theorem dX4_next_53 : decode cX4_next 53 = .ok (.if_icmp .eq 17, 3) := by decide +kernel
theorem dX4_next_56 : decode cX4_next 56 = .ok (.aload_n 0, 1) := by decide +kernel
theorem dX4_next_57 : decode cX4_next 57 = .ok (.aload_n 0, 1) := by decide +kernel
theorem dX4_next_58 : decode cX4_next 58 = .ok (.getfield 18, 3) := by decide +kernel
theorem dX4_next_61 : decode cX4_next 61 = .ok (.getfield 73, 3) := by decide +kernel
theorem dX4_next_64 : decode cX4_next 64 = .ok (.iload_n 2, 1) := by decide +kernel
theorem dX4_next_65 : decode cX4_next 65 = .ok (.iaload, 1) := by decide +kernel
theorem dX4_next_66 : decode cX4_next 66 = .ok (.iload_n 1, 1) := by decide +kernel
theorem dX4_next_67 : decode cX4_next 67 = .ok (.invokevirtual 76, 3) := by decide +kernel
theorem dX4_next_70 : decode cX4_next 70 = .ok (.iload_n 3, 1) := by decide +kernel
theorem dX4_next_71 : decode cX4_next 71 = .ok (.ireturn, 1) := by decide +kernel
theorem dX1_add_0 : decode cX1_add 0 = .ok (.aload_n 0, 1) := by decide +kernel
theorem dX1_add_1 : decode cX1_add 1 = .ok (.aload_n 0, 1) := by decide +kernel
theorem dX1_add_2 : decode cX1_add 2 = .ok (.getfield 28, 3) := by decide +kernel
theorem dX1_add_5 : decode cX1_add 5 = .ok (.invokevirtual 31, 3) := by decide +kernel
theorem dX1_add_8 : decode cX1_add 8 = .ok (.istore 4, 2) := by decide +kernel
theorem dX1_add_10 : decode cX1_add 10 = .ok (.aload_n 0, 1) := by decide +kernel
theorem dX1_add_11 : decode cX1_add 11 = .ok (.getfield 15, 3) := by decide +kernel
theorem dX1_add_14 : decode cX1_add 14 = .ok (.iload 4, 2) := by decide +kernel
theorem dX1_add_16 : decode cX1_add 16 = .ok (.iload_n 1, 1) := by decide +kernel
theorem dX1_add_17 : decode cX1_add 17 = .ok (.iastore, 1) := by decide +kernel
theorem dX1_add_18 : decode cX1_add 18 = .ok (.aload_n 0, 1) := by decide +kernel
theorem dX1_add_19 : decode cX1_add 19 = .ok (.getfield 19, 3) := by decide +kernel
theorem dX1_add_22 : decode cX1_add 22 = .ok (.iload 4, 2) := by decide +kernel
theorem dX1_add_24 : decode cX1_add 24 = .ok (.iload_n 2, 1) := by decide +kernel
theorem dX1_add_25 : decode cX1_add 25 = .ok (.iastore, 1) := by decide +kernel
theorem dX1_add_26 : decode cX1_add 26 = .ok (.aload_n 0, 1) := by decide +kernel
theorem dX1_add_27 : decode cX1_add 27 = .ok (.getfield 22, 3) := by decide +kernel
theorem dX1_add_30 : decode cX1_add 30 = .ok (.iload 4, 2) := by decide +kernel
theorem dX1_add_32 : decode cX1_add 32 = .ok (.aload_n 3, 1) := by decide +kernel
theorem dX1_add_33 : decode cX1_add 33 = .ok (.getfield 35, 3) := by decide +kernel
theorem dX1_add_36 : decode cX1_add 36 = .ok (.iastore, 1) := by decide +kernel
theorem dX1_add_37 : decode cX1_add 37 = .ok (.aload_n 3, 1) := by decide +kernel
theorem dX1_add_38 : decode cX1_add 38 = .ok (.aload_n 0, 1) := by decide +kernel
theorem dX1_add_39 : decode cX1_add 39 = .ok (.getfield 25, 3) := by decide +kernel
theorem dX1_add_42 : decode cX1_add 42 = .ok (.iload 4, 2) := by decide +kernel
theorem dX1_add_44 : decode cX1_add 44 = .ok (.aload_n 0, 1) := by decide +kernel
theorem dX1_add_45 : decode cX1_add 45 = .ok (.getfield 9, 3) := by decide +kernel
theorem dX1_add_48 : decode cX1_add 48 = .ok (.imul, 1) := by decide +kernel
theorem dX1_add_49 : decode cX1_add 49 = .ok (.invokevirtual 40, 3) := by decide +kernel
theorem dX1_add_52 : decode cX1_add 52 = .ok (.aload_n 0, 1) := by decide +kernel
theorem dX1_add_53 : decode cX1_add 53 = .ok (.dup, 1) := by decide +kernel
theorem dX1_add_54 : decode cX1_add 54 = .ok (.getfield 28, 3) := by decide +kernel
theorem dX1_add_57 : decode cX1_add 57 = .ok (.iconst 1, 1) := by decide +kernel
theorem dX1_add_58 : decode cX1_add 58 = .ok (.iadd, 1) := by decide +kernel
theorem dX1_add_59 : decode cX1_add 59 = .ok (.putfield 28, 3) := by decide +kernel
theorem dX1_add_62 : decode cX1_add 62 = .ok (.return_, 1) := by decide +kernel
theorem dX1_indexOf_0 : decode cX1_indexOf 0 = .ok (.aload_n 0, 1) := by decide +kernel
theorem dX1_indexOf_1 : decode cX1_indexOf 1 = .ok (.getfield 44, 3) := by decide +kernel
theorem dX1_indexOf_4 : decode cX1_indexOf 4 = .ok (.iload_n 1, 1) := by decide +kernel
theorem dX1_indexOf_5 : decode cX1_indexOf 5 = .ok (.iadd, 1) := by decide +kernel
theorem dX1_indexOf_6 : decode cX1_indexOf 6 = .ok (.bipush 15, 2) := by decide +kernel
theorem dX1_indexOf_8 : decode cX1_indexOf 8 = .ok (.iand, 1) := by decide +kernel
theorem dX1_indexOf_9 : decode cX1_indexOf 9 = .ok (.ireturn, 1) := by decide +kernel
theorem dX2_copyTo_0 : decode cX2_copyTo 0 = .ok (.aload_n 0, 1) := by decide +kernel
theorem dX2_copyTo_1 : decode cX2_copyTo 1 = .ok (.getfield 13, 3) := by decide +kernel
theorem dX2_copyTo_4 : decode cX2_copyTo 4 = .ok (.iconst 0, 1) := by decide +kernel
theorem dX2_copyTo_5 : decode cX2_copyTo 5 = .ok (.aload_n 1, 1) := by decide +kernel
theorem dX2_copyTo_6 : decode cX2_copyTo 6 = .ok (.iload_n 2, 1) := by decide +kernel
theorem dX2_copyTo_7 : decode cX2_copyTo 7 = .ok (.aload_n 0, 1) := by decide +kernel
theorem dX2_copyTo_8 : decode cX2_copyTo 8 = .ok (.getfield 17, 3) := by decide +kernel
theorem dX2_copyTo_11 : decode cX2_copyTo 11 = .ok (.invokestatic 29, 3) := by decide +kernel
theorem dX2_copyTo_14 : decode cX2_copyTo 14 = .ok (.return_, 1) := by decide +kernel
theorem dX4_moveStack_0 : decode cX4_moveStack 0 = .ok (.iload_n 1, 1) := by decide +kernel
theorem dX4_moveStack_1 : decode cX4_moveStack 1 = .ok (.iconst 1, 1) := by decide +kernel
theorem dX4_moveStack_2 : decode cX4_moveStack 2 = .ok (.if_icmp .ne 17, 3) := by decide +kernel
theorem dX4_moveStack_5 : decode cX4_moveStack 5 = .ok (.aload_n 0, 1) := by decide +kernel
theorem dX4_moveStack_6 : decode cX4_moveStack 6 = .ok (.getfield 36, 3) := by decide +kernel
theorem dX4_moveStack_9 : decode cX4_moveStack 9 = .ok (.iload_n 2, 1) := by decide +kernel
theorem dX4_moveStack_10 : decode cX4_moveStack 10 = .ok (.invokestatic 92, 3) := by decide +kernel
theorem dX4_moveStack_13 : decode cX4_moveStack 13 = .ok (.invokevirtual 181, 3) := by decide +kernel
theorem dX4_moveStack_16 : decode cX4_moveStack 16 = .ok (.goto 15, 3) := by decide +kernel
theorem dX4_moveStack_19 : decode cX4_moveStack 19 = .ok (.iload_n 1, 1) := by decide +kernel
theorem dX4_moveStack_20 : decode cX4_moveStack 20 = .ok (.iconst 2, 1) := by decide +kernel
theorem dX4_moveStack_21 : decode cX4_moveStack 21 = .ok (.if_icmp .ne 10, 3) := by decide +kernel
theorem dX4_moveStack_24 : decode cX4_moveStack 24 = .ok (.aload_n 0, 1) := by decide +kernel
theorem dX4_moveStack_25 : decode cX4_moveStack 25 = .ok (.getfield 36, 3) := by decide +kernel
theorem dX4_moveStack_28 : decode cX4_moveStack 28 = .ok (.invokevirtual 184, 3) := by decide +kernel
theorem dX4_moveStack_31 : decode cX4_moveStack 31 = .ok (.return_, 1) := by decide +kernel
theorem dX2_push_0 : decode cX2_push 0 = .ok (.aload_n 0, 1) := by decide +kernel
theorem dX2_push_1 : decode cX2_push 1 = .ok (.getfield 17, 3) := by decide +kernel
theorem dX2_push_4 : decode cX2_push 4 = .ok (.aload_n 0, 1) := by decide +kernel
theorem dX2_push_5 : decode cX2_push 5 = .ok (.getfield 7, 3) := by decide +kernel
theorem dX2_push_8 : decode cX2_push 8 = .ok (.if_icmp .ne 17, 3) := by decide +kernel
theorem dX2_push_11 : decode cX2_push 11 = .ok (.aload_n 0, 1) := by decide +kernel
theorem dX2_push_12 : decode cX2_push 12 = .ok (.dup, 1) := by decide +kernel
theorem dX2_push_13 : decode cX2_push 13 = .ok (.getfield 20, 3) := by decide +kernel
theorem dX2_push_16 : decode cX2_push 16 = .ok (.iconst 1, 1) := by decide +kernel
theorem dX2_push_17 : decode cX2_push 17 = .ok (.iadd, 1) := by decide +kernel
theorem dX2_push_18 : decode cX2_push 18 = .ok (.putfield 20, 3) := by decide +kernel
theorem dX2_push_21 : decode cX2_push 21 = .ok (.aload_n 0, 1) := by decide +kernel
theorem dX2_push_22 : decode cX2_push 22 = .ok (.invokevirtual 23, 3) := by decide +kernel
theorem dX2_push_25 : decode cX2_push 25 = .ok (.aload_n 0, 1) := by decide +kernel
theorem dX2_push_26 : decode cX2_push 26 = .ok (.getfield 17, 3) := by decide +kernel
theorem dX2_push_29 : decode cX2_push 29 = .ok (.aload_n 0, 1) := by decide +kernel
theorem dX2_push_30 : decode cX2_push 30 = .ok (.getfield 7, 3) := by decide +kernel
theorem dX2_push_33 : decode cX2_push 33 = .ok (.if_icmp .ge 23, 3) := by decide +kernel
theorem dX2_push_36 : decode cX2_push 36 = .ok (.aload_n 0, 1) := by decide +kernel
theorem dX2_push_37 : decode cX2_push 37 = .ok (.getfield 13, 3) := by decide +kernel
theorem dX2_push_40 : decode cX2_push 40 = .ok (.aload_n 0, 1) := by decide +kernel
theorem dX2_push_41 : decode cX2_push 41 = .ok (.getfield 17, 3) := by decide +kernel
theorem dX2_push_44 : decode cX2_push 44 = .ok (.iload_n 1, 1) := by decide +kernel
theorem dX2_push_45 : decode cX2_push 45 = .ok (.iastore, 1) := by decide +kernel
theorem dX2_push_46 : decode cX2_push 46 = .ok (.aload_n 0, 1) := by decide +kernel
theorem dX2_push_47 : decode cX2_push 47 = .ok (.dup, 1) := by decide +kernel
theorem dX2_push_48 : decode cX2_push 48 = .ok (.getfield 17, 3) := by decide +kernel
theorem dX2_push_51 : decode cX2_push 51 = .ok (.iconst 1, 1) := by decide +kernel
theorem dX2_push_52 : decode cX2_push 52 = .ok (.iadd, 1) := by decide +kernel
theorem dX2_push_53 : decode cX2_push 53 = .ok (.putfield 17, 3) := by decide +kernel
theorem dX2_push_56 : decode cX2_push 56 = .ok (.return_, 1) := by decide +kernel
theorem dX2_loseLowest_0 : decode cX2_loseLowest 0 = .ok (.aload_n 0, 1) := by decide +kernel
theorem dX2_loseLowest_1 : decode cX2_loseLowest 1 = .ok (.getfield 17, 3) := by decide +kernel
theorem dX2_loseLowest_4 : decode cX2_loseLowest 4 = .ok (.ifCond .le 30, 3) := by decide +kernel
theorem dX2_loseLowest_7 : decode cX2_loseLowest 7 = .ok (.aload_n 0, 1) := by decide +kernel
theorem dX2_loseLowest_8 : decode cX2_loseLowest 8 = .ok (.dup, 1) := by decide +kernel
theorem dX2_loseLowest_9 : decode cX2_loseLowest 9 = .ok (.getfield 17, 3) := by decide +kernel
theorem dX2_loseLowest_12 : decode cX2_loseLowest 12 = .ok (.iconst 1, 1) := by decide +kernel
theorem dX2_loseLowest_13 : decode cX2_loseLowest 13 = .ok (.isub, 1) := by decide +kernel
theorem dX2_loseLowest_14 : decode cX2_loseLowest 14 = .ok (.putfield 17, 3) := by decide +kernel
theorem dX2_loseLowest_17 : decode cX2_loseLowest 17 = .ok (.aload_n 0, 1) := by decide +kernel
theorem dX2_loseLowest_18 : decode cX2_loseLowest 18 = .ok (.getfield 13, 3) := by decide +kernel
theorem dX2_loseLowest_21 : decode cX2_loseLowest 21 = .ok (.iconst 1, 1) := by decide +kernel
theorem dX2_loseLowest_22 : decode cX2_loseLowest 22 = .ok (.aload_n 0, 1) := by decide +kernel
theorem dX2_loseLowest_23 : decode cX2_loseLowest 23 = .ok (.getfield 13, 3) := by decide +kernel
theorem dX2_loseLowest_26 : decode cX2_loseLowest 26 = .ok (.iconst 0, 1) := by decide +kernel
theorem dX2_loseLowest_27 : decode cX2_loseLowest 27 = .ok (.aload_n 0, 1) := by decide +kernel
theorem dX2_loseLowest_28 : decode cX2_loseLowest 28 = .ok (.getfield 17, 3) := by decide +kernel
theorem dX2_loseLowest_31 : decode cX2_loseLowest 31 = .ok (.invokestatic 29, 3) := by decide +kernel
theorem dX2_loseLowest_34 : decode cX2_loseLowest 34 = .ok (.return_, 1) := by decide +kernel
theorem dX2_pop_0 : decode cX2_pop 0 = .ok (.aload_n 0, 1) := by decide +kernel
theorem dX2_pop_1 : decode cX2_pop 1 = .ok (.getfield 17, 3) := by decide +kernel
theorem dX2_pop_4 : decode cX2_pop 4 = .ok (.ifCond .ne 16, 3) := by decide +kernel
theorem dX2_pop_7 : decode cX2_pop 7 = .ok (.aload_n 0, 1) := by decide +kernel
theorem dX2_pop_8 : decode cX2_pop 8 = .ok (.dup, 1) := by decide +kernel
theorem dX2_pop_9 : decode cX2_pop 9 = .ok (.getfield 26, 3) := by decide +kernel
theorem dX2_pop_12 : decode cX2_pop 12 = .ok (.iconst 1, 1) := by decide +kernel
theorem dX2_pop_13 : decode cX2_pop 13 = .ok (.iadd, 1) := by decide +kernel
theorem dX2_pop_14 : decode cX2_pop 14 = .ok (.putfield 26, 3) := by decide +kernel
theorem dX2_pop_17 : decode cX2_pop 17 = .ok (.goto 13, 3) := by decide +kernel
theorem dX2_pop_20 : decode cX2_pop 20 = .ok (.aload_n 0, 1) := by decide +kernel
theorem dX2_pop_21 : decode cX2_pop 21 = .ok (.dup, 1) := by decide +kernel
theorem dX2_pop_22 : decode cX2_pop 22 = .ok (.getfield 17, 3) := by decide +kernel
theorem dX2_pop_25 : decode cX2_pop 25 = .ok (.iconst 1, 1) := by decide +kernel
theorem dX2_pop_26 : decode cX2_pop 26 = .ok (.isub, 1) := by decide +kernel
theorem dX2_pop_27 : decode cX2_pop 27 = .ok (.putfield 17, 3) := by decide +kernel
theorem dX2_pop_30 : decode cX2_pop 30 = .ok (.return_, 1) := by decide +kernel
theorem dL_check_0 : decode cL_check 0 = .ok (.aload 4, 2) := by decide +kernel
theorem dL_check_2 : decode cL_check 2 = .ok (.iconst 0, 1) := by decide +kernel
theorem dL_check_3 : decode cL_check 3 = .ok (.aload_n 0, 1) := by decide +kernel
theorem dL_check_4 : decode cL_check 4 = .ok (.iload_n 1, 1) := by decide +kernel
theorem dL_check_5 : decode cL_check 5 = .ok (.iload_n 2, 1) := by decide +kernel
theorem dL_check_6 : decode cL_check 6 = .ok (.iload_n 3, 1) := by decide +kernel
theorem dL_check_7 : decode cL_check 7 = .ok (.invokevirtual 15, 3) := by decide +kernel
theorem dL_check_10 : decode cL_check 10 = .ok (.i2l, 1) := by decide +kernel
theorem dL_check_11 : decode cL_check 11 = .ok (.lastore, 1) := by decide +kernel
theorem dL_check_12 : decode cL_check 12 = .ok (.goto 11, 3) := by decide +kernel
theorem dL_check_15 : decode cL_check 15 = .ok (.astore 5, 2) := by decide +kernel
theorem dL_check_17 : decode cL_check 17 = .ok (.iconst 1, 1) := by decide +kernel
theorem dL_check_18 : decode cL_check 18 = .ok (.ireturn, 1) := by decide +kernel
theorem dL_check_19 : decode cL_check 19 = .ok (.astore 5, 2) := by decide +kernel
theorem dL_check_21 : decode cL_check 21 = .ok (.iconst 2, 1) := by decide +kernel
theorem dL_check_22 : decode cL_check 22 = .ok (.ireturn, 1) := by decide +kernel
theorem dL_check_23 : decode cL_check 23 = .ok (.iconst 0, 1) := by decide +kernel
theorem dL_check_24 : decode cL_check 24 = .ok (.ireturn, 1) := by decide +kernel
theorem dX4_check_0 : decode cX4_check 0 = .ok (.iload_n 1, 1) := by decide +kernel
theorem dX4_check_1 : decode cX4_check 1 = .ok (.ifCond .lt 8, 3) := by decide +kernel
theorem dX4_check_4 : decode cX4_check 4 = .ok (.iload_n 1, 1) := by decide +kernel
theorem dX4_check_5 : decode cX4_check 5 = .ok (.iconst 3, 1) := by decide +kernel
theorem dX4_check_6 : decode cX4_check 6 = .ok (.if_icmp .le 13, 3) := by decide +kernel
theorem dX4_check_9 : decode cX4_check 9 = .ok (.new 79, 3) := by decide +kernel
theorem dX4_check_12 : decode cX4_check 12 = .ok (.dup, 1) := by decide +kernel
theorem dX4_check_13 : decode cX4_check 13 = .ok (.ldc 81, 2) := by decide +kernel
theorem dX4_check_15 : decode cX4_check 15 = .ok (.invokespecial 83, 3) := by decide +kernel
theorem dX4_check_18 : decode cX4_check 18 = .ok (.athrow, 1) := by decide +kernel
theorem dX4_check_19 : decode cX4_check 19 = .ok (.aload_n 0, 1) := by decide +kernel
theorem dX4_check_20 : decode cX4_check 20 = .ok (.getfield 43, 3) := by decide +kernel
theorem dX4_check_23 : decode cX4_check 23 = .ok (.getfield 58, 3) := by decide +kernel
theorem dX4_check_26 : decode cX4_check 26 = .ok (.ifCond .ne 13, 3) := by decide +kernel
theorem dX4_check_29 : decode cX4_check 29 = .ok (.new 84, 3) := by decide +kernel
theorem dX4_check_32 : decode cX4_check 32 = .ok (.dup, 1) := by decide +kernel
theorem dX4_check_33 : decode cX4_check 33 = .ok (.ldc 86, 2) := by decide +kernel
theorem dX4_check_35 : decode cX4_check 35 = .ok (.invokespecial 88, 3) := by decide +kernel
theorem dX4_check_38 : decode cX4_check 38 = .ok (.athrow, 1) := by decide +kernel
theorem dX4_check_39 : decode cX4_check 39 = .ok (.aload_n 0, 1) := by decide +kernel
theorem dX4_check_40 : decode cX4_check 40 = .ok (.getfield 43, 3) := by decide +kernel
theorem dX4_check_43 : decode cX4_check 43 = .ok (.iconst 0, 1) := by decide +kernel
theorem dX4_check_44 : decode cX4_check 44 = .ok (.invokevirtual 89, 3) := by decide +kernel
theorem dX4_check_47 : decode cX4_check 47 = .ok (.istore 4, 2) := by decide +kernel
theorem dX4_check_49 : decode cX4_check 49 = .ok (.iload_n 2, 1) := by decide +kernel
theorem dX4_check_50 : decode cX4_check 50 = .ok (.ifCond .eq 7, 3) := by decide +kernel
theorem dX4_check_53 : decode cX4_check 53 = .ok (.iload_n 3, 1) := by decide +kernel
theorem dX4_check_54 : decode cX4_check 54 = .ok (.goto 8, 3) := by decide +kernel
theorem dX4_check_57 : decode cX4_check 57 = .ok (.iload 4, 2) := by decide +kernel
theorem dX4_check_59 : decode cX4_check 59 = .ok (.invokestatic 92, 3) := by decide +kernel
theorem dX4_check_62 : decode cX4_check 62 = .ok (.istore 5, 2) := by decide +kernel
theorem dX4_check_64 : decode cX4_check 64 = .ok (.aload_n 0, 1) := by decide +kernel
theorem dX4_check_65 : decode cX4_check 65 = .ok (.getfield 43, 3) := by decide +kernel
theorem dX4_check_68 : decode cX4_check 68 = .ok (.iconst 0, 1) := by decide +kernel
theorem dX4_check_69 : decode cX4_check 69 = .ok (.invokevirtual 95, 3) := by decide +kernel
theorem dX4_check_72 : decode cX4_check 72 = .ok (.iload 5, 2) := by decide +kernel
theorem dX4_check_74 : decode cX4_check 74 = .ok (.if_icmp .ne 7, 3) := by decide +kernel
theorem dX4_check_77 : decode cX4_check 77 = .ok (.iconst 0, 1) := by decide +kernel
theorem dX4_check_78 : decode cX4_check 78 = .ok (.goto 11, 3) := by decide +kernel
theorem dX4_check_81 : decode cX4_check 81 = .ok (.aload_n 0, 1) := by decide +kernel
theorem dX4_check_82 : decode cX4_check 82 = .ok (.iload 4, 2) := by decide +kernel
theorem dX4_check_84 : decode cX4_check 84 = .ok (.iload_n 1, 1) := by decide +kernel
theorem dX4_check_85 : decode cX4_check 85 = .ok (.iload_n 2, 1) := by decide +kernel
theorem dX4_check_86 : decode cX4_check 86 = .ok (.invokevirtual 98, 3) := by decide +kernel
theorem dX4_check_89 : decode cX4_check 89 = .ok (.istore 6, 2) := by decide +kernel
theorem dX4_check_91 : decode cX4_check 91 = .ok (.iload 6, 2) := by decide +kernel
theorem dX4_check_93 : decode cX4_check 93 = .ok (.ifCond .ne 13, 3) := by decide +kernel
theorem dX4_check_96 : decode cX4_check 96 = .ok (.aload_n 0, 1) := by decide +kernel
theorem dX4_check_97 : decode cX4_check 97 = .ok (.getfield 43, 3) := by decide +kernel
theorem dX4_check_100 : decode cX4_check 100 = .ok (.invokevirtual 102, 3) := by decide +kernel
theorem dX4_check_103 : decode cX4_check 103 = .ok (.goto 11, 3) := by decide +kernel
theorem dX4_check_106 : decode cX4_check 106 = .ok (.aload_n 0, 1) := by decide +kernel
theorem dX4_check_107 : decode cX4_check 107 = .ok (.iload 4, 2) := by decide +kernel
theorem dX4_check_109 : decode cX4_check 109 = .ok (.iload_n 1, 1) := by decide +kernel
theorem dX4_check_110 : decode cX4_check 110 = .ok (.iload_n 2, 1) := by decide +kernel
theorem dX4_check_111 : decode cX4_check 111 = .ok (.invokevirtual 105, 3) := by decide +kernel
theorem dX4_check_114 : decode cX4_check 114 = .ok (.iload_n 2, 1) := by decide +kernel
theorem dX4_check_115 : decode cX4_check 115 = .ok (.ifCond .eq 11, 3) := by decide +kernel
theorem dX4_check_118 : decode cX4_check 118 = .ok (.aload_n 0, 1) := by decide +kernel
theorem dX4_check_119 : decode cX4_check 119 = .ok (.iload 4, 2) := by decide +kernel
theorem dX4_check_121 : decode cX4_check 121 = .ok (.iload_n 1, 1) := by decide +kernel
theorem dX4_check_122 : decode cX4_check 122 = .ok (.iload_n 3, 1) := by decide +kernel
theorem dX4_check_123 : decode cX4_check 123 = .ok (.invokevirtual 109, 3) := by decide +kernel
theorem dX4_check_126 : decode cX4_check 126 = .ok (.aload_n 0, 1) := by decide +kernel
theorem dX4_check_127 : decode cX4_check 127 = .ok (.dup, 1) := by decide +kernel
theorem dX4_check_128 : decode cX4_check 128 = .ok (.getfield 113, 3) := by decide +kernel
theorem dX4_check_131 : decode cX4_check 131 = .ok (.iconst 1, 1) := by decide +kernel
theorem dX4_check_132 : decode cX4_check 132 = .ok (.iadd, 1) := by decide +kernel
theorem dX4_check_133 : decode cX4_check 133 = .ok (.putfield 113, 3) := by decide +kernel
theorem dX4_check_136 : decode cX4_check 136 = .ok (.aload_n 0, 1) := by decide +kernel
theorem dX4_check_137 : decode cX4_check 137 = .ok (.getfield 47, 3) := by decide +kernel
theorem dX4_check_140 : decode cX4_check 140 = .ok (.iload 6, 2) := by decide +kernel
theorem dX4_check_142 : decode cX4_check 142 = .ok (.dup2, 1) := by decide +kernel
theorem dX4_check_143 : decode cX4_check 143 = .ok (.iaload, 1) := by decide +kernel
theorem dX4_check_144 : decode cX4_check 144 = .ok (.iconst 1, 1) := by decide +kernel
theorem dX4_check_145 : decode cX4_check 145 = .ok (.iadd, 1) := by decide +kernel
theorem dX4_check_146 : decode cX4_check 146 = .ok (.iastore, 1) := by decide +kernel
theorem dX4_check_147 : decode cX4_check 147 = .ok (.iload 6, 2) := by decide +kernel
theorem dX4_check_149 : decode cX4_check 149 = .ok (.ireturn, 1) := by decide +kernel
theorem dX1_placeAt_0 : decode cX1_placeAt 0 = .ok (.aload_n 0, 1) := by decide +kernel
theorem dX1_placeAt_1 : decode cX1_placeAt 1 = .ok (.getfield 15, 3) := by decide +kernel
theorem dX1_placeAt_4 : decode cX1_placeAt 4 = .ok (.aload_n 0, 1) := by decide +kernel
theorem dX1_placeAt_5 : decode cX1_placeAt 5 = .ok (.iload_n 1, 1) := by decide +kernel
theorem dX1_placeAt_6 : decode cX1_placeAt 6 = .ok (.invokevirtual 31, 3) := by decide +kernel
theorem dX1_placeAt_9 : decode cX1_placeAt 9 = .ok (.iaload, 1) := by decide +kernel
theorem dX1_placeAt_10 : decode cX1_placeAt 10 = .ok (.ireturn, 1) := by decide +kernel
theorem dX1_toldAt_0 : decode cX1_toldAt 0 = .ok (.aload_n 0, 1) := by decide +kernel
theorem dX1_toldAt_1 : decode cX1_toldAt 1 = .ok (.getfield 19, 3) := by decide +kernel
theorem dX1_toldAt_4 : decode cX1_toldAt 4 = .ok (.aload_n 0, 1) := by decide +kernel
theorem dX1_toldAt_5 : decode cX1_toldAt 5 = .ok (.iload_n 1, 1) := by decide +kernel
theorem dX1_toldAt_6 : decode cX1_toldAt 6 = .ok (.invokevirtual 31, 3) := by decide +kernel
theorem dX1_toldAt_9 : decode cX1_toldAt 9 = .ok (.iaload, 1) := by decide +kernel
theorem dX1_toldAt_10 : decode cX1_toldAt 10 = .ok (.ireturn, 1) := by decide +kernel
theorem dX4_causeOf_0 : decode cX4_causeOf 0 = .ok (.aload_n 0, 1) := by decide +kernel
theorem dX4_causeOf_1 : decode cX4_causeOf 1 = .ok (.getfield 18, 3) := by decide +kernel
theorem dX4_causeOf_4 : decode cX4_causeOf 4 = .ok (.iload_n 1, 1) := by decide +kernel
theorem dX4_causeOf_5 : decode cX4_causeOf 5 = .ok (.invokevirtual 51, 3) := by decide +kernel
theorem dX4_causeOf_8 : decode cX4_causeOf 8 = .ok (.istore 4, 2) := by decide +kernel
theorem dX4_causeOf_10 : decode cX4_causeOf 10 = .ok (.iload 4, 2) := by decide +kernel
theorem dX4_causeOf_12 : decode cX4_causeOf 12 = .ok (.iconst (-1), 1) := by decide +kernel
theorem dX4_causeOf_13 : decode cX4_causeOf 13 = .ok (.if_icmp .ne 9, 3) := by decide +kernel
theorem dX4_causeOf_16 : decode cX4_causeOf 16 = .ok (.iload_n 3, 1) := by decide +kernel
theorem dX4_causeOf_17 : decode cX4_causeOf 17 = .ok (.ifCond .eq 5, 3) := by decide +kernel
theorem dX4_causeOf_20 : decode cX4_causeOf 20 = .ok (.iconst 1, 1) := by decide +kernel
theorem dX4_causeOf_21 : decode cX4_causeOf 21 = .ok (.ireturn, 1) := by decide +kernel
theorem dX4_causeOf_22 : decode cX4_causeOf 22 = .ok (.iload 4, 2) := by decide +kernel
theorem dX4_causeOf_24 : decode cX4_causeOf 24 = .ok (.iconst (-1), 1) := by decide +kernel
theorem dX4_causeOf_25 : decode cX4_causeOf 25 = .ok (.if_icmp .eq 19, 3) := by decide +kernel
theorem dX4_causeOf_28 : decode cX4_causeOf 28 = .ok (.aload_n 0, 1) := by decide +kernel
theorem dX4_causeOf_29 : decode cX4_causeOf 29 = .ok (.getfield 18, 3) := by decide +kernel
theorem dX4_causeOf_32 : decode cX4_causeOf 32 = .ok (.getfield 73, 3) := by decide +kernel
theorem dX4_causeOf_35 : decode cX4_causeOf 35 = .ok (.iload 4, 2) := by decide +kernel
theorem dX4_causeOf_37 : decode cX4_causeOf 37 = .ok (.iaload, 1) := by decide +kernel
theorem dX4_causeOf_38 : decode cX4_causeOf 38 = .ok (.iload_n 2, 1) := by decide +kernel
theorem dX4_causeOf_39 : decode cX4_causeOf 39 = .ok (.if_icmp .eq 5, 3) := by decide +kernel
theorem dX4_causeOf_42 : decode cX4_causeOf 42 = .ok (.iconst 2, 1) := by decide +kernel
theorem dX4_causeOf_43 : decode cX4_causeOf 43 = .ok (.ireturn, 1) := by decide +kernel
theorem dX4_causeOf_44 : decode cX4_causeOf 44 = .ok (.iload_n 2, 1) := by decide +kernel
theorem dX4_causeOf_45 : decode cX4_causeOf 45 = .ok (.iconst 2, 1) := by decide +kernel
theorem dX4_causeOf_46 : decode cX4_causeOf 46 = .ok (.if_icmp .ne 5, 3) := by decide +kernel
theorem dX4_causeOf_49 : decode cX4_causeOf 49 = .ok (.iconst 3, 1) := by decide +kernel
theorem dX4_causeOf_50 : decode cX4_causeOf 50 = .ok (.ireturn, 1) := by decide +kernel
theorem dX4_causeOf_51 : decode cX4_causeOf 51 = .ok (.iload_n 2, 1) := by decide +kernel
theorem dX4_causeOf_52 : decode cX4_causeOf 52 = .ok (.iconst 3, 1) := by decide +kernel
theorem dX4_causeOf_53 : decode cX4_causeOf 53 = .ok (.if_icmp .ne 5, 3) := by decide +kernel
theorem dX4_causeOf_56 : decode cX4_causeOf 56 = .ok (.iconst 4, 1) := by decide +kernel
theorem dX4_causeOf_57 : decode cX4_causeOf 57 = .ok (.ireturn, 1) := by decide +kernel
theorem dX4_causeOf_58 : decode cX4_causeOf 58 = .ok (.iload_n 3, 1) := by decide +kernel
theorem dX4_causeOf_59 : decode cX4_causeOf 59 = .ok (.ifCond .eq 8, 3) := by decide +kernel
theorem dX4_causeOf_62 : decode cX4_causeOf 62 = .ok (.bipush 6, 2) := by decide +kernel
theorem dX4_causeOf_64 : decode cX4_causeOf 64 = .ok (.goto 4, 3) := by decide +kernel
theorem dX4_causeOf_67 : decode cX4_causeOf 67 = .ok (.iconst 5, 1) := by decide +kernel
theorem dX4_causeOf_68 : decode cX4_causeOf 68 = .ok (.ireturn, 1) := by decide +kernel
theorem dX1_dropOldest_0 : decode cX1_dropOldest 0 = .ok (.aload_n 0, 1) := by decide +kernel
theorem dX1_dropOldest_1 : decode cX1_dropOldest 1 = .ok (.aload_n 0, 1) := by decide +kernel
theorem dX1_dropOldest_2 : decode cX1_dropOldest 2 = .ok (.iconst 1, 1) := by decide +kernel
theorem dX1_dropOldest_3 : decode cX1_dropOldest 3 = .ok (.invokevirtual 31, 3) := by decide +kernel
theorem dX1_dropOldest_6 : decode cX1_dropOldest 6 = .ok (.putfield 44, 3) := by decide +kernel
theorem dX1_dropOldest_9 : decode cX1_dropOldest 9 = .ok (.aload_n 0, 1) := by decide +kernel
theorem dX1_dropOldest_10 : decode cX1_dropOldest 10 = .ok (.dup, 1) := by decide +kernel
theorem dX1_dropOldest_11 : decode cX1_dropOldest 11 = .ok (.getfield 28, 3) := by decide +kernel
theorem dX1_dropOldest_14 : decode cX1_dropOldest 14 = .ok (.iconst 1, 1) := by decide +kernel
theorem dX1_dropOldest_15 : decode cX1_dropOldest 15 = .ok (.isub, 1) := by decide +kernel
theorem dX1_dropOldest_16 : decode cX1_dropOldest 16 = .ok (.putfield 28, 3) := by decide +kernel
theorem dX1_dropOldest_19 : decode cX1_dropOldest 19 = .ok (.return_, 1) := by decide +kernel
theorem dX4_repair_0 : decode cX4_repair 0 = .ok (.aload_n 0, 1) := by decide +kernel
theorem dX4_repair_1 : decode cX4_repair 1 = .ok (.getfield 43, 3) := by decide +kernel
theorem dX4_repair_4 : decode cX4_repair 4 = .ok (.aload_n 0, 1) := by decide +kernel
theorem dX4_repair_5 : decode cX4_repair 5 = .ok (.getfield 36, 3) := by decide +kernel
theorem dX4_repair_8 : decode cX4_repair 8 = .ok (.invokevirtual 116, 3) := by decide +kernel
theorem dX4_repair_11 : decode cX4_repair 11 = .ok (.aload_n 0, 1) := by decide +kernel
theorem dX4_repair_12 : decode cX4_repair 12 = .ok (.dup, 1) := by decide +kernel
theorem dX4_repair_13 : decode cX4_repair 13 = .ok (.getfield 123, 3) := by decide +kernel
theorem dX4_repair_16 : decode cX4_repair 16 = .ok (.aload_n 0, 1) := by decide +kernel
theorem dX4_repair_17 : decode cX4_repair 17 = .ok (.getfield 43, 3) := by decide +kernel
theorem dX4_repair_20 : decode cX4_repair 20 = .ok (.getfield 58, 3) := by decide +kernel
theorem dX4_repair_23 : decode cX4_repair 23 = .ok (.iconst 1, 1) := by decide +kernel
theorem dX4_repair_24 : decode cX4_repair 24 = .ok (.isub, 1) := by decide +kernel
theorem dX4_repair_25 : decode cX4_repair 25 = .ok (.iadd, 1) := by decide +kernel
theorem dX4_repair_26 : decode cX4_repair 26 = .ok (.putfield 123, 3) := by decide +kernel
theorem dX4_repair_29 : decode cX4_repair 29 = .ok (.aload_n 0, 1) := by decide +kernel
theorem dX4_repair_30 : decode cX4_repair 30 = .ok (.getfield 43, 3) := by decide +kernel
theorem dX4_repair_33 : decode cX4_repair 33 = .ok (.invokevirtual 120, 3) := by decide +kernel
theorem dX4_repair_36 : decode cX4_repair 36 = .ok (.iload_n 3, 1) := by decide +kernel
theorem dX4_repair_37 : decode cX4_repair 37 = .ok (.ifCond .eq 9, 3) := by decide +kernel
theorem dX4_repair_40 : decode cX4_repair 40 = .ok (.aload_n 0, 1) := by decide +kernel
theorem dX4_repair_41 : decode cX4_repair 41 = .ok (.iload_n 2, 1) := by decide +kernel
theorem dX4_repair_42 : decode cX4_repair 42 = .ok (.iload_n 1, 1) := by decide +kernel
theorem dX4_repair_43 : decode cX4_repair 43 = .ok (.invokevirtual 76, 3) := by decide +kernel
theorem dX4_repair_46 : decode cX4_repair 46 = .ok (.return_, 1) := by decide +kernel
theorem dX4_update_0 : decode cX4_update 0 = .ok (.aload_n 0, 1) := by decide +kernel
theorem dX4_update_1 : decode cX4_update 1 = .ok (.getfield 18, 3) := by decide +kernel
theorem dX4_update_4 : decode cX4_update 4 = .ok (.iload_n 1, 1) := by decide +kernel
theorem dX4_update_5 : decode cX4_update 5 = .ok (.iload_n 2, 1) := by decide +kernel
theorem dX4_update_6 : decode cX4_update 6 = .ok (.iload_n 3, 1) := by decide +kernel
theorem dX4_update_7 : decode cX4_update 7 = .ok (.invokevirtual 187, 3) := by decide +kernel
theorem dX4_update_10 : decode cX4_update 10 = .ok (.iload_n 2, 1) := by decide +kernel
theorem dX4_update_11 : decode cX4_update 11 = .ok (.iconst 3, 1) := by decide +kernel
theorem dX4_update_12 : decode cX4_update 12 = .ok (.if_icmp .ne 12, 3) := by decide +kernel
theorem dX4_update_15 : decode cX4_update 15 = .ok (.aload_n 0, 1) := by decide +kernel
theorem dX4_update_16 : decode cX4_update 16 = .ok (.getfield 27, 3) := by decide +kernel
theorem dX4_update_19 : decode cX4_update 19 = .ok (.iload_n 1, 1) := by decide +kernel
theorem dX4_update_20 : decode cX4_update 20 = .ok (.iload_n 3, 1) := by decide +kernel
theorem dX4_update_21 : decode cX4_update 21 = .ok (.invokevirtual 190, 3) := by decide +kernel
theorem dX4_update_24 : decode cX4_update 24 = .ok (.aload_n 0, 1) := by decide +kernel
theorem dX4_update_25 : decode cX4_update 25 = .ok (.getfield 27, 3) := by decide +kernel
theorem dX4_update_28 : decode cX4_update 28 = .ok (.iload_n 3, 1) := by decide +kernel
theorem dX4_update_29 : decode cX4_update 29 = .ok (.invokevirtual 192, 3) := by decide +kernel
theorem dX4_update_32 : decode cX4_update 32 = .ok (.return_, 1) := by decide +kernel
theorem dX3_put_0 : decode cX3_put 0 = .ok (.aload_n 0, 1) := by decide +kernel
theorem dX3_put_1 : decode cX3_put 1 = .ok (.getfield 15, 3) := by decide +kernel
theorem dX3_put_4 : decode cX3_put 4 = .ok (.ifCond .ne 4, 3) := by decide +kernel
theorem dX3_put_7 : decode cX3_put 7 = .ok (.return_, 1) := by decide +kernel
theorem dX3_put_8 : decode cX3_put 8 = .ok (.aload_n 0, 1) := by decide +kernel
theorem dX3_put_9 : decode cX3_put 9 = .ok (.iload_n 1, 1) := by decide +kernel
theorem dX3_put_10 : decode cX3_put 10 = .ok (.invokevirtual 47, 3) := by decide +kernel
theorem dX3_put_13 : decode cX3_put 13 = .ok (.istore 4, 2) := by decide +kernel
theorem dX3_put_15 : decode cX3_put 15 = .ok (.iload 4, 2) := by decide +kernel
theorem dX3_put_17 : decode cX3_put 17 = .ok (.iconst (-1), 1) := by decide +kernel
theorem dX3_put_18 : decode cX3_put 18 = .ok (.if_icmp .ne 43, 3) := by decide +kernel
theorem dX3_put_21 : decode cX3_put 21 = .ok (.aload_n 0, 1) := by decide +kernel
theorem dX3_put_22 : decode cX3_put 22 = .ok (.iload_n 1, 1) := by decide +kernel
theorem dX3_put_23 : decode cX3_put 23 = .ok (.invokevirtual 50, 3) := by decide +kernel
theorem dX3_put_26 : decode cX3_put 26 = .ok (.istore 4, 2) := by decide +kernel
theorem dX3_put_28 : decode cX3_put 28 = .ok (.aload_n 0, 1) := by decide +kernel
theorem dX3_put_29 : decode cX3_put 29 = .ok (.getfield 21, 3) := by decide +kernel
theorem dX3_put_32 : decode cX3_put 32 = .ok (.iload 4, 2) := by decide +kernel
end
section
theorem dX3_put_34 : decode cX3_put 34 = .ok (.iaload, 1) := by decide +kernel
theorem dX3_put_35 : decode cX3_put 35 = .ok (.iconst (-1), 1) := by decide +kernel
theorem dX3_put_36 : decode cX3_put 36 = .ok (.if_icmp .ne 13, 3) := by decide +kernel
theorem dX3_put_39 : decode cX3_put 39 = .ok (.aload_n 0, 1) := by decide +kernel
theorem dX3_put_40 : decode cX3_put 40 = .ok (.dup, 1) := by decide +kernel
theorem dX3_put_41 : decode cX3_put 41 = .ok (.getfield 53, 3) := by decide +kernel
theorem dX3_put_44 : decode cX3_put 44 = .ok (.iconst 1, 1) := by decide +kernel
theorem dX3_put_45 : decode cX3_put 45 = .ok (.iadd, 1) := by decide +kernel
theorem dX3_put_46 : decode cX3_put 46 = .ok (.putfield 53, 3) := by decide +kernel
theorem dX3_put_49 : decode cX3_put 49 = .ok (.aload_n 0, 1) := by decide +kernel
theorem dX3_put_50 : decode cX3_put 50 = .ok (.getfield 21, 3) := by decide +kernel
theorem dX3_put_53 : decode cX3_put 53 = .ok (.iload 4, 2) := by decide +kernel
theorem dX3_put_55 : decode cX3_put 55 = .ok (.aload_n 0, 1) := by decide +kernel
theorem dX3_put_56 : decode cX3_put 56 = .ok (.iload_n 1, 1) := by decide +kernel
theorem dX3_put_57 : decode cX3_put 57 = .ok (.invokevirtual 44, 3) := by decide +kernel
theorem dX3_put_60 : decode cX3_put 60 = .ok (.iastore, 1) := by decide +kernel
theorem dX3_put_61 : decode cX3_put 61 = .ok (.aload_n 0, 1) := by decide +kernel
theorem dX3_put_62 : decode cX3_put 62 = .ok (.getfield 25, 3) := by decide +kernel
theorem dX3_put_65 : decode cX3_put 65 = .ok (.iload 4, 2) := by decide +kernel
theorem dX3_put_67 : decode cX3_put 67 = .ok (.iload_n 2, 1) := by decide +kernel
theorem dX3_put_68 : decode cX3_put 68 = .ok (.iastore, 1) := by decide +kernel
theorem dX3_put_69 : decode cX3_put 69 = .ok (.aload_n 0, 1) := by decide +kernel
theorem dX3_put_70 : decode cX3_put 70 = .ok (.getfield 28, 3) := by decide +kernel
theorem dX3_put_73 : decode cX3_put 73 = .ok (.iload 4, 2) := by decide +kernel
theorem dX3_put_75 : decode cX3_put 75 = .ok (.iload_n 3, 1) := by decide +kernel
theorem dX3_put_76 : decode cX3_put 76 = .ok (.iastore, 1) := by decide +kernel
theorem dX3_put_77 : decode cX3_put 77 = .ok (.aload_n 0, 1) := by decide +kernel
theorem dX3_put_78 : decode cX3_put 78 = .ok (.dup, 1) := by decide +kernel
theorem dX3_put_79 : decode cX3_put 79 = .ok (.getfield 56, 3) := by decide +kernel
theorem dX3_put_82 : decode cX3_put 82 = .ok (.iconst 1, 1) := by decide +kernel
theorem dX3_put_83 : decode cX3_put 83 = .ok (.iadd, 1) := by decide +kernel
theorem dX3_put_84 : decode cX3_put 84 = .ok (.putfield 56, 3) := by decide +kernel
theorem dX3_put_87 : decode cX3_put 87 = .ok (.aload_n 0, 1) := by decide +kernel
theorem dX3_put_88 : decode cX3_put 88 = .ok (.getfield 31, 3) := by decide +kernel
theorem dX3_put_91 : decode cX3_put 91 = .ok (.iload 4, 2) := by decide +kernel
theorem dX3_put_93 : decode cX3_put 93 = .ok (.aload_n 0, 1) := by decide +kernel
theorem dX3_put_94 : decode cX3_put 94 = .ok (.getfield 56, 3) := by decide +kernel
theorem dX3_put_97 : decode cX3_put 97 = .ok (.iastore, 1) := by decide +kernel
theorem dX3_put_98 : decode cX3_put 98 = .ok (.return_, 1) := by decide +kernel
theorem dX3_slotToFill_0 : decode cX3_slotToFill 0 = .ok (.aload_n 0, 1) := by decide +kernel
theorem dX3_slotToFill_1 : decode cX3_slotToFill 1 = .ok (.iload_n 1, 1) := by decide +kernel
theorem dX3_slotToFill_2 : decode cX3_slotToFill 2 = .ok (.invokevirtual 40, 3) := by decide +kernel
theorem dX3_slotToFill_5 : decode cX3_slotToFill 5 = .ok (.istore_n 2, 1) := by decide +kernel
theorem dX3_slotToFill_6 : decode cX3_slotToFill 6 = .ok (.iload_n 2, 1) := by decide +kernel
theorem dX3_slotToFill_7 : decode cX3_slotToFill 7 = .ok (.istore_n 3, 1) := by decide +kernel
theorem dX3_slotToFill_8 : decode cX3_slotToFill 8 = .ok (.iload_n 2, 1) := by decide +kernel
theorem dX3_slotToFill_9 : decode cX3_slotToFill 9 = .ok (.iconst 1, 1) := by decide +kernel
theorem dX3_slotToFill_10 : decode cX3_slotToFill 10 = .ok (.iadd, 1) := by decide +kernel
theorem dX3_slotToFill_11 : decode cX3_slotToFill 11 = .ok (.istore 4, 2) := by decide +kernel
theorem dX3_slotToFill_13 : decode cX3_slotToFill 13 = .ok (.iload 4, 2) := by decide +kernel
theorem dX3_slotToFill_15 : decode cX3_slotToFill 15 = .ok (.iload_n 2, 1) := by decide +kernel
theorem dX3_slotToFill_16 : decode cX3_slotToFill 16 = .ok (.aload_n 0, 1) := by decide +kernel
theorem dX3_slotToFill_17 : decode cX3_slotToFill 17 = .ok (.getfield 18, 3) := by decide +kernel
theorem dX3_slotToFill_20 : decode cX3_slotToFill 20 = .ok (.iadd, 1) := by decide +kernel
theorem dX3_slotToFill_21 : decode cX3_slotToFill 21 = .ok (.if_icmp .ge 28, 3) := by decide +kernel
theorem dX3_slotToFill_24 : decode cX3_slotToFill 24 = .ok (.aload_n 0, 1) := by decide +kernel
theorem dX3_slotToFill_25 : decode cX3_slotToFill 25 = .ok (.getfield 31, 3) := by decide +kernel
theorem dX3_slotToFill_28 : decode cX3_slotToFill 28 = .ok (.iload 4, 2) := by decide +kernel
theorem dX3_slotToFill_30 : decode cX3_slotToFill 30 = .ok (.iaload, 1) := by decide +kernel
theorem dX3_slotToFill_31 : decode cX3_slotToFill 31 = .ok (.aload_n 0, 1) := by decide +kernel
theorem dX3_slotToFill_32 : decode cX3_slotToFill 32 = .ok (.getfield 31, 3) := by decide +kernel
theorem dX3_slotToFill_35 : decode cX3_slotToFill 35 = .ok (.iload_n 3, 1) := by decide +kernel
theorem dX3_slotToFill_36 : decode cX3_slotToFill 36 = .ok (.iaload, 1) := by decide +kernel
theorem dX3_slotToFill_37 : decode cX3_slotToFill 37 = .ok (.if_icmp .ge 6, 3) := by decide +kernel
theorem dX3_slotToFill_40 : decode cX3_slotToFill 40 = .ok (.iload 4, 2) := by decide +kernel
theorem dX3_slotToFill_42 : decode cX3_slotToFill 42 = .ok (.istore_n 3, 1) := by decide +kernel
theorem dX3_slotToFill_43 : decode cX3_slotToFill 43 = .ok (.iinc 4 1, 3) := by decide +kernel
theorem dX3_slotToFill_46 : decode cX3_slotToFill 46 = .ok (.goto (-33), 3) := by decide +kernel
theorem dX3_slotToFill_49 : decode cX3_slotToFill 49 = .ok (.iload_n 3, 1) := by decide +kernel
theorem dX3_slotToFill_50 : decode cX3_slotToFill 50 = .ok (.ireturn, 1) := by decide +kernel
theorem dX0_put_0 : decode cX0_put 0 = .ok (.aload_n 0, 1) := by decide +kernel
theorem dX0_put_1 : decode cX0_put 1 = .ok (.iload_n 1, 1) := by decide +kernel
theorem dX0_put_2 : decode cX0_put 2 = .ok (.invokevirtual 24, 3) := by decide +kernel
theorem dX0_put_5 : decode cX0_put 5 = .ok (.istore_n 3, 1) := by decide +kernel
theorem dX0_put_6 : decode cX0_put 6 = .ok (.aload_n 0, 1) := by decide +kernel
theorem dX0_put_7 : decode cX0_put 7 = .ok (.getfield 9, 3) := by decide +kernel
theorem dX0_put_10 : decode cX0_put 10 = .ok (.iload_n 3, 1) := by decide +kernel
theorem dX0_put_11 : decode cX0_put 11 = .ok (.iload_n 1, 1) := by decide +kernel
theorem dX0_put_12 : decode cX0_put 12 = .ok (.invokestatic 28, 3) := by decide +kernel
theorem dX0_put_15 : decode cX0_put 15 = .ok (.iastore, 1) := by decide +kernel
theorem dX0_put_16 : decode cX0_put 16 = .ok (.aload_n 0, 1) := by decide +kernel
theorem dX0_put_17 : decode cX0_put 17 = .ok (.getfield 15, 3) := by decide +kernel
theorem dX0_put_20 : decode cX0_put 20 = .ok (.iload_n 3, 1) := by decide +kernel
theorem dX0_put_21 : decode cX0_put 21 = .ok (.iload_n 2, 1) := by decide +kernel
theorem dX0_put_22 : decode cX0_put 22 = .ok (.iastore, 1) := by decide +kernel
theorem dX0_put_23 : decode cX0_put 23 = .ok (.return_, 1) := by decide +kernel
theorem dX0_remember_0 : decode cX0_remember 0 = .ok (.aload_n 0, 1) := by decide +kernel
theorem dX0_remember_1 : decode cX0_remember 1 = .ok (.aload_n 0, 1) := by decide +kernel
theorem dX0_remember_2 : decode cX0_remember 2 = .ok (.getfield 31, 3) := by decide +kernel
theorem dX0_remember_5 : decode cX0_remember 5 = .ok (.iconst 3, 1) := by decide +kernel
theorem dX0_remember_6 : decode cX0_remember 6 = .ok (.ishl, 1) := by decide +kernel
theorem dX0_remember_7 : decode cX0_remember 7 = .ok (.iload_n 1, 1) := by decide +kernel
theorem dX0_remember_8 : decode cX0_remember 8 = .ok (.iconst 2, 1) := by decide +kernel
theorem dX0_remember_9 : decode cX0_remember 9 = .ok (.iushr, 1) := by decide +kernel
theorem dX0_remember_10 : decode cX0_remember 10 = .ok (.ixor, 1) := by decide +kernel
theorem dX0_remember_11 : decode cX0_remember 11 = .ok (.ldc 35, 2) := by decide +kernel
theorem dX0_remember_13 : decode cX0_remember 13 = .ok (.iand, 1) := by decide +kernel
theorem dX0_remember_14 : decode cX0_remember 14 = .ok (.putfield 31, 3) := by decide +kernel
theorem dX0_remember_17 : decode cX0_remember 17 = .ok (.return_, 1) := by decide +kernel
theorem dL_entry_0 : decode cL_entry 0 = .ok (.aload 4, 2) := by decide +kernel
theorem dL_entry_2 : decode cL_entry 2 = .ok (.iconst 0, 1) := by decide +kernel
theorem dL_entry_3 : decode cL_entry 3 = .ok (.aload_n 0, 1) := by decide +kernel
theorem dL_entry_4 : decode cL_entry 4 = .ok (.iload_n 1, 1) := by decide +kernel
theorem dL_entry_5 : decode cL_entry 5 = .ok (.iload_n 2, 1) := by decide +kernel
theorem dL_entry_6 : decode cL_entry 6 = .ok (.iload_n 3, 1) := by decide +kernel
theorem dL_entry_7 : decode cL_entry 7 = .ok (.invokevirtual 23, 3) := by decide +kernel
theorem dL_entry_10 : decode cL_entry 10 = .ok (.i2l, 1) := by decide +kernel
theorem dL_entry_11 : decode cL_entry 11 = .ok (.lastore, 1) := by decide +kernel
theorem dL_entry_12 : decode cL_entry 12 = .ok (.goto 7, 3) := by decide +kernel
theorem dL_entry_15 : decode cL_entry 15 = .ok (.astore 5, 2) := by decide +kernel
theorem dL_entry_17 : decode cL_entry 17 = .ok (.iconst 1, 1) := by decide +kernel
theorem dL_entry_18 : decode cL_entry 18 = .ok (.ireturn, 1) := by decide +kernel
theorem dL_entry_19 : decode cL_entry 19 = .ok (.iconst 0, 1) := by decide +kernel
theorem dL_entry_20 : decode cL_entry 20 = .ok (.ireturn, 1) := by decide +kernel
theorem dX4_entry_0 : decode cX4_entry 0 = .ok (.iload_n 1, 1) := by decide +kernel
theorem dX4_entry_1 : decode cX4_entry 1 = .ok (.ifCond .lt 29, 3) := by decide +kernel
theorem dX4_entry_4 : decode cX4_entry 4 = .ok (.iload_n 1, 1) := by decide +kernel
theorem dX4_entry_5 : decode cX4_entry 5 = .ok (.aload_n 0, 1) := by decide +kernel
theorem dX4_entry_6 : decode cX4_entry 6 = .ok (.getfield 18, 3) := by decide +kernel
theorem dX4_entry_9 : decode cX4_entry 9 = .ok (.getfield 126, 3) := by decide +kernel
theorem dX4_entry_12 : decode cX4_entry 12 = .ok (.if_icmp .ge 18, 3) := by decide +kernel
theorem dX4_entry_15 : decode cX4_entry 15 = .ok (.iload_n 2, 1) := by decide +kernel
theorem dX4_entry_16 : decode cX4_entry 16 = .ok (.ifCond .lt 14, 3) := by decide +kernel
theorem dX4_entry_19 : decode cX4_entry 19 = .ok (.iload_n 2, 1) := by decide +kernel
theorem dX4_entry_20 : decode cX4_entry 20 = .ok (.aload_n 0, 1) := by decide +kernel
theorem dX4_entry_21 : decode cX4_entry 21 = .ok (.getfield 18, 3) := by decide +kernel
theorem dX4_entry_24 : decode cX4_entry 24 = .ok (.getfield 129, 3) := by decide +kernel
theorem dX4_entry_27 : decode cX4_entry 27 = .ok (.if_icmp .lt 13, 3) := by decide +kernel
theorem dX4_entry_30 : decode cX4_entry 30 = .ok (.new 132, 3) := by decide +kernel
theorem dX4_entry_33 : decode cX4_entry 33 = .ok (.dup, 1) := by decide +kernel
theorem dX4_entry_34 : decode cX4_entry 34 = .ok (.ldc 134, 2) := by decide +kernel
theorem dX4_entry_36 : decode cX4_entry 36 = .ok (.invokespecial 136, 3) := by decide +kernel
theorem dX4_entry_39 : decode cX4_entry 39 = .ok (.athrow, 1) := by decide +kernel
theorem dX4_entry_40 : decode cX4_entry 40 = .ok (.iload_n 3, 1) := by decide +kernel
theorem dX4_entry_41 : decode cX4_entry 41 = .ok (.ifCond .lt 8, 3) := by decide +kernel
theorem dX4_entry_44 : decode cX4_entry 44 = .ok (.iload_n 3, 1) := by decide +kernel
theorem dX4_entry_45 : decode cX4_entry 45 = .ok (.iconst 2, 1) := by decide +kernel
theorem dX4_entry_46 : decode cX4_entry 46 = .ok (.if_icmp .le 13, 3) := by decide +kernel
theorem dX4_entry_49 : decode cX4_entry 49 = .ok (.new 132, 3) := by decide +kernel
theorem dX4_entry_52 : decode cX4_entry 52 = .ok (.dup, 1) := by decide +kernel
theorem dX4_entry_53 : decode cX4_entry 53 = .ok (.ldc 137, 2) := by decide +kernel
theorem dX4_entry_55 : decode cX4_entry 55 = .ok (.invokespecial 136, 3) := by decide +kernel
theorem dX4_entry_58 : decode cX4_entry 58 = .ok (.athrow, 1) := by decide +kernel
theorem dX4_entry_59 : decode cX4_entry 59 = .ok (.iload_n 1, 1) := by decide +kernel
theorem dX4_entry_60 : decode cX4_entry 60 = .ok (.aload_n 0, 1) := by decide +kernel
theorem dX4_entry_61 : decode cX4_entry 61 = .ok (.getfield 18, 3) := by decide +kernel
theorem dX4_entry_64 : decode cX4_entry 64 = .ok (.getfield 129, 3) := by decide +kernel
theorem dX4_entry_67 : decode cX4_entry 67 = .ok (.imul, 1) := by decide +kernel
theorem dX4_entry_68 : decode cX4_entry 68 = .ok (.iload_n 2, 1) := by decide +kernel
theorem dX4_entry_69 : decode cX4_entry 69 = .ok (.iadd, 1) := by decide +kernel
theorem dX4_entry_70 : decode cX4_entry 70 = .ok (.istore 4, 2) := by decide +kernel
theorem dX4_entry_72 : decode cX4_entry 72 = .ok (.iload_n 3, 1) := by decide +kernel
theorem dX4_entry_73 : decode cX4_entry 73 = .ok (.ifCond .ne 14, 3) := by decide +kernel
theorem dX4_entry_76 : decode cX4_entry 76 = .ok (.aload_n 0, 1) := by decide +kernel
theorem dX4_entry_77 : decode cX4_entry 77 = .ok (.getfield 18, 3) := by decide +kernel
theorem dX4_entry_80 : decode cX4_entry 80 = .ok (.getfield 139, 3) := by decide +kernel
theorem dX4_entry_83 : decode cX4_entry 83 = .ok (.iload 4, 2) := by decide +kernel
theorem dX4_entry_85 : decode cX4_entry 85 = .ok (.iaload, 1) := by decide +kernel
theorem dX4_entry_86 : decode cX4_entry 86 = .ok (.ireturn, 1) := by decide +kernel
theorem dX4_entry_87 : decode cX4_entry 87 = .ok (.iload_n 3, 1) := by decide +kernel
theorem dX4_entry_88 : decode cX4_entry 88 = .ok (.iconst 1, 1) := by decide +kernel
theorem dX4_entry_89 : decode cX4_entry 89 = .ok (.if_icmp .ne 16, 3) := by decide +kernel
theorem dX4_entry_92 : decode cX4_entry 92 = .ok (.aload_n 0, 1) := by decide +kernel
theorem dX4_entry_93 : decode cX4_entry 93 = .ok (.getfield 18, 3) := by decide +kernel
theorem dX4_entry_96 : decode cX4_entry 96 = .ok (.getfield 73, 3) := by decide +kernel
theorem dX4_entry_99 : decode cX4_entry 99 = .ok (.iload 4, 2) := by decide +kernel
theorem dX4_entry_101 : decode cX4_entry 101 = .ok (.iaload, 1) := by decide +kernel
theorem dX4_entry_102 : decode cX4_entry 102 = .ok (.goto 13, 3) := by decide +kernel
theorem dX4_entry_105 : decode cX4_entry 105 = .ok (.aload_n 0, 1) := by decide +kernel
theorem dX4_entry_106 : decode cX4_entry 106 = .ok (.getfield 18, 3) := by decide +kernel
theorem dX4_entry_109 : decode cX4_entry 109 = .ok (.getfield 142, 3) := by decide +kernel
theorem dX4_entry_112 : decode cX4_entry 112 = .ok (.iload 4, 2) := by decide +kernel
theorem dX4_entry_114 : decode cX4_entry 114 = .ok (.iaload, 1) := by decide +kernel
theorem dX4_entry_115 : decode cX4_entry 115 = .ok (.ireturn, 1) := by decide +kernel
theorem dL_row_0 : decode cL_row 0 = .ok (.aload_n 3, 1) := by decide +kernel
theorem dL_row_1 : decode cL_row 1 = .ok (.iconst 0, 1) := by decide +kernel
theorem dL_row_2 : decode cL_row 2 = .ok (.aload_n 0, 1) := by decide +kernel
theorem dL_row_3 : decode cL_row 3 = .ok (.iload_n 1, 1) := by decide +kernel
theorem dL_row_4 : decode cL_row 4 = .ok (.iload_n 2, 1) := by decide +kernel
theorem dL_row_5 : decode cL_row 5 = .ok (.invokevirtual 29, 3) := by decide +kernel
theorem dL_row_8 : decode cL_row 8 = .ok (.i2l, 1) := by decide +kernel
theorem dL_row_9 : decode cL_row 9 = .ok (.lastore, 1) := by decide +kernel
theorem dL_row_10 : decode cL_row 10 = .ok (.goto 7, 3) := by decide +kernel
theorem dL_row_13 : decode cL_row 13 = .ok (.astore 4, 2) := by decide +kernel
theorem dL_row_15 : decode cL_row 15 = .ok (.iconst 1, 1) := by decide +kernel
theorem dL_row_16 : decode cL_row 16 = .ok (.ireturn, 1) := by decide +kernel
theorem dL_row_17 : decode cL_row 17 = .ok (.iconst 0, 1) := by decide +kernel
theorem dL_row_18 : decode cL_row 18 = .ok (.ireturn, 1) := by decide +kernel
theorem dX4_row_0 : decode cX4_row 0 = .ok (.iload_n 1, 1) := by decide +kernel
theorem dX4_row_1 : decode cX4_row 1 = .ok (.ifCond .lt 9, 3) := by decide +kernel
theorem dX4_row_4 : decode cX4_row 4 = .ok (.iload_n 1, 1) := by decide +kernel
theorem dX4_row_5 : decode cX4_row 5 = .ok (.bipush 64, 2) := by decide +kernel
theorem dX4_row_7 : decode cX4_row 7 = .ok (.if_icmp .lt 13, 3) := by decide +kernel
theorem dX4_row_10 : decode cX4_row 10 = .ok (.new 132, 3) := by decide +kernel
theorem dX4_row_13 : decode cX4_row 13 = .ok (.dup, 1) := by decide +kernel
theorem dX4_row_14 : decode cX4_row 14 = .ok (.ldc 145, 2) := by decide +kernel
theorem dX4_row_16 : decode cX4_row 16 = .ok (.invokespecial 136, 3) := by decide +kernel
theorem dX4_row_19 : decode cX4_row 19 = .ok (.athrow, 1) := by decide +kernel
theorem dX4_row_20 : decode cX4_row 20 = .ok (.iload_n 2, 1) := by decide +kernel
theorem dX4_row_21 : decode cX4_row 21 = .ok (.ifCond .lt 8, 3) := by decide +kernel
theorem dX4_row_24 : decode cX4_row 24 = .ok (.iload_n 2, 1) := by decide +kernel
theorem dX4_row_25 : decode cX4_row 25 = .ok (.iconst 1, 1) := by decide +kernel
theorem dX4_row_26 : decode cX4_row 26 = .ok (.if_icmp .le 13, 3) := by decide +kernel
theorem dX4_row_29 : decode cX4_row 29 = .ok (.new 132, 3) := by decide +kernel
theorem dX4_row_32 : decode cX4_row 32 = .ok (.dup, 1) := by decide +kernel
theorem dX4_row_33 : decode cX4_row 33 = .ok (.ldc 137, 2) := by decide +kernel
theorem dX4_row_35 : decode cX4_row 35 = .ok (.invokespecial 136, 3) := by decide +kernel
theorem dX4_row_38 : decode cX4_row 38 = .ok (.athrow, 1) := by decide +kernel
theorem dX4_row_39 : decode cX4_row 39 = .ok (.iload_n 2, 1) := by decide +kernel
theorem dX4_row_40 : decode cX4_row 40 = .ok (.ifCond .ne 15, 3) := by decide +kernel
theorem dX4_row_43 : decode cX4_row 43 = .ok (.aload_n 0, 1) := by decide +kernel
theorem dX4_row_44 : decode cX4_row 44 = .ok (.getfield 27, 3) := by decide +kernel
theorem dX4_row_47 : decode cX4_row 47 = .ok (.getfield 147, 3) := by decide +kernel
theorem dX4_row_50 : decode cX4_row 50 = .ok (.iload_n 1, 1) := by decide +kernel
theorem dX4_row_51 : decode cX4_row 51 = .ok (.iaload, 1) := by decide +kernel
theorem dX4_row_52 : decode cX4_row 52 = .ok (.goto 12, 3) := by decide +kernel
theorem dX4_row_55 : decode cX4_row 55 = .ok (.aload_n 0, 1) := by decide +kernel
theorem dX4_row_56 : decode cX4_row 56 = .ok (.getfield 27, 3) := by decide +kernel
theorem dX4_row_59 : decode cX4_row 59 = .ok (.getfield 148, 3) := by decide +kernel
theorem dX4_row_62 : decode cX4_row 62 = .ok (.iload_n 1, 1) := by decide +kernel
theorem dX4_row_63 : decode cX4_row 63 = .ok (.iaload, 1) := by decide +kernel
theorem dX4_row_64 : decode cX4_row 64 = .ok (.ireturn, 1) := by decide +kernel
theorem dL_ring_0 : decode cL_ring 0 = .ok (.aload_n 2, 1) := by decide +kernel
theorem dL_ring_1 : decode cL_ring 1 = .ok (.iconst 0, 1) := by decide +kernel
theorem dL_ring_2 : decode cL_ring 2 = .ok (.aload_n 0, 1) := by decide +kernel
theorem dL_ring_3 : decode cL_ring 3 = .ok (.iload_n 1, 1) := by decide +kernel
theorem dL_ring_4 : decode cL_ring 4 = .ok (.invokevirtual 33, 3) := by decide +kernel
theorem dL_ring_7 : decode cL_ring 7 = .ok (.i2l, 1) := by decide +kernel
theorem dL_ring_8 : decode cL_ring 8 = .ok (.lastore, 1) := by decide +kernel
theorem dL_ring_9 : decode cL_ring 9 = .ok (.goto 6, 3) := by decide +kernel
theorem dL_ring_12 : decode cL_ring 12 = .ok (.astore_n 3, 1) := by decide +kernel
theorem dL_ring_13 : decode cL_ring 13 = .ok (.iconst 1, 1) := by decide +kernel
theorem dL_ring_14 : decode cL_ring 14 = .ok (.ireturn, 1) := by decide +kernel
theorem dL_ring_15 : decode cL_ring 15 = .ok (.iconst 0, 1) := by decide +kernel
theorem dL_ring_16 : decode cL_ring 16 = .ok (.ireturn, 1) := by decide +kernel
theorem dX4_ring_0 : decode cX4_ring 0 = .ok (.iload_n 1, 1) := by decide +kernel
theorem dX4_ring_1 : decode cX4_ring 1 = .ok (.ifCond .lt 14, 3) := by decide +kernel
theorem dX4_ring_4 : decode cX4_ring 4 = .ok (.iload_n 1, 1) := by decide +kernel
theorem dX4_ring_5 : decode cX4_ring 5 = .ok (.aload_n 0, 1) := by decide +kernel
theorem dX4_ring_6 : decode cX4_ring 6 = .ok (.getfield 36, 3) := by decide +kernel
theorem dX4_ring_9 : decode cX4_ring 9 = .ok (.getfield 149, 3) := by decide +kernel
theorem dX4_ring_12 : decode cX4_ring 12 = .ok (.if_icmp .lt 13, 3) := by decide +kernel
theorem dX4_ring_15 : decode cX4_ring 15 = .ok (.new 132, 3) := by decide +kernel
theorem dX4_ring_18 : decode cX4_ring 18 = .ok (.dup, 1) := by decide +kernel
theorem dX4_ring_19 : decode cX4_ring 19 = .ok (.ldc 152, 2) := by decide +kernel
theorem dX4_ring_21 : decode cX4_ring 21 = .ok (.invokespecial 136, 3) := by decide +kernel
theorem dX4_ring_24 : decode cX4_ring 24 = .ok (.athrow, 1) := by decide +kernel
theorem dX4_ring_25 : decode cX4_ring 25 = .ok (.aload_n 0, 1) := by decide +kernel
theorem dX4_ring_26 : decode cX4_ring 26 = .ok (.getfield 36, 3) := by decide +kernel
theorem dX4_ring_29 : decode cX4_ring 29 = .ok (.iload_n 1, 1) := by decide +kernel
theorem dX4_ring_30 : decode cX4_ring 30 = .ok (.invokevirtual 154, 3) := by decide +kernel
theorem dX4_ring_33 : decode cX4_ring 33 = .ok (.ireturn, 1) := by decide +kernel
theorem dL_queued_0 : decode cL_queued 0 = .ok (.aload_n 3, 1) := by decide +kernel
theorem dL_queued_1 : decode cL_queued 1 = .ok (.iconst 0, 1) := by decide +kernel
theorem dL_queued_2 : decode cL_queued 2 = .ok (.aload_n 0, 1) := by decide +kernel
theorem dL_queued_3 : decode cL_queued 3 = .ok (.iload_n 1, 1) := by decide +kernel
theorem dL_queued_4 : decode cL_queued 4 = .ok (.iload_n 2, 1) := by decide +kernel
theorem dL_queued_5 : decode cL_queued 5 = .ok (.invokevirtual 36, 3) := by decide +kernel
theorem dL_queued_8 : decode cL_queued 8 = .ok (.i2l, 1) := by decide +kernel
theorem dL_queued_9 : decode cL_queued 9 = .ok (.lastore, 1) := by decide +kernel
theorem dL_queued_10 : decode cL_queued 10 = .ok (.goto 7, 3) := by decide +kernel
theorem dL_queued_13 : decode cL_queued 13 = .ok (.astore 4, 2) := by decide +kernel
theorem dL_queued_15 : decode cL_queued 15 = .ok (.iconst 1, 1) := by decide +kernel
theorem dL_queued_16 : decode cL_queued 16 = .ok (.ireturn, 1) := by decide +kernel
theorem dL_queued_17 : decode cL_queued 17 = .ok (.iconst 0, 1) := by decide +kernel
theorem dL_queued_18 : decode cL_queued 18 = .ok (.ireturn, 1) := by decide +kernel
theorem dX4_queued_0 : decode cX4_queued 0 = .ok (.iload_n 1, 1) := by decide +kernel
theorem dX4_queued_1 : decode cX4_queued 1 = .ok (.ifCond .lt 14, 3) := by decide +kernel
theorem dX4_queued_4 : decode cX4_queued 4 = .ok (.iload_n 1, 1) := by decide +kernel
theorem dX4_queued_5 : decode cX4_queued 5 = .ok (.aload_n 0, 1) := by decide +kernel
theorem dX4_queued_6 : decode cX4_queued 6 = .ok (.getfield 43, 3) := by decide +kernel
theorem dX4_queued_9 : decode cX4_queued 9 = .ok (.getfield 58, 3) := by decide +kernel
theorem dX4_queued_12 : decode cX4_queued 12 = .ok (.if_icmp .lt 13, 3) := by decide +kernel
theorem dX4_queued_15 : decode cX4_queued 15 = .ok (.new 132, 3) := by decide +kernel
theorem dX4_queued_18 : decode cX4_queued 18 = .ok (.dup, 1) := by decide +kernel
theorem dX4_queued_19 : decode cX4_queued 19 = .ok (.ldc 157, 2) := by decide +kernel
theorem dX4_queued_21 : decode cX4_queued 21 = .ok (.invokespecial 136, 3) := by decide +kernel
theorem dX4_queued_24 : decode cX4_queued 24 = .ok (.athrow, 1) := by decide +kernel
theorem dX4_queued_25 : decode cX4_queued 25 = .ok (.iload_n 2, 1) := by decide +kernel
theorem dX4_queued_26 : decode cX4_queued 26 = .ok (.ifCond .lt 8, 3) := by decide +kernel
theorem dX4_queued_29 : decode cX4_queued 29 = .ok (.iload_n 2, 1) := by decide +kernel
theorem dX4_queued_30 : decode cX4_queued 30 = .ok (.iconst 1, 1) := by decide +kernel
theorem dX4_queued_31 : decode cX4_queued 31 = .ok (.if_icmp .le 13, 3) := by decide +kernel
theorem dX4_queued_34 : decode cX4_queued 34 = .ok (.new 132, 3) := by decide +kernel
theorem dX4_queued_37 : decode cX4_queued 37 = .ok (.dup, 1) := by decide +kernel
theorem dX4_queued_38 : decode cX4_queued 38 = .ok (.ldc 137, 2) := by decide +kernel
theorem dX4_queued_40 : decode cX4_queued 40 = .ok (.invokespecial 136, 3) := by decide +kernel
theorem dX4_queued_43 : decode cX4_queued 43 = .ok (.athrow, 1) := by decide +kernel
theorem dX4_queued_44 : decode cX4_queued 44 = .ok (.iload_n 2, 1) := by decide +kernel
theorem dX4_queued_45 : decode cX4_queued 45 = .ok (.ifCond .ne 14, 3) := by decide +kernel
theorem dX4_queued_48 : decode cX4_queued 48 = .ok (.aload_n 0, 1) := by decide +kernel
theorem dX4_queued_49 : decode cX4_queued 49 = .ok (.getfield 43, 3) := by decide +kernel
theorem dX4_queued_52 : decode cX4_queued 52 = .ok (.iload_n 1, 1) := by decide +kernel
theorem dX4_queued_53 : decode cX4_queued 53 = .ok (.invokevirtual 89, 3) := by decide +kernel
theorem dX4_queued_56 : decode cX4_queued 56 = .ok (.goto 11, 3) := by decide +kernel
theorem dX4_queued_59 : decode cX4_queued 59 = .ok (.aload_n 0, 1) := by decide +kernel
theorem dX4_queued_60 : decode cX4_queued 60 = .ok (.getfield 43, 3) := by decide +kernel
theorem dX4_queued_63 : decode cX4_queued 63 = .ok (.iload_n 1, 1) := by decide +kernel
theorem dX4_queued_64 : decode cX4_queued 64 = .ok (.invokevirtual 95, 3) := by decide +kernel
theorem dX4_queued_67 : decode cX4_queued 67 = .ok (.ireturn, 1) := by decide +kernel
theorem dX5_init_0 : decode cX5_init 0 = .ok (.aload_n 0, 1) := by decide +kernel
theorem dX5_init_1 : decode cX5_init 1 = .ok (.invokespecial 1, 3) := by decide +kernel
theorem dX5_init_4 : decode cX5_init 4 = .ok (.aload_n 0, 1) := by decide +kernel
theorem dX5_init_5 : decode cX5_init 5 = .ok (.bipush 64, 2) := by decide +kernel
theorem dX5_init_7 : decode cX5_init 7 = .ok (.newarray .boolean, 2) := by decide +kernel
theorem dX5_init_9 : decode cX5_init 9 = .ok (.putfield 7, 3) := by decide +kernel
theorem dX5_init_12 : decode cX5_init 12 = .ok (.aload_n 0, 1) := by decide +kernel
theorem dX5_init_13 : decode cX5_init 13 = .ok (.bipush 64, 2) := by decide +kernel
theorem dX5_init_15 : decode cX5_init 15 = .ok (.newarray .int, 2) := by decide +kernel
theorem dX5_init_17 : decode cX5_init 17 = .ok (.putfield 13, 3) := by decide +kernel
theorem dX5_init_20 : decode cX5_init 20 = .ok (.aload_n 0, 1) := by decide +kernel
theorem dX5_init_21 : decode cX5_init 21 = .ok (.bipush 64, 2) := by decide +kernel
theorem dX5_init_23 : decode cX5_init 23 = .ok (.newarray .int, 2) := by decide +kernel
theorem dX5_init_25 : decode cX5_init 25 = .ok (.putfield 17, 3) := by decide +kernel
theorem dX5_init_28 : decode cX5_init 28 = .ok (.aload_n 0, 1) := by decide +kernel
theorem dX5_init_29 : decode cX5_init 29 = .ok (.bipush 64, 2) := by decide +kernel
theorem dX5_init_31 : decode cX5_init 31 = .ok (.newarray .int, 2) := by decide +kernel
theorem dX5_init_33 : decode cX5_init 33 = .ok (.putfield 20, 3) := by decide +kernel
theorem dX5_init_36 : decode cX5_init 36 = .ok (.aload_n 0, 1) := by decide +kernel
theorem dX5_init_37 : decode cX5_init 37 = .ok (.bipush 64, 2) := by decide +kernel
theorem dX5_init_39 : decode cX5_init 39 = .ok (.newarray .int, 2) := by decide +kernel
theorem dX5_init_41 : decode cX5_init 41 = .ok (.putfield 23, 3) := by decide +kernel
theorem dX5_init_44 : decode cX5_init 44 = .ok (.aload_n 0, 1) := by decide +kernel
theorem dX5_init_45 : decode cX5_init 45 = .ok (.bipush 64, 2) := by decide +kernel
theorem dX5_init_47 : decode cX5_init 47 = .ok (.newarray .int, 2) := by decide +kernel
theorem dX5_init_49 : decode cX5_init 49 = .ok (.putfield 26, 3) := by decide +kernel
theorem dX5_init_52 : decode cX5_init 52 = .ok (.aload_n 0, 1) := by decide +kernel
theorem dX5_init_53 : decode cX5_init 53 = .ok (.bipush 64, 2) := by decide +kernel
theorem dX5_init_55 : decode cX5_init 55 = .ok (.newarray .int, 2) := by decide +kernel
theorem dX5_init_57 : decode cX5_init 57 = .ok (.putfield 29, 3) := by decide +kernel
theorem dX5_init_60 : decode cX5_init 60 = .ok (.aload_n 0, 1) := by decide +kernel
theorem dX5_init_61 : decode cX5_init 61 = .ok (.bipush 17, 2) := by decide +kernel
theorem dX5_init_63 : decode cX5_init 63 = .ok (.newarray .int, 2) := by decide +kernel
theorem dX5_init_65 : decode cX5_init 65 = .ok (.putfield 32, 3) := by decide +kernel
theorem dX5_init_68 : decode cX5_init 68 = .ok (.aload_n 0, 1) := by decide +kernel
theorem dX5_init_69 : decode cX5_init 69 = .ok (.bipush 16, 2) := by decide +kernel
theorem dX5_init_71 : decode cX5_init 71 = .ok (.newarray .int, 2) := by decide +kernel
theorem dX5_init_73 : decode cX5_init 73 = .ok (.putfield 35, 3) := by decide +kernel
theorem dX5_init_76 : decode cX5_init 76 = .ok (.aload_n 0, 1) := by decide +kernel
theorem dX5_init_77 : decode cX5_init 77 = .ok (.bipush 16, 2) := by decide +kernel
theorem dX5_init_79 : decode cX5_init 79 = .ok (.newarray .int, 2) := by decide +kernel
theorem dX5_init_81 : decode cX5_init 81 = .ok (.putfield 38, 3) := by decide +kernel
theorem dX5_init_84 : decode cX5_init 84 = .ok (.aload_n 0, 1) := by decide +kernel
theorem dX5_init_85 : decode cX5_init 85 = .ok (.bipush 16, 2) := by decide +kernel
theorem dX5_init_87 : decode cX5_init 87 = .ok (.newarray .int, 2) := by decide +kernel
theorem dX5_init_89 : decode cX5_init 89 = .ok (.putfield 41, 3) := by decide +kernel
theorem dX5_init_92 : decode cX5_init 92 = .ok (.aload_n 0, 1) := by decide +kernel
theorem dX5_init_93 : decode cX5_init 93 = .ok (.sipush 272, 3) := by decide +kernel
theorem dX5_init_96 : decode cX5_init 96 = .ok (.newarray .int, 2) := by decide +kernel
theorem dX5_init_98 : decode cX5_init 98 = .ok (.putfield 44, 3) := by decide +kernel
theorem dX5_init_101 : decode cX5_init 101 = .ok (.aload_n 0, 1) := by decide +kernel
theorem dX5_init_102 : decode cX5_init 102 = .ok (.bipush 8, 2) := by decide +kernel
theorem dX5_init_104 : decode cX5_init 104 = .ok (.newarray .int, 2) := by decide +kernel
theorem dX5_init_106 : decode cX5_init 106 = .ok (.putfield 47, 3) := by decide +kernel
theorem dX5_init_109 : decode cX5_init 109 = .ok (.iload_n 1, 1) := by decide +kernel
theorem dX5_init_110 : decode cX5_init 110 = .ok (.bipush 6, 2) := by decide +kernel
theorem dX5_init_112 : decode cX5_init 112 = .ok (.invokestatic 50, 3) := by decide +kernel
theorem dX5_init_115 : decode cX5_init 115 = .ok (.istore 4, 2) := by decide +kernel
theorem dX5_init_117 : decode cX5_init 117 = .ok (.aload_n 0, 1) := by decide +kernel
theorem dX5_init_118 : decode cX5_init 118 = .ok (.iload 4, 2) := by decide +kernel
theorem dX5_init_120 : decode cX5_init 120 = .ok (.ifCond .ne 7, 3) := by decide +kernel
theorem dX5_init_123 : decode cX5_init 123 = .ok (.iconst 0, 1) := by decide +kernel
theorem dX5_init_124 : decode cX5_init 124 = .ok (.goto 9, 3) := by decide +kernel
theorem dX5_init_127 : decode cX5_init 127 = .ok (.iconst 1, 1) := by decide +kernel
theorem dX5_init_128 : decode cX5_init 128 = .ok (.iload 4, 2) := by decide +kernel
theorem dX5_init_130 : decode cX5_init 130 = .ok (.iconst 1, 1) := by decide +kernel
theorem dX5_init_131 : decode cX5_init 131 = .ok (.isub, 1) := by decide +kernel
theorem dX5_init_132 : decode cX5_init 132 = .ok (.ishl, 1) := by decide +kernel
theorem dX5_init_133 : decode cX5_init 133 = .ok (.putfield 54, 3) := by decide +kernel
theorem dX5_init_136 : decode cX5_init 136 = .ok (.aload_n 0, 1) := by decide +kernel
theorem dX5_init_137 : decode cX5_init 137 = .ok (.iload 4, 2) := by decide +kernel
theorem dX5_init_139 : decode cX5_init 139 = .ok (.ifCond .ne 7, 3) := by decide +kernel
theorem dX5_init_142 : decode cX5_init 142 = .ok (.iconst 0, 1) := by decide +kernel
theorem dX5_init_143 : decode cX5_init 143 = .ok (.goto 7, 3) := by decide +kernel
theorem dX5_init_146 : decode cX5_init 146 = .ok (.iload 4, 2) := by decide +kernel
theorem dX5_init_148 : decode cX5_init 148 = .ok (.iconst 1, 1) := by decide +kernel
theorem dX5_init_149 : decode cX5_init 149 = .ok (.isub, 1) := by decide +kernel
theorem dX5_init_150 : decode cX5_init 150 = .ok (.putfield 58, 3) := by decide +kernel
theorem dX5_init_153 : decode cX5_init 153 = .ok (.aload_n 0, 1) := by decide +kernel
theorem dX5_init_154 : decode cX5_init 154 = .ok (.iconst 1, 1) := by decide +kernel
theorem dX5_init_155 : decode cX5_init 155 = .ok (.iload_n 2, 1) := by decide +kernel
theorem dX5_init_156 : decode cX5_init 156 = .ok (.iconst 1, 1) := by decide +kernel
theorem dX5_init_157 : decode cX5_init 157 = .ok (.isub, 1) := by decide +kernel
theorem dX5_init_158 : decode cX5_init 158 = .ok (.iconst 3, 1) := by decide +kernel
theorem dX5_init_159 : decode cX5_init 159 = .ok (.iand, 1) := by decide +kernel
theorem dX5_init_160 : decode cX5_init 160 = .ok (.iadd, 1) := by decide +kernel
theorem dX5_init_161 : decode cX5_init 161 = .ok (.putfield 61, 3) := by decide +kernel
theorem dX5_init_164 : decode cX5_init 164 = .ok (.aload_n 0, 1) := by decide +kernel
theorem dX5_init_165 : decode cX5_init 165 = .ok (.iload_n 3, 1) := by decide +kernel
theorem dX5_init_166 : decode cX5_init 166 = .ok (.bipush 17, 2) := by decide +kernel
theorem dX5_init_168 : decode cX5_init 168 = .ok (.invokestatic 50, 3) := by decide +kernel
theorem dX5_init_171 : decode cX5_init 171 = .ok (.putfield 64, 3) := by decide +kernel
theorem dX5_init_174 : decode cX5_init 174 = .ok (.iconst 0, 1) := by decide +kernel
theorem dX5_init_175 : decode cX5_init 175 = .ok (.istore 5, 2) := by decide +kernel
theorem dX5_init_177 : decode cX5_init 177 = .ok (.iload 5, 2) := by decide +kernel
theorem dX5_init_179 : decode cX5_init 179 = .ok (.bipush 64, 2) := by decide +kernel
theorem dX5_init_181 : decode cX5_init 181 = .ok (.if_icmp .ge 17, 3) := by decide +kernel
theorem dX5_init_184 : decode cX5_init 184 = .ok (.aload_n 0, 1) := by decide +kernel
theorem dX5_init_185 : decode cX5_init 185 = .ok (.getfield 26, 3) := by decide +kernel
theorem dX5_init_188 : decode cX5_init 188 = .ok (.iload 5, 2) := by decide +kernel
theorem dX5_init_190 : decode cX5_init 190 = .ok (.iconst (-1), 1) := by decide +kernel
theorem dX5_init_191 : decode cX5_init 191 = .ok (.iastore, 1) := by decide +kernel
theorem dX5_init_192 : decode cX5_init 192 = .ok (.iinc 5 1, 3) := by decide +kernel
theorem dX5_init_195 : decode cX5_init 195 = .ok (.goto (-18), 3) := by decide +kernel
theorem dX5_init_198 : decode cX5_init 198 = .ok (.return_, 1) := by decide +kernel
theorem dX5_modulo_0 : decode cX5_modulo 0 = .ok (.iload_n 0, 1) := by decide +kernel
theorem dX5_modulo_1 : decode cX5_modulo 1 = .ok (.iload_n 1, 1) := by decide +kernel
theorem dX5_modulo_2 : decode cX5_modulo 2 = .ok (.irem, 1) := by decide +kernel
theorem dX5_modulo_3 : decode cX5_modulo 3 = .ok (.iload_n 1, 1) := by decide +kernel
theorem dX5_modulo_4 : decode cX5_modulo 4 = .ok (.iadd, 1) := by decide +kernel
theorem dX5_modulo_5 : decode cX5_modulo 5 = .ok (.iload_n 1, 1) := by decide +kernel
theorem dX5_modulo_6 : decode cX5_modulo 6 = .ok (.irem, 1) := by decide +kernel
theorem dX5_modulo_7 : decode cX5_modulo 7 = .ok (.ireturn, 1) := by decide +kernel
theorem dX5_thrown_0 : decode cX5_thrown 0 = .ok (.aload_n 0, 1) := by decide +kernel
theorem dX5_thrown_1 : decode cX5_thrown 1 = .ok (.getfield 67, 3) := by decide +kernel
theorem dX5_thrown_4 : decode cX5_thrown 4 = .ok (.ireturn, 1) := by decide +kernel
theorem dX5_ask_0 : decode cX5_ask 0 = .ok (.aload_n 0, 1) := by decide +kernel
theorem dX5_ask_1 : decode cX5_ask 1 = .ok (.iconst 0, 1) := by decide +kernel
theorem dX5_ask_2 : decode cX5_ask 2 = .ok (.putfield 67, 3) := by decide +kernel
theorem dX5_ask_5 : decode cX5_ask 5 = .ok (.aload_n 0, 1) := by decide +kernel
theorem dX5_ask_6 : decode cX5_ask 6 = .ok (.iload_n 1, 1) := by decide +kernel
theorem dX5_ask_7 : decode cX5_ask 7 = .ok (.invokevirtual 98, 3) := by decide +kernel
theorem dX5_ask_10 : decode cX5_ask 10 = .ok (.ireturn, 1) := by decide +kernel
theorem dX5_tell_0 : decode cX5_tell 0 = .ok (.aload_n 0, 1) := by decide +kernel
theorem dX5_tell_1 : decode cX5_tell 1 = .ok (.iload_n 1, 1) := by decide +kernel
theorem dX5_tell_2 : decode cX5_tell 2 = .ok (.invokevirtual 89, 3) := by decide +kernel
theorem dX5_tell_5 : decode cX5_tell 5 = .ok (.istore_n 2, 1) := by decide +kernel
theorem dX5_tell_6 : decode cX5_tell 6 = .ok (.iload_n 2, 1) := by decide +kernel
theorem dX5_tell_7 : decode cX5_tell 7 = .ok (.ifCond .ge 7, 3) := by decide +kernel
theorem dX5_tell_10 : decode cX5_tell 10 = .ok (.iload_n 1, 1) := by decide +kernel
theorem dX5_tell_11 : decode cX5_tell 11 = .ok (.iconst 4, 1) := by decide +kernel
theorem dX5_tell_12 : decode cX5_tell 12 = .ok (.iadd, 1) := by decide +kernel
theorem dX5_tell_13 : decode cX5_tell 13 = .ok (.ireturn, 1) := by decide +kernel
theorem dX5_tell_14 : decode cX5_tell 14 = .ok (.aload_n 0, 1) := by decide +kernel
theorem dX5_tell_15 : decode cX5_tell 15 = .ok (.iload_n 1, 1) := by decide +kernel
theorem dX5_tell_16 : decode cX5_tell 16 = .ok (.invokevirtual 92, 3) := by decide +kernel
theorem dX5_tell_19 : decode cX5_tell 19 = .ok (.istore_n 3, 1) := by decide +kernel
theorem dX5_tell_20 : decode cX5_tell 20 = .ok (.aload_n 0, 1) := by decide +kernel
theorem dX5_tell_21 : decode cX5_tell 21 = .ok (.getfield 17, 3) := by decide +kernel
theorem dX5_tell_24 : decode cX5_tell 24 = .ok (.iload_n 2, 1) := by decide +kernel
theorem dX5_tell_25 : decode cX5_tell 25 = .ok (.iaload, 1) := by decide +kernel
theorem dX5_tell_26 : decode cX5_tell 26 = .ok (.iconst 2, 1) := by decide +kernel
theorem dX5_tell_27 : decode cX5_tell 27 = .ok (.if_icmp .ne 22, 3) := by decide +kernel
theorem dX5_tell_30 : decode cX5_tell 30 = .ok (.aload_n 0, 1) := by decide +kernel
theorem dX5_tell_31 : decode cX5_tell 31 = .ok (.getfield 80, 3) := by decide +kernel
theorem dX5_tell_34 : decode cX5_tell 34 = .ok (.ifCond .le 15, 3) := by decide +kernel
theorem dX5_tell_37 : decode cX5_tell 37 = .ok (.aload_n 0, 1) := by decide +kernel
theorem dX5_tell_38 : decode cX5_tell 38 = .ok (.getfield 32, 3) := by decide +kernel
theorem dX5_tell_41 : decode cX5_tell 41 = .ok (.aload_n 0, 1) := by decide +kernel
theorem dX5_tell_42 : decode cX5_tell 42 = .ok (.getfield 80, 3) := by decide +kernel
end
section
theorem dX5_tell_45 : decode cX5_tell 45 = .ok (.iconst 1, 1) := by decide +kernel
theorem dX5_tell_46 : decode cX5_tell 46 = .ok (.isub, 1) := by decide +kernel
theorem dX5_tell_47 : decode cX5_tell 47 = .ok (.iaload, 1) := by decide +kernel
theorem dX5_tell_48 : decode cX5_tell 48 = .ok (.ireturn, 1) := by decide +kernel
theorem dX5_tell_49 : decode cX5_tell 49 = .ok (.aload_n 0, 1) := by decide +kernel
theorem dX5_tell_50 : decode cX5_tell 50 = .ok (.getfield 17, 3) := by decide +kernel
theorem dX5_tell_53 : decode cX5_tell 53 = .ok (.iload_n 2, 1) := by decide +kernel
theorem dX5_tell_54 : decode cX5_tell 54 = .ok (.iaload, 1) := by decide +kernel
theorem dX5_tell_55 : decode cX5_tell 55 = .ok (.iconst 3, 1) := by decide +kernel
theorem dX5_tell_56 : decode cX5_tell 56 = .ok (.if_icmp .ne 23, 3) := by decide +kernel
theorem dX5_tell_59 : decode cX5_tell 59 = .ok (.aload_n 0, 1) := by decide +kernel
theorem dX5_tell_60 : decode cX5_tell 60 = .ok (.getfield 26, 3) := by decide +kernel
theorem dX5_tell_63 : decode cX5_tell 63 = .ok (.iload_n 3, 1) := by decide +kernel
theorem dX5_tell_64 : decode cX5_tell 64 = .ok (.iaload, 1) := by decide +kernel
theorem dX5_tell_65 : decode cX5_tell 65 = .ok (.iload_n 1, 1) := by decide +kernel
theorem dX5_tell_66 : decode cX5_tell 66 = .ok (.invokestatic 95, 3) := by decide +kernel
theorem dX5_tell_69 : decode cX5_tell 69 = .ok (.if_icmp .ne 10, 3) := by decide +kernel
theorem dX5_tell_72 : decode cX5_tell 72 = .ok (.aload_n 0, 1) := by decide +kernel
theorem dX5_tell_73 : decode cX5_tell 73 = .ok (.getfield 29, 3) := by decide +kernel
theorem dX5_tell_76 : decode cX5_tell 76 = .ok (.iload_n 3, 1) := by decide +kernel
theorem dX5_tell_77 : decode cX5_tell 77 = .ok (.iaload, 1) := by decide +kernel
theorem dX5_tell_78 : decode cX5_tell 78 = .ok (.ireturn, 1) := by decide +kernel
theorem dX5_tell_79 : decode cX5_tell 79 = .ok (.aload_n 0, 1) := by decide +kernel
theorem dX5_tell_80 : decode cX5_tell 80 = .ok (.getfield 20, 3) := by decide +kernel
theorem dX5_tell_83 : decode cX5_tell 83 = .ok (.iload_n 2, 1) := by decide +kernel
theorem dX5_tell_84 : decode cX5_tell 84 = .ok (.iaload, 1) := by decide +kernel
theorem dX5_tell_85 : decode cX5_tell 85 = .ok (.ireturn, 1) := by decide +kernel
theorem dX5_find_0 : decode cX5_find 0 = .ok (.iconst (-1), 1) := by decide +kernel
theorem dX5_find_1 : decode cX5_find 1 = .ok (.istore_n 2, 1) := by decide +kernel
theorem dX5_find_2 : decode cX5_find 2 = .ok (.iconst 0, 1) := by decide +kernel
theorem dX5_find_3 : decode cX5_find 3 = .ok (.istore_n 3, 1) := by decide +kernel
theorem dX5_find_4 : decode cX5_find 4 = .ok (.iload_n 3, 1) := by decide +kernel
theorem dX5_find_5 : decode cX5_find 5 = .ok (.aload_n 0, 1) := by decide +kernel
theorem dX5_find_6 : decode cX5_find 6 = .ok (.getfield 61, 3) := by decide +kernel
theorem dX5_find_9 : decode cX5_find 9 = .ok (.if_icmp .ge 63, 3) := by decide +kernel
theorem dX5_find_12 : decode cX5_find 12 = .ok (.aload_n 0, 1) := by decide +kernel
theorem dX5_find_13 : decode cX5_find 13 = .ok (.getfield 54, 3) := by decide +kernel
theorem dX5_find_16 : decode cX5_find 16 = .ok (.ifCond .le 56, 3) := by decide +kernel
theorem dX5_find_19 : decode cX5_find 19 = .ok (.aload_n 0, 1) := by decide +kernel
theorem dX5_find_20 : decode cX5_find 20 = .ok (.getfield 7, 3) := by decide +kernel
theorem dX5_find_23 : decode cX5_find 23 = .ok (.aload_n 0, 1) := by decide +kernel
theorem dX5_find_24 : decode cX5_find 24 = .ok (.iload_n 1, 1) := by decide +kernel
theorem dX5_find_25 : decode cX5_find 25 = .ok (.invokevirtual 70, 3) := by decide +kernel
theorem dX5_find_28 : decode cX5_find 28 = .ok (.iload_n 3, 1) := by decide +kernel
theorem dX5_find_29 : decode cX5_find 29 = .ok (.iadd, 1) := by decide +kernel
theorem dX5_find_30 : decode cX5_find 30 = .ok (.baload, 1) := by decide +kernel
theorem dX5_find_31 : decode cX5_find 31 = .ok (.ifCond .eq 33, 3) := by decide +kernel
theorem dX5_find_34 : decode cX5_find 34 = .ok (.aload_n 0, 1) := by decide +kernel
theorem dX5_find_35 : decode cX5_find 35 = .ok (.getfield 13, 3) := by decide +kernel
theorem dX5_find_38 : decode cX5_find 38 = .ok (.aload_n 0, 1) := by decide +kernel
theorem dX5_find_39 : decode cX5_find 39 = .ok (.iload_n 1, 1) := by decide +kernel
theorem dX5_find_40 : decode cX5_find 40 = .ok (.invokevirtual 70, 3) := by decide +kernel
theorem dX5_find_43 : decode cX5_find 43 = .ok (.iload_n 3, 1) := by decide +kernel
theorem dX5_find_44 : decode cX5_find 44 = .ok (.iadd, 1) := by decide +kernel
theorem dX5_find_45 : decode cX5_find 45 = .ok (.iaload, 1) := by decide +kernel
theorem dX5_find_46 : decode cX5_find 46 = .ok (.aload_n 0, 1) := by decide +kernel
theorem dX5_find_47 : decode cX5_find 47 = .ok (.iload_n 1, 1) := by decide +kernel
theorem dX5_find_48 : decode cX5_find 48 = .ok (.invokevirtual 74, 3) := by decide +kernel
theorem dX5_find_51 : decode cX5_find 51 = .ok (.if_icmp .ne 13, 3) := by decide +kernel
theorem dX5_find_54 : decode cX5_find 54 = .ok (.aload_n 0, 1) := by decide +kernel
theorem dX5_find_55 : decode cX5_find 55 = .ok (.iload_n 1, 1) := by decide +kernel
theorem dX5_find_56 : decode cX5_find 56 = .ok (.invokevirtual 70, 3) := by decide +kernel
theorem dX5_find_59 : decode cX5_find 59 = .ok (.iload_n 3, 1) := by decide +kernel
theorem dX5_find_60 : decode cX5_find 60 = .ok (.iadd, 1) := by decide +kernel
theorem dX5_find_61 : decode cX5_find 61 = .ok (.goto 4, 3) := by decide +kernel
theorem dX5_find_64 : decode cX5_find 64 = .ok (.iload_n 2, 1) := by decide +kernel
theorem dX5_find_65 : decode cX5_find 65 = .ok (.istore_n 2, 1) := by decide +kernel
theorem dX5_find_66 : decode cX5_find 66 = .ok (.iinc 3 1, 3) := by decide +kernel
theorem dX5_find_69 : decode cX5_find 69 = .ok (.goto (-65), 3) := by decide +kernel
theorem dX5_find_72 : decode cX5_find 72 = .ok (.iload_n 2, 1) := by decide +kernel
theorem dX5_find_73 : decode cX5_find 73 = .ok (.ireturn, 1) := by decide +kernel
theorem dX5_firstOf_0 : decode cX5_firstOf 0 = .ok (.iconst 4, 1) := by decide +kernel
theorem dX5_firstOf_1 : decode cX5_firstOf 1 = .ok (.iload_n 1, 1) := by decide +kernel
theorem dX5_firstOf_2 : decode cX5_firstOf 2 = .ok (.iconst 2, 1) := by decide +kernel
theorem dX5_firstOf_3 : decode cX5_firstOf 3 = .ok (.iushr, 1) := by decide +kernel
theorem dX5_firstOf_4 : decode cX5_firstOf 4 = .ok (.aload_n 0, 1) := by decide +kernel
theorem dX5_firstOf_5 : decode cX5_firstOf 5 = .ok (.getfield 54, 3) := by decide +kernel
theorem dX5_firstOf_8 : decode cX5_firstOf 8 = .ok (.iconst 1, 1) := by decide +kernel
theorem dX5_firstOf_9 : decode cX5_firstOf 9 = .ok (.isub, 1) := by decide +kernel
theorem dX5_firstOf_10 : decode cX5_firstOf 10 = .ok (.iand, 1) := by decide +kernel
theorem dX5_firstOf_11 : decode cX5_firstOf 11 = .ok (.imul, 1) := by decide +kernel
theorem dX5_firstOf_12 : decode cX5_firstOf 12 = .ok (.ireturn, 1) := by decide +kernel
theorem dX5_tagOf_0 : decode cX5_tagOf 0 = .ok (.iload_n 1, 1) := by decide +kernel
theorem dX5_tagOf_1 : decode cX5_tagOf 1 = .ok (.iconst 2, 1) := by decide +kernel
theorem dX5_tagOf_2 : decode cX5_tagOf 2 = .ok (.aload_n 0, 1) := by decide +kernel
theorem dX5_tagOf_3 : decode cX5_tagOf 3 = .ok (.getfield 58, 3) := by decide +kernel
theorem dX5_tagOf_6 : decode cX5_tagOf 6 = .ok (.iadd, 1) := by decide +kernel
theorem dX5_tagOf_7 : decode cX5_tagOf 7 = .ok (.iushr, 1) := by decide +kernel
theorem dX5_tagOf_8 : decode cX5_tagOf 8 = .ok (.sipush 255, 3) := by decide +kernel
theorem dX5_tagOf_11 : decode cX5_tagOf 11 = .ok (.iand, 1) := by decide +kernel
theorem dX5_tagOf_12 : decode cX5_tagOf 12 = .ok (.ireturn, 1) := by decide +kernel
theorem dX5_rowOf_0 : decode cX5_rowOf 0 = .ok (.iload_n 1, 1) := by decide +kernel
theorem dX5_rowOf_1 : decode cX5_rowOf 1 = .ok (.iconst 2, 1) := by decide +kernel
theorem dX5_rowOf_2 : decode cX5_rowOf 2 = .ok (.iushr, 1) := by decide +kernel
theorem dX5_rowOf_3 : decode cX5_rowOf 3 = .ok (.aload_n 0, 1) := by decide +kernel
theorem dX5_rowOf_4 : decode cX5_rowOf 4 = .ok (.getfield 77, 3) := by decide +kernel
theorem dX5_rowOf_7 : decode cX5_rowOf 7 = .ok (.ixor, 1) := by decide +kernel
theorem dX5_rowOf_8 : decode cX5_rowOf 8 = .ok (.aload_n 0, 1) := by decide +kernel
theorem dX5_rowOf_9 : decode cX5_rowOf 9 = .ok (.getfield 77, 3) := by decide +kernel
theorem dX5_rowOf_12 : decode cX5_rowOf 12 = .ok (.bipush 6, 2) := by decide +kernel
theorem dX5_rowOf_14 : decode cX5_rowOf 14 = .ok (.ishr, 1) := by decide +kernel
theorem dX5_rowOf_15 : decode cX5_rowOf 15 = .ok (.ixor, 1) := by decide +kernel
theorem dX5_rowOf_16 : decode cX5_rowOf 16 = .ok (.aload_n 0, 1) := by decide +kernel
theorem dX5_rowOf_17 : decode cX5_rowOf 17 = .ok (.getfield 77, 3) := by decide +kernel
theorem dX5_rowOf_20 : decode cX5_rowOf 20 = .ok (.bipush 12, 2) := by decide +kernel
theorem dX5_rowOf_22 : decode cX5_rowOf 22 = .ok (.ishr, 1) := by decide +kernel
theorem dX5_rowOf_23 : decode cX5_rowOf 23 = .ok (.ixor, 1) := by decide +kernel
theorem dX5_rowOf_24 : decode cX5_rowOf 24 = .ok (.aload_n 0, 1) := by decide +kernel
theorem dX5_rowOf_25 : decode cX5_rowOf 25 = .ok (.getfield 77, 3) := by decide +kernel
theorem dX5_rowOf_28 : decode cX5_rowOf 28 = .ok (.bipush 18, 2) := by decide +kernel
theorem dX5_rowOf_30 : decode cX5_rowOf 30 = .ok (.ishr, 1) := by decide +kernel
theorem dX5_rowOf_31 : decode cX5_rowOf 31 = .ok (.ixor, 1) := by decide +kernel
theorem dX5_rowOf_32 : decode cX5_rowOf 32 = .ok (.bipush 63, 2) := by decide +kernel
theorem dX5_rowOf_34 : decode cX5_rowOf 34 = .ok (.iand, 1) := by decide +kernel
theorem dX5_rowOf_35 : decode cX5_rowOf 35 = .ok (.ireturn, 1) := by decide +kernel
theorem dX5_rowTagOf_0 : decode cX5_rowTagOf 0 = .ok (.iload_n 0, 1) := by decide +kernel
theorem dX5_rowTagOf_1 : decode cX5_rowTagOf 1 = .ok (.bipush 8, 2) := by decide +kernel
theorem dX5_rowTagOf_3 : decode cX5_rowTagOf 3 = .ok (.iushr, 1) := by decide +kernel
theorem dX5_rowTagOf_4 : decode cX5_rowTagOf 4 = .ok (.sipush 255, 3) := by decide +kernel
theorem dX5_rowTagOf_7 : decode cX5_rowTagOf 7 = .ok (.iand, 1) := by decide +kernel
theorem dX5_rowTagOf_8 : decode cX5_rowTagOf 8 = .ok (.ireturn, 1) := by decide +kernel
theorem dX5_next_0 : decode cX5_next 0 = .ok (.aload_n 0, 1) := by decide +kernel
theorem dX5_next_1 : decode cX5_next 1 = .ok (.iconst 0, 1) := by decide +kernel
theorem dX5_next_2 : decode cX5_next 2 = .ok (.putfield 67, 3) := by decide +kernel
theorem dX5_next_5 : decode cX5_next 5 = .ok (.aload_n 0, 1) := by decide +kernel
theorem dX5_next_6 : decode cX5_next 6 = .ok (.getfield 101, 3) := by decide +kernel
theorem dX5_next_9 : decode cX5_next 9 = .ok (.bipush 16, 2) := by decide +kernel
theorem dX5_next_11 : decode cX5_next 11 = .ok (.if_icmp .ne 9, 3) := by decide +kernel
theorem dX5_next_14 : decode cX5_next 14 = .ok (.aload_n 0, 1) := by decide +kernel
theorem dX5_next_15 : decode cX5_next 15 = .ok (.iconst 1, 1) := by decide +kernel
theorem dX5_next_16 : decode cX5_next 16 = .ok (.invokevirtual 104, 3) := by decide +kernel
theorem dX5_next_19 : decode cX5_next 19 = .ok (.ireturn, 1) := by decide +kernel
theorem dX5_next_20 : decode cX5_next 20 = .ok (.aload_n 0, 1) := by decide +kernel
theorem dX5_next_21 : decode cX5_next 21 = .ok (.getfield 35, 3) := by decide +kernel
theorem dX5_next_24 : decode cX5_next 24 = .ok (.aload_n 0, 1) := by decide +kernel
theorem dX5_next_25 : decode cX5_next 25 = .ok (.getfield 101, 3) := by decide +kernel
theorem dX5_next_28 : decode cX5_next 28 = .ok (.iload_n 1, 1) := by decide +kernel
theorem dX5_next_29 : decode cX5_next 29 = .ok (.iastore, 1) := by decide +kernel
theorem dX5_next_30 : decode cX5_next 30 = .ok (.aload_n 0, 1) := by decide +kernel
theorem dX5_next_31 : decode cX5_next 31 = .ok (.getfield 38, 3) := by decide +kernel
theorem dX5_next_34 : decode cX5_next 34 = .ok (.aload_n 0, 1) := by decide +kernel
theorem dX5_next_35 : decode cX5_next 35 = .ok (.getfield 101, 3) := by decide +kernel
theorem dX5_next_38 : decode cX5_next 38 = .ok (.aload_n 0, 1) := by decide +kernel
theorem dX5_next_39 : decode cX5_next 39 = .ok (.iload_n 1, 1) := by decide +kernel
theorem dX5_next_40 : decode cX5_next 40 = .ok (.invokevirtual 98, 3) := by decide +kernel
theorem dX5_next_43 : decode cX5_next 43 = .ok (.iastore, 1) := by decide +kernel
theorem dX5_next_44 : decode cX5_next 44 = .ok (.aload_n 0, 1) := by decide +kernel
theorem dX5_next_45 : decode cX5_next 45 = .ok (.getfield 41, 3) := by decide +kernel
theorem dX5_next_48 : decode cX5_next 48 = .ok (.aload_n 0, 1) := by decide +kernel
theorem dX5_next_49 : decode cX5_next 49 = .ok (.getfield 101, 3) := by decide +kernel
theorem dX5_next_52 : decode cX5_next 52 = .ok (.aload_n 0, 1) := by decide +kernel
theorem dX5_next_53 : decode cX5_next 53 = .ok (.getfield 80, 3) := by decide +kernel
theorem dX5_next_56 : decode cX5_next 56 = .ok (.iastore, 1) := by decide +kernel
theorem dX5_next_57 : decode cX5_next 57 = .ok (.iconst 0, 1) := by decide +kernel
theorem dX5_next_58 : decode cX5_next 58 = .ok (.istore_n 2, 1) := by decide +kernel
theorem dX5_next_59 : decode cX5_next 59 = .ok (.iload_n 2, 1) := by decide +kernel
theorem dX5_next_60 : decode cX5_next 60 = .ok (.bipush 17, 2) := by decide +kernel
theorem dX5_next_62 : decode cX5_next 62 = .ok (.if_icmp .ge 29, 3) := by decide +kernel
theorem dX5_next_65 : decode cX5_next 65 = .ok (.aload_n 0, 1) := by decide +kernel
theorem dX5_next_66 : decode cX5_next 66 = .ok (.getfield 44, 3) := by decide +kernel
theorem dX5_next_69 : decode cX5_next 69 = .ok (.bipush 17, 2) := by decide +kernel
theorem dX5_next_71 : decode cX5_next 71 = .ok (.aload_n 0, 1) := by decide +kernel
theorem dX5_next_72 : decode cX5_next 72 = .ok (.getfield 101, 3) := by decide +kernel
theorem dX5_next_75 : decode cX5_next 75 = .ok (.imul, 1) := by decide +kernel
theorem dX5_next_76 : decode cX5_next 76 = .ok (.iload_n 2, 1) := by decide +kernel
theorem dX5_next_77 : decode cX5_next 77 = .ok (.iadd, 1) := by decide +kernel
theorem dX5_next_78 : decode cX5_next 78 = .ok (.aload_n 0, 1) := by decide +kernel
theorem dX5_next_79 : decode cX5_next 79 = .ok (.getfield 32, 3) := by decide +kernel
theorem dX5_next_82 : decode cX5_next 82 = .ok (.iload_n 2, 1) := by decide +kernel
theorem dX5_next_83 : decode cX5_next 83 = .ok (.iaload, 1) := by decide +kernel
theorem dX5_next_84 : decode cX5_next 84 = .ok (.iastore, 1) := by decide +kernel
theorem dX5_next_85 : decode cX5_next 85 = .ok (.iinc 2 1, 3) := by decide +kernel
theorem dX5_next_88 : decode cX5_next 88 = .ok (.goto (-29), 3) := by decide +kernel
theorem dX5_next_91 : decode cX5_next 91 = .ok (.aload_n 0, 1) := by decide +kernel
theorem dX5_next_92 : decode cX5_next 92 = .ok (.dup, 1) := by decide +kernel
theorem dX5_next_93 : decode cX5_next 93 = .ok (.getfield 101, 3) := by decide +kernel
theorem dX5_next_96 : decode cX5_next 96 = .ok (.iconst 1, 1) := by decide +kernel
theorem dX5_next_97 : decode cX5_next 97 = .ok (.iadd, 1) := by decide +kernel
theorem dX5_next_98 : decode cX5_next 98 = .ok (.putfield 101, 3) := by decide +kernel
theorem dX5_next_101 : decode cX5_next 101 = .ok (.aload_n 0, 1) := by decide +kernel
theorem dX5_next_102 : decode cX5_next 102 = .ok (.iload_n 1, 1) := by decide +kernel
theorem dX5_next_103 : decode cX5_next 103 = .ok (.invokevirtual 89, 3) := by decide +kernel
theorem dX5_next_106 : decode cX5_next 106 = .ok (.istore_n 2, 1) := by decide +kernel
theorem dX5_next_107 : decode cX5_next 107 = .ok (.iload_n 2, 1) := by decide +kernel
theorem dX5_next_108 : decode cX5_next 108 = .ok (.ifCond .lt 20, 3) := by decide +kernel
theorem dX5_next_111 : decode cX5_next 111 = .ok (.aload_n 0, 1) := by decide +kernel
theorem dX5_next_112 : decode cX5_next 112 = .ok (.getfield 17, 3) := by decide +kernel
theorem dX5_next_115 : decode cX5_next 115 = .ok (.iload_n 2, 1) := by decide +kernel
theorem dX5_next_116 : decode cX5_next 116 = .ok (.iaload, 1) := by decide +kernel
theorem dX5_next_117 : decode cX5_next 117 = .ok (.iconst 1, 1) := by decide +kernel
theorem dX5_next_118 : decode cX5_next 118 = .ok (.if_icmp .ne 10, 3) := by decide +kernel
theorem dX5_next_121 : decode cX5_next 121 = .ok (.aload_n 0, 1) := by decide +kernel
theorem dX5_next_122 : decode cX5_next 122 = .ok (.iload_n 1, 1) := by decide +kernel
theorem dX5_next_123 : decode cX5_next 123 = .ok (.iconst 4, 1) := by decide +kernel
theorem dX5_next_124 : decode cX5_next 124 = .ok (.iadd, 1) := by decide +kernel
theorem dX5_next_125 : decode cX5_next 125 = .ok (.invokevirtual 107, 3) := by decide +kernel
theorem dX5_next_128 : decode cX5_next 128 = .ok (.iload_n 2, 1) := by decide +kernel
theorem dX5_next_129 : decode cX5_next 129 = .ok (.ifCond .lt 17, 3) := by decide +kernel
theorem dX5_next_132 : decode cX5_next 132 = .ok (.aload_n 0, 1) := by decide +kernel
theorem dX5_next_133 : decode cX5_next 133 = .ok (.getfield 17, 3) := by decide +kernel
theorem dX5_next_136 : decode cX5_next 136 = .ok (.iload_n 2, 1) := by decide +kernel
theorem dX5_next_137 : decode cX5_next 137 = .ok (.iaload, 1) := by decide +kernel
theorem dX5_next_138 : decode cX5_next 138 = .ok (.iconst 2, 1) := by decide +kernel
theorem dX5_next_139 : decode cX5_next 139 = .ok (.if_icmp .ne 7, 3) := by decide +kernel
theorem dX5_next_142 : decode cX5_next 142 = .ok (.aload_n 0, 1) := by decide +kernel
theorem dX5_next_143 : decode cX5_next 143 = .ok (.invokevirtual 111, 3) := by decide +kernel
theorem dX5_next_146 : decode cX5_next 146 = .ok (.aload_n 0, 1) := by decide +kernel
theorem dX5_next_147 : decode cX5_next 147 = .ok (.getfield 38, 3) := by decide +kernel
theorem dX5_next_150 : decode cX5_next 150 = .ok (.aload_n 0, 1) := by decide +kernel
theorem dX5_next_151 : decode cX5_next 151 = .ok (.getfield 101, 3) := by decide +kernel
theorem dX5_next_154 : decode cX5_next 154 = .ok (.iconst 1, 1) := by decide +kernel
theorem dX5_next_155 : decode cX5_next 155 = .ok (.isub, 1) := by decide +kernel
theorem dX5_next_156 : decode cX5_next 156 = .ok (.iaload, 1) := by decide +kernel
theorem dX5_next_157 : decode cX5_next 157 = .ok (.ireturn, 1) := by decide +kernel
theorem dX5_fail_0 : decode cX5_fail 0 = .ok (.aload_n 0, 1) := by decide +kernel
theorem dX5_fail_1 : decode cX5_fail 1 = .ok (.iload_n 1, 1) := by decide +kernel
theorem dX5_fail_2 : decode cX5_fail 2 = .ok (.putfield 67, 3) := by decide +kernel
theorem dX5_fail_5 : decode cX5_fail 5 = .ok (.iconst 0, 1) := by decide +kernel
theorem dX5_fail_6 : decode cX5_fail 6 = .ok (.ireturn, 1) := by decide +kernel
theorem dX5_push_0 : decode cX5_push 0 = .ok (.aload_n 0, 1) := by decide +kernel
theorem dX5_push_1 : decode cX5_push 1 = .ok (.getfield 80, 3) := by decide +kernel
theorem dX5_push_4 : decode cX5_push 4 = .ok (.aload_n 0, 1) := by decide +kernel
theorem dX5_push_5 : decode cX5_push 5 = .ok (.getfield 64, 3) := by decide +kernel
theorem dX5_push_8 : decode cX5_push 8 = .ok (.if_icmp .ne 65, 3) := by decide +kernel
theorem dX5_push_11 : decode cX5_push 11 = .ok (.aload_n 0, 1) := by decide +kernel
theorem dX5_push_12 : decode cX5_push 12 = .ok (.dup, 1) := by decide +kernel
theorem dX5_push_13 : decode cX5_push 13 = .ok (.getfield 83, 3) := by decide +kernel
theorem dX5_push_16 : decode cX5_push 16 = .ok (.iconst 1, 1) := by decide +kernel
theorem dX5_push_17 : decode cX5_push 17 = .ok (.iadd, 1) := by decide +kernel
theorem dX5_push_18 : decode cX5_push 18 = .ok (.putfield 83, 3) := by decide +kernel
theorem dX5_push_21 : decode cX5_push 21 = .ok (.iconst 0, 1) := by decide +kernel
theorem dX5_push_22 : decode cX5_push 22 = .ok (.istore_n 2, 1) := by decide +kernel
theorem dX5_push_23 : decode cX5_push 23 = .ok (.iload_n 2, 1) := by decide +kernel
theorem dX5_push_24 : decode cX5_push 24 = .ok (.iconst 1, 1) := by decide +kernel
theorem dX5_push_25 : decode cX5_push 25 = .ok (.iadd, 1) := by decide +kernel
theorem dX5_push_26 : decode cX5_push 26 = .ok (.aload_n 0, 1) := by decide +kernel
theorem dX5_push_27 : decode cX5_push 27 = .ok (.getfield 80, 3) := by decide +kernel
theorem dX5_push_30 : decode cX5_push 30 = .ok (.if_icmp .ge 23, 3) := by decide +kernel
theorem dX5_push_33 : decode cX5_push 33 = .ok (.aload_n 0, 1) := by decide +kernel
theorem dX5_push_34 : decode cX5_push 34 = .ok (.getfield 32, 3) := by decide +kernel
theorem dX5_push_37 : decode cX5_push 37 = .ok (.iload_n 2, 1) := by decide +kernel
theorem dX5_push_38 : decode cX5_push 38 = .ok (.aload_n 0, 1) := by decide +kernel
theorem dX5_push_39 : decode cX5_push 39 = .ok (.getfield 32, 3) := by decide +kernel
theorem dX5_push_42 : decode cX5_push 42 = .ok (.iload_n 2, 1) := by decide +kernel
theorem dX5_push_43 : decode cX5_push 43 = .ok (.iconst 1, 1) := by decide +kernel
theorem dX5_push_44 : decode cX5_push 44 = .ok (.iadd, 1) := by decide +kernel
theorem dX5_push_45 : decode cX5_push 45 = .ok (.iaload, 1) := by decide +kernel
theorem dX5_push_46 : decode cX5_push 46 = .ok (.iastore, 1) := by decide +kernel
theorem dX5_push_47 : decode cX5_push 47 = .ok (.iinc 2 1, 3) := by decide +kernel
theorem dX5_push_50 : decode cX5_push 50 = .ok (.goto (-27), 3) := by decide +kernel
theorem dX5_push_53 : decode cX5_push 53 = .ok (.aload_n 0, 1) := by decide +kernel
theorem dX5_push_54 : decode cX5_push 54 = .ok (.getfield 64, 3) := by decide +kernel
theorem dX5_push_57 : decode cX5_push 57 = .ok (.ifCond .le 15, 3) := by decide +kernel
theorem dX5_push_60 : decode cX5_push 60 = .ok (.aload_n 0, 1) := by decide +kernel
theorem dX5_push_61 : decode cX5_push 61 = .ok (.getfield 32, 3) := by decide +kernel
theorem dX5_push_64 : decode cX5_push 64 = .ok (.aload_n 0, 1) := by decide +kernel
theorem dX5_push_65 : decode cX5_push 65 = .ok (.getfield 80, 3) := by decide +kernel
theorem dX5_push_68 : decode cX5_push 68 = .ok (.iconst 1, 1) := by decide +kernel
theorem dX5_push_69 : decode cX5_push 69 = .ok (.isub, 1) := by decide +kernel
theorem dX5_push_70 : decode cX5_push 70 = .ok (.iload_n 1, 1) := by decide +kernel
theorem dX5_push_71 : decode cX5_push 71 = .ok (.iastore, 1) := by decide +kernel
theorem dX5_push_72 : decode cX5_push 72 = .ok (.return_, 1) := by decide +kernel
theorem dX5_push_73 : decode cX5_push 73 = .ok (.aload_n 0, 1) := by decide +kernel
theorem dX5_push_74 : decode cX5_push 74 = .ok (.getfield 32, 3) := by decide +kernel
theorem dX5_push_77 : decode cX5_push 77 = .ok (.aload_n 0, 1) := by decide +kernel
theorem dX5_push_78 : decode cX5_push 78 = .ok (.getfield 80, 3) := by decide +kernel
theorem dX5_push_81 : decode cX5_push 81 = .ok (.iload_n 1, 1) := by decide +kernel
theorem dX5_push_82 : decode cX5_push 82 = .ok (.iastore, 1) := by decide +kernel
theorem dX5_push_83 : decode cX5_push 83 = .ok (.aload_n 0, 1) := by decide +kernel
theorem dX5_push_84 : decode cX5_push 84 = .ok (.dup, 1) := by decide +kernel
theorem dX5_push_85 : decode cX5_push 85 = .ok (.getfield 80, 3) := by decide +kernel
theorem dX5_push_88 : decode cX5_push 88 = .ok (.iconst 1, 1) := by decide +kernel
theorem dX5_push_89 : decode cX5_push 89 = .ok (.iadd, 1) := by decide +kernel
theorem dX5_push_90 : decode cX5_push 90 = .ok (.putfield 80, 3) := by decide +kernel
theorem dX5_push_93 : decode cX5_push 93 = .ok (.return_, 1) := by decide +kernel
theorem dX5_pop_0 : decode cX5_pop 0 = .ok (.aload_n 0, 1) := by decide +kernel
theorem dX5_pop_1 : decode cX5_pop 1 = .ok (.getfield 80, 3) := by decide +kernel
theorem dX5_pop_4 : decode cX5_pop 4 = .ok (.ifCond .ne 16, 3) := by decide +kernel
theorem dX5_pop_7 : decode cX5_pop 7 = .ok (.aload_n 0, 1) := by decide +kernel
theorem dX5_pop_8 : decode cX5_pop 8 = .ok (.dup, 1) := by decide +kernel
theorem dX5_pop_9 : decode cX5_pop 9 = .ok (.getfield 86, 3) := by decide +kernel
theorem dX5_pop_12 : decode cX5_pop 12 = .ok (.iconst 1, 1) := by decide +kernel
theorem dX5_pop_13 : decode cX5_pop 13 = .ok (.iadd, 1) := by decide +kernel
theorem dX5_pop_14 : decode cX5_pop 14 = .ok (.putfield 86, 3) := by decide +kernel
theorem dX5_pop_17 : decode cX5_pop 17 = .ok (.goto 13, 3) := by decide +kernel
theorem dX5_pop_20 : decode cX5_pop 20 = .ok (.aload_n 0, 1) := by decide +kernel
theorem dX5_pop_21 : decode cX5_pop 21 = .ok (.dup, 1) := by decide +kernel
theorem dX5_pop_22 : decode cX5_pop 22 = .ok (.getfield 80, 3) := by decide +kernel
theorem dX5_pop_25 : decode cX5_pop 25 = .ok (.iconst 1, 1) := by decide +kernel
theorem dX5_pop_26 : decode cX5_pop 26 = .ok (.isub, 1) := by decide +kernel
theorem dX5_pop_27 : decode cX5_pop 27 = .ok (.putfield 80, 3) := by decide +kernel
theorem dX5_pop_30 : decode cX5_pop 30 = .ok (.return_, 1) := by decide +kernel
theorem dX5_check_0 : decode cX5_check 0 = .ok (.aload_n 0, 1) := by decide +kernel
theorem dX5_check_1 : decode cX5_check 1 = .ok (.iconst 0, 1) := by decide +kernel
theorem dX5_check_2 : decode cX5_check 2 = .ok (.putfield 67, 3) := by decide +kernel
theorem dX5_check_5 : decode cX5_check 5 = .ok (.iload_n 1, 1) := by decide +kernel
theorem dX5_check_6 : decode cX5_check 6 = .ok (.iconst 0, 1) := by decide +kernel
theorem dX5_check_7 : decode cX5_check 7 = .ok (.iconst 3, 1) := by decide +kernel
theorem dX5_check_8 : decode cX5_check 8 = .ok (.invokestatic 121, 3) := by decide +kernel
theorem dX5_check_11 : decode cX5_check 11 = .ok (.ifCond .ne 9, 3) := by decide +kernel
theorem dX5_check_14 : decode cX5_check 14 = .ok (.aload_n 0, 1) := by decide +kernel
theorem dX5_check_15 : decode cX5_check 15 = .ok (.iconst 1, 1) := by decide +kernel
theorem dX5_check_16 : decode cX5_check 16 = .ok (.invokevirtual 104, 3) := by decide +kernel
theorem dX5_check_19 : decode cX5_check 19 = .ok (.ireturn, 1) := by decide +kernel
theorem dX5_check_20 : decode cX5_check 20 = .ok (.aload_n 0, 1) := by decide +kernel
theorem dX5_check_21 : decode cX5_check 21 = .ok (.getfield 101, 3) := by decide +kernel
theorem dX5_check_24 : decode cX5_check 24 = .ok (.ifCond .ne 9, 3) := by decide +kernel
theorem dX5_check_27 : decode cX5_check 27 = .ok (.aload_n 0, 1) := by decide +kernel
theorem dX5_check_28 : decode cX5_check 28 = .ok (.iconst 2, 1) := by decide +kernel
theorem dX5_check_29 : decode cX5_check 29 = .ok (.invokevirtual 104, 3) := by decide +kernel
theorem dX5_check_32 : decode cX5_check 32 = .ok (.ireturn, 1) := by decide +kernel
theorem dX5_check_33 : decode cX5_check 33 = .ok (.aload_n 0, 1) := by decide +kernel
theorem dX5_check_34 : decode cX5_check 34 = .ok (.getfield 35, 3) := by decide +kernel
theorem dX5_check_37 : decode cX5_check 37 = .ok (.iconst 0, 1) := by decide +kernel
theorem dX5_check_38 : decode cX5_check 38 = .ok (.iaload, 1) := by decide +kernel
theorem dX5_check_39 : decode cX5_check 39 = .ok (.istore 4, 2) := by decide +kernel
theorem dX5_check_41 : decode cX5_check 41 = .ok (.iload_n 2, 1) := by decide +kernel
theorem dX5_check_42 : decode cX5_check 42 = .ok (.ifCond .eq 7, 3) := by decide +kernel
theorem dX5_check_45 : decode cX5_check 45 = .ok (.iload_n 3, 1) := by decide +kernel
theorem dX5_check_46 : decode cX5_check 46 = .ok (.goto 7, 3) := by decide +kernel
theorem dX5_check_49 : decode cX5_check 49 = .ok (.iload 4, 2) := by decide +kernel
theorem dX5_check_51 : decode cX5_check 51 = .ok (.iconst 4, 1) := by decide +kernel
theorem dX5_check_52 : decode cX5_check 52 = .ok (.iadd, 1) := by decide +kernel
theorem dX5_check_53 : decode cX5_check 53 = .ok (.istore 5, 2) := by decide +kernel
theorem dX5_check_55 : decode cX5_check 55 = .ok (.aload_n 0, 1) := by decide +kernel
theorem dX5_check_56 : decode cX5_check 56 = .ok (.getfield 38, 3) := by decide +kernel
theorem dX5_check_59 : decode cX5_check 59 = .ok (.iconst 0, 1) := by decide +kernel
theorem dX5_check_60 : decode cX5_check 60 = .ok (.iaload, 1) := by decide +kernel
theorem dX5_check_61 : decode cX5_check 61 = .ok (.iload 5, 2) := by decide +kernel
theorem dX5_check_63 : decode cX5_check 63 = .ok (.if_icmp .ne 7, 3) := by decide +kernel
theorem dX5_check_66 : decode cX5_check 66 = .ok (.iconst 0, 1) := by decide +kernel
theorem dX5_check_67 : decode cX5_check 67 = .ok (.goto 11, 3) := by decide +kernel
theorem dX5_check_70 : decode cX5_check 70 = .ok (.aload_n 0, 1) := by decide +kernel
theorem dX5_check_71 : decode cX5_check 71 = .ok (.iload 4, 2) := by decide +kernel
theorem dX5_check_73 : decode cX5_check 73 = .ok (.iload_n 1, 1) := by decide +kernel
theorem dX5_check_74 : decode cX5_check 74 = .ok (.iload_n 2, 1) := by decide +kernel
theorem dX5_check_75 : decode cX5_check 75 = .ok (.invokevirtual 125, 3) := by decide +kernel
theorem dX5_check_78 : decode cX5_check 78 = .ok (.istore 6, 2) := by decide +kernel
theorem dX5_check_80 : decode cX5_check 80 = .ok (.aload_n 0, 1) := by decide +kernel
theorem dX5_check_81 : decode cX5_check 81 = .ok (.getfield 47, 3) := by decide +kernel
theorem dX5_check_84 : decode cX5_check 84 = .ok (.iconst 0, 1) := by decide +kernel
theorem dX5_check_85 : decode cX5_check 85 = .ok (.dup2, 1) := by decide +kernel
theorem dX5_check_86 : decode cX5_check 86 = .ok (.iaload, 1) := by decide +kernel
theorem dX5_check_87 : decode cX5_check 87 = .ok (.iconst 1, 1) := by decide +kernel
theorem dX5_check_88 : decode cX5_check 88 = .ok (.iadd, 1) := by decide +kernel
theorem dX5_check_89 : decode cX5_check 89 = .ok (.iastore, 1) := by decide +kernel
theorem dX5_check_90 : decode cX5_check 90 = .ok (.aload_n 0, 1) := by decide +kernel
theorem dX5_check_91 : decode cX5_check 91 = .ok (.getfield 47, 3) := by decide +kernel
theorem dX5_check_94 : decode cX5_check 94 = .ok (.iconst 1, 1) := by decide +kernel
theorem dX5_check_95 : decode cX5_check 95 = .ok (.iload 6, 2) := by decide +kernel
theorem dX5_check_97 : decode cX5_check 97 = .ok (.iadd, 1) := by decide +kernel
theorem dX5_check_98 : decode cX5_check 98 = .ok (.dup2, 1) := by decide +kernel
theorem dX5_check_99 : decode cX5_check 99 = .ok (.iaload, 1) := by decide +kernel
theorem dX5_check_100 : decode cX5_check 100 = .ok (.iconst 1, 1) := by decide +kernel
theorem dX5_check_101 : decode cX5_check 101 = .ok (.iadd, 1) := by decide +kernel
theorem dX5_check_102 : decode cX5_check 102 = .ok (.iastore, 1) := by decide +kernel
theorem dX5_check_103 : decode cX5_check 103 = .ok (.iload 6, 2) := by decide +kernel
theorem dX5_check_105 : decode cX5_check 105 = .ok (.ifCond .ne 10, 3) := by decide +kernel
theorem dX5_check_108 : decode cX5_check 108 = .ok (.aload_n 0, 1) := by decide +kernel
theorem dX5_check_109 : decode cX5_check 109 = .ok (.invokevirtual 129, 3) := by decide +kernel
theorem dX5_check_112 : decode cX5_check 112 = .ok (.goto 58, 3) := by decide +kernel
theorem dX5_check_115 : decode cX5_check 115 = .ok (.aload_n 0, 1) := by decide +kernel
theorem dX5_check_116 : decode cX5_check 116 = .ok (.dup, 1) := by decide +kernel
theorem dX5_check_117 : decode cX5_check 117 = .ok (.getfield 132, 3) := by decide +kernel
theorem dX5_check_120 : decode cX5_check 120 = .ok (.aload_n 0, 1) := by decide +kernel
theorem dX5_check_121 : decode cX5_check 121 = .ok (.getfield 101, 3) := by decide +kernel
theorem dX5_check_124 : decode cX5_check 124 = .ok (.iconst 1, 1) := by decide +kernel
theorem dX5_check_125 : decode cX5_check 125 = .ok (.isub, 1) := by decide +kernel
theorem dX5_check_126 : decode cX5_check 126 = .ok (.iadd, 1) := by decide +kernel
theorem dX5_check_127 : decode cX5_check 127 = .ok (.putfield 132, 3) := by decide +kernel
theorem dX5_check_130 : decode cX5_check 130 = .ok (.aload_n 0, 1) := by decide +kernel
theorem dX5_check_131 : decode cX5_check 131 = .ok (.iconst 0, 1) := by decide +kernel
theorem dX5_check_132 : decode cX5_check 132 = .ok (.putfield 101, 3) := by decide +kernel
theorem dX5_check_135 : decode cX5_check 135 = .ok (.aload_n 0, 1) := by decide +kernel
theorem dX5_check_136 : decode cX5_check 136 = .ok (.iconst 0, 1) := by decide +kernel
theorem dX5_check_137 : decode cX5_check 137 = .ok (.invokevirtual 135, 3) := by decide +kernel
theorem dX5_check_140 : decode cX5_check 140 = .ok (.iload_n 2, 1) := by decide +kernel
theorem dX5_check_141 : decode cX5_check 141 = .ok (.ifCond .eq 16, 3) := by decide +kernel
theorem dX5_check_144 : decode cX5_check 144 = .ok (.iload_n 1, 1) := by decide +kernel
theorem dX5_check_145 : decode cX5_check 145 = .ok (.iconst 1, 1) := by decide +kernel
theorem dX5_check_146 : decode cX5_check 146 = .ok (.if_icmp .ne 11, 3) := by decide +kernel
theorem dX5_check_149 : decode cX5_check 149 = .ok (.aload_n 0, 1) := by decide +kernel
theorem dX5_check_150 : decode cX5_check 150 = .ok (.iload 4, 2) := by decide +kernel
theorem dX5_check_152 : decode cX5_check 152 = .ok (.iconst 4, 1) := by decide +kernel
theorem dX5_check_153 : decode cX5_check 153 = .ok (.iadd, 1) := by decide +kernel
theorem dX5_check_154 : decode cX5_check 154 = .ok (.invokevirtual 107, 3) := by decide +kernel
theorem dX5_check_157 : decode cX5_check 157 = .ok (.iload_n 2, 1) := by decide +kernel
theorem dX5_check_158 : decode cX5_check 158 = .ok (.ifCond .eq 12, 3) := by decide +kernel
theorem dX5_check_161 : decode cX5_check 161 = .ok (.iload_n 1, 1) := by decide +kernel
theorem dX5_check_162 : decode cX5_check 162 = .ok (.iconst 2, 1) := by decide +kernel
theorem dX5_check_163 : decode cX5_check 163 = .ok (.if_icmp .ne 7, 3) := by decide +kernel
theorem dX5_check_166 : decode cX5_check 166 = .ok (.aload_n 0, 1) := by decide +kernel
theorem dX5_check_167 : decode cX5_check 167 = .ok (.invokevirtual 111, 3) := by decide +kernel
theorem dX5_check_170 : decode cX5_check 170 = .ok (.iload_n 2, 1) := by decide +kernel
theorem dX5_check_171 : decode cX5_check 171 = .ok (.ifCond .eq 12, 3) := by decide +kernel
theorem dX5_check_174 : decode cX5_check 174 = .ok (.aload_n 0, 1) := by decide +kernel
theorem dX5_check_175 : decode cX5_check 175 = .ok (.iload 4, 2) := by decide +kernel
theorem dX5_check_177 : decode cX5_check 177 = .ok (.iload_n 1, 1) := by decide +kernel
theorem dX5_check_178 : decode cX5_check 178 = .ok (.iload 5, 2) := by decide +kernel
theorem dX5_check_180 : decode cX5_check 180 = .ok (.invokevirtual 138, 3) := by decide +kernel
theorem dX5_check_183 : decode cX5_check 183 = .ok (.iload 6, 2) := by decide +kernel
theorem dX5_check_185 : decode cX5_check 185 = .ok (.ireturn, 1) := by decide +kernel
theorem dX5_within_0 : decode cX5_within 0 = .ok (.iload_n 0, 1) := by decide +kernel
theorem dX5_within_1 : decode cX5_within 1 = .ok (.iload_n 1, 1) := by decide +kernel
theorem dX5_within_2 : decode cX5_within 2 = .ok (.if_icmp .lt 12, 3) := by decide +kernel
theorem dX5_within_5 : decode cX5_within 5 = .ok (.iload_n 0, 1) := by decide +kernel
theorem dX5_within_6 : decode cX5_within 6 = .ok (.iload_n 2, 1) := by decide +kernel
theorem dX5_within_7 : decode cX5_within 7 = .ok (.if_icmp .gt 7, 3) := by decide +kernel
theorem dX5_within_10 : decode cX5_within 10 = .ok (.iconst 1, 1) := by decide +kernel
theorem dX5_within_11 : decode cX5_within 11 = .ok (.goto 4, 3) := by decide +kernel
theorem dX5_within_14 : decode cX5_within 14 = .ok (.iconst 0, 1) := by decide +kernel
theorem dX5_within_15 : decode cX5_within 15 = .ok (.ireturn, 1) := by decide +kernel
theorem dX5_causeOf_0 : decode cX5_causeOf 0 = .ok (.aload_n 0, 1) := by decide +kernel
theorem dX5_causeOf_1 : decode cX5_causeOf 1 = .ok (.iload_n 1, 1) := by decide +kernel
theorem dX5_causeOf_2 : decode cX5_causeOf 2 = .ok (.invokevirtual 89, 3) := by decide +kernel
theorem dX5_causeOf_5 : decode cX5_causeOf 5 = .ok (.istore 4, 2) := by decide +kernel
theorem dX5_causeOf_7 : decode cX5_causeOf 7 = .ok (.iload 4, 2) := by decide +kernel
theorem dX5_causeOf_9 : decode cX5_causeOf 9 = .ok (.ifCond .ge 9, 3) := by decide +kernel
theorem dX5_causeOf_12 : decode cX5_causeOf 12 = .ok (.iload_n 3, 1) := by decide +kernel
theorem dX5_causeOf_13 : decode cX5_causeOf 13 = .ok (.ifCond .eq 5, 3) := by decide +kernel
theorem dX5_causeOf_16 : decode cX5_causeOf 16 = .ok (.iconst 1, 1) := by decide +kernel
theorem dX5_causeOf_17 : decode cX5_causeOf 17 = .ok (.ireturn, 1) := by decide +kernel
theorem dX5_causeOf_18 : decode cX5_causeOf 18 = .ok (.iload 4, 2) := by decide +kernel
theorem dX5_causeOf_20 : decode cX5_causeOf 20 = .ok (.ifCond .lt 16, 3) := by decide +kernel
theorem dX5_causeOf_23 : decode cX5_causeOf 23 = .ok (.aload_n 0, 1) := by decide +kernel
theorem dX5_causeOf_24 : decode cX5_causeOf 24 = .ok (.getfield 17, 3) := by decide +kernel
theorem dX5_causeOf_27 : decode cX5_causeOf 27 = .ok (.iload 4, 2) := by decide +kernel
theorem dX5_causeOf_29 : decode cX5_causeOf 29 = .ok (.iaload, 1) := by decide +kernel
theorem dX5_causeOf_30 : decode cX5_causeOf 30 = .ok (.iload_n 2, 1) := by decide +kernel
theorem dX5_causeOf_31 : decode cX5_causeOf 31 = .ok (.if_icmp .eq 5, 3) := by decide +kernel
theorem dX5_causeOf_34 : decode cX5_causeOf 34 = .ok (.iconst 2, 1) := by decide +kernel
theorem dX5_causeOf_35 : decode cX5_causeOf 35 = .ok (.ireturn, 1) := by decide +kernel
theorem dX5_causeOf_36 : decode cX5_causeOf 36 = .ok (.iload_n 2, 1) := by decide +kernel
theorem dX5_causeOf_37 : decode cX5_causeOf 37 = .ok (.iconst 2, 1) := by decide +kernel
theorem dX5_causeOf_38 : decode cX5_causeOf 38 = .ok (.if_icmp .ne 5, 3) := by decide +kernel
theorem dX5_causeOf_41 : decode cX5_causeOf 41 = .ok (.iconst 3, 1) := by decide +kernel
theorem dX5_causeOf_42 : decode cX5_causeOf 42 = .ok (.ireturn, 1) := by decide +kernel
theorem dX5_causeOf_43 : decode cX5_causeOf 43 = .ok (.iload_n 2, 1) := by decide +kernel
theorem dX5_causeOf_44 : decode cX5_causeOf 44 = .ok (.iconst 3, 1) := by decide +kernel
theorem dX5_causeOf_45 : decode cX5_causeOf 45 = .ok (.if_icmp .ne 5, 3) := by decide +kernel
theorem dX5_causeOf_48 : decode cX5_causeOf 48 = .ok (.iconst 4, 1) := by decide +kernel
theorem dX5_causeOf_49 : decode cX5_causeOf 49 = .ok (.ireturn, 1) := by decide +kernel
theorem dX5_causeOf_50 : decode cX5_causeOf 50 = .ok (.iload_n 3, 1) := by decide +kernel
theorem dX5_causeOf_51 : decode cX5_causeOf 51 = .ok (.ifCond .eq 8, 3) := by decide +kernel
theorem dX5_causeOf_54 : decode cX5_causeOf 54 = .ok (.bipush 6, 2) := by decide +kernel
theorem dX5_causeOf_56 : decode cX5_causeOf 56 = .ok (.goto 4, 3) := by decide +kernel
theorem dX5_causeOf_59 : decode cX5_causeOf 59 = .ok (.iconst 5, 1) := by decide +kernel
theorem dX5_causeOf_60 : decode cX5_causeOf 60 = .ok (.ireturn, 1) := by decide +kernel
theorem dX5_dropFirst_0 : decode cX5_dropFirst 0 = .ok (.aload_n 0, 1) := by decide +kernel
theorem dX5_dropFirst_1 : decode cX5_dropFirst 1 = .ok (.dup, 1) := by decide +kernel
end
section
theorem dX5_dropFirst_2 : decode cX5_dropFirst 2 = .ok (.getfield 101, 3) := by decide +kernel
theorem dX5_dropFirst_5 : decode cX5_dropFirst 5 = .ok (.iconst 1, 1) := by decide +kernel
theorem dX5_dropFirst_6 : decode cX5_dropFirst 6 = .ok (.isub, 1) := by decide +kernel
theorem dX5_dropFirst_7 : decode cX5_dropFirst 7 = .ok (.putfield 101, 3) := by decide +kernel
theorem dX5_dropFirst_10 : decode cX5_dropFirst 10 = .ok (.iconst 0, 1) := by decide +kernel
theorem dX5_dropFirst_11 : decode cX5_dropFirst 11 = .ok (.istore_n 1, 1) := by decide +kernel
theorem dX5_dropFirst_12 : decode cX5_dropFirst 12 = .ok (.iload_n 1, 1) := by decide +kernel
theorem dX5_dropFirst_13 : decode cX5_dropFirst 13 = .ok (.aload_n 0, 1) := by decide +kernel
theorem dX5_dropFirst_14 : decode cX5_dropFirst 14 = .ok (.getfield 101, 3) := by decide +kernel
theorem dX5_dropFirst_17 : decode cX5_dropFirst 17 = .ok (.if_icmp .ge 90, 3) := by decide +kernel
theorem dX5_dropFirst_20 : decode cX5_dropFirst 20 = .ok (.aload_n 0, 1) := by decide +kernel
theorem dX5_dropFirst_21 : decode cX5_dropFirst 21 = .ok (.getfield 35, 3) := by decide +kernel
theorem dX5_dropFirst_24 : decode cX5_dropFirst 24 = .ok (.iload_n 1, 1) := by decide +kernel
theorem dX5_dropFirst_25 : decode cX5_dropFirst 25 = .ok (.aload_n 0, 1) := by decide +kernel
theorem dX5_dropFirst_26 : decode cX5_dropFirst 26 = .ok (.getfield 35, 3) := by decide +kernel
theorem dX5_dropFirst_29 : decode cX5_dropFirst 29 = .ok (.iload_n 1, 1) := by decide +kernel
theorem dX5_dropFirst_30 : decode cX5_dropFirst 30 = .ok (.iconst 1, 1) := by decide +kernel
theorem dX5_dropFirst_31 : decode cX5_dropFirst 31 = .ok (.iadd, 1) := by decide +kernel
theorem dX5_dropFirst_32 : decode cX5_dropFirst 32 = .ok (.iaload, 1) := by decide +kernel
theorem dX5_dropFirst_33 : decode cX5_dropFirst 33 = .ok (.iastore, 1) := by decide +kernel
theorem dX5_dropFirst_34 : decode cX5_dropFirst 34 = .ok (.aload_n 0, 1) := by decide +kernel
theorem dX5_dropFirst_35 : decode cX5_dropFirst 35 = .ok (.getfield 38, 3) := by decide +kernel
theorem dX5_dropFirst_38 : decode cX5_dropFirst 38 = .ok (.iload_n 1, 1) := by decide +kernel
theorem dX5_dropFirst_39 : decode cX5_dropFirst 39 = .ok (.aload_n 0, 1) := by decide +kernel
theorem dX5_dropFirst_40 : decode cX5_dropFirst 40 = .ok (.getfield 38, 3) := by decide +kernel
theorem dX5_dropFirst_43 : decode cX5_dropFirst 43 = .ok (.iload_n 1, 1) := by decide +kernel
theorem dX5_dropFirst_44 : decode cX5_dropFirst 44 = .ok (.iconst 1, 1) := by decide +kernel
theorem dX5_dropFirst_45 : decode cX5_dropFirst 45 = .ok (.iadd, 1) := by decide +kernel
theorem dX5_dropFirst_46 : decode cX5_dropFirst 46 = .ok (.iaload, 1) := by decide +kernel
theorem dX5_dropFirst_47 : decode cX5_dropFirst 47 = .ok (.iastore, 1) := by decide +kernel
theorem dX5_dropFirst_48 : decode cX5_dropFirst 48 = .ok (.aload_n 0, 1) := by decide +kernel
theorem dX5_dropFirst_49 : decode cX5_dropFirst 49 = .ok (.getfield 41, 3) := by decide +kernel
theorem dX5_dropFirst_52 : decode cX5_dropFirst 52 = .ok (.iload_n 1, 1) := by decide +kernel
theorem dX5_dropFirst_53 : decode cX5_dropFirst 53 = .ok (.aload_n 0, 1) := by decide +kernel
theorem dX5_dropFirst_54 : decode cX5_dropFirst 54 = .ok (.getfield 41, 3) := by decide +kernel
theorem dX5_dropFirst_57 : decode cX5_dropFirst 57 = .ok (.iload_n 1, 1) := by decide +kernel
theorem dX5_dropFirst_58 : decode cX5_dropFirst 58 = .ok (.iconst 1, 1) := by decide +kernel
theorem dX5_dropFirst_59 : decode cX5_dropFirst 59 = .ok (.iadd, 1) := by decide +kernel
theorem dX5_dropFirst_60 : decode cX5_dropFirst 60 = .ok (.iaload, 1) := by decide +kernel
theorem dX5_dropFirst_61 : decode cX5_dropFirst 61 = .ok (.iastore, 1) := by decide +kernel
theorem dX5_dropFirst_62 : decode cX5_dropFirst 62 = .ok (.iconst 0, 1) := by decide +kernel
theorem dX5_dropFirst_63 : decode cX5_dropFirst 63 = .ok (.istore_n 2, 1) := by decide +kernel
theorem dX5_dropFirst_64 : decode cX5_dropFirst 64 = .ok (.iload_n 2, 1) := by decide +kernel
theorem dX5_dropFirst_65 : decode cX5_dropFirst 65 = .ok (.bipush 17, 2) := by decide +kernel
theorem dX5_dropFirst_67 : decode cX5_dropFirst 67 = .ok (.if_icmp .ge 34, 3) := by decide +kernel
theorem dX5_dropFirst_70 : decode cX5_dropFirst 70 = .ok (.aload_n 0, 1) := by decide +kernel
theorem dX5_dropFirst_71 : decode cX5_dropFirst 71 = .ok (.getfield 44, 3) := by decide +kernel
theorem dX5_dropFirst_74 : decode cX5_dropFirst 74 = .ok (.bipush 17, 2) := by decide +kernel
theorem dX5_dropFirst_76 : decode cX5_dropFirst 76 = .ok (.iload_n 1, 1) := by decide +kernel
theorem dX5_dropFirst_77 : decode cX5_dropFirst 77 = .ok (.imul, 1) := by decide +kernel
theorem dX5_dropFirst_78 : decode cX5_dropFirst 78 = .ok (.iload_n 2, 1) := by decide +kernel
theorem dX5_dropFirst_79 : decode cX5_dropFirst 79 = .ok (.iadd, 1) := by decide +kernel
theorem dX5_dropFirst_80 : decode cX5_dropFirst 80 = .ok (.aload_n 0, 1) := by decide +kernel
theorem dX5_dropFirst_81 : decode cX5_dropFirst 81 = .ok (.getfield 44, 3) := by decide +kernel
theorem dX5_dropFirst_84 : decode cX5_dropFirst 84 = .ok (.bipush 17, 2) := by decide +kernel
theorem dX5_dropFirst_86 : decode cX5_dropFirst 86 = .ok (.iload_n 1, 1) := by decide +kernel
theorem dX5_dropFirst_87 : decode cX5_dropFirst 87 = .ok (.imul, 1) := by decide +kernel
theorem dX5_dropFirst_88 : decode cX5_dropFirst 88 = .ok (.bipush 17, 2) := by decide +kernel
theorem dX5_dropFirst_90 : decode cX5_dropFirst 90 = .ok (.iadd, 1) := by decide +kernel
theorem dX5_dropFirst_91 : decode cX5_dropFirst 91 = .ok (.iload_n 2, 1) := by decide +kernel
theorem dX5_dropFirst_92 : decode cX5_dropFirst 92 = .ok (.iadd, 1) := by decide +kernel
theorem dX5_dropFirst_93 : decode cX5_dropFirst 93 = .ok (.iaload, 1) := by decide +kernel
theorem dX5_dropFirst_94 : decode cX5_dropFirst 94 = .ok (.iastore, 1) := by decide +kernel
theorem dX5_dropFirst_95 : decode cX5_dropFirst 95 = .ok (.iinc 2 1, 3) := by decide +kernel
theorem dX5_dropFirst_98 : decode cX5_dropFirst 98 = .ok (.goto (-34), 3) := by decide +kernel
theorem dX5_dropFirst_101 : decode cX5_dropFirst 101 = .ok (.iinc 1 1, 3) := by decide +kernel
theorem dX5_dropFirst_104 : decode cX5_dropFirst 104 = .ok (.goto (-92), 3) := by decide +kernel
theorem dX5_dropFirst_107 : decode cX5_dropFirst 107 = .ok (.return_, 1) := by decide +kernel
theorem dX5_ringAsBefore_0 : decode cX5_ringAsBefore 0 = .ok (.aload_n 0, 1) := by decide +kernel
theorem dX5_ringAsBefore_1 : decode cX5_ringAsBefore 1 = .ok (.aload_n 0, 1) := by decide +kernel
theorem dX5_ringAsBefore_2 : decode cX5_ringAsBefore 2 = .ok (.getfield 41, 3) := by decide +kernel
theorem dX5_ringAsBefore_5 : decode cX5_ringAsBefore 5 = .ok (.iload_n 1, 1) := by decide +kernel
theorem dX5_ringAsBefore_6 : decode cX5_ringAsBefore 6 = .ok (.iaload, 1) := by decide +kernel
theorem dX5_ringAsBefore_7 : decode cX5_ringAsBefore 7 = .ok (.putfield 80, 3) := by decide +kernel
theorem dX5_ringAsBefore_10 : decode cX5_ringAsBefore 10 = .ok (.iconst 0, 1) := by decide +kernel
theorem dX5_ringAsBefore_11 : decode cX5_ringAsBefore 11 = .ok (.istore_n 2, 1) := by decide +kernel
theorem dX5_ringAsBefore_12 : decode cX5_ringAsBefore 12 = .ok (.iload_n 2, 1) := by decide +kernel
theorem dX5_ringAsBefore_13 : decode cX5_ringAsBefore 13 = .ok (.bipush 17, 2) := by decide +kernel
theorem dX5_ringAsBefore_15 : decode cX5_ringAsBefore 15 = .ok (.if_icmp .ge 26, 3) := by decide +kernel
theorem dX5_ringAsBefore_18 : decode cX5_ringAsBefore 18 = .ok (.aload_n 0, 1) := by decide +kernel
theorem dX5_ringAsBefore_19 : decode cX5_ringAsBefore 19 = .ok (.getfield 32, 3) := by decide +kernel
theorem dX5_ringAsBefore_22 : decode cX5_ringAsBefore 22 = .ok (.iload_n 2, 1) := by decide +kernel
theorem dX5_ringAsBefore_23 : decode cX5_ringAsBefore 23 = .ok (.aload_n 0, 1) := by decide +kernel
theorem dX5_ringAsBefore_24 : decode cX5_ringAsBefore 24 = .ok (.getfield 44, 3) := by decide +kernel
theorem dX5_ringAsBefore_27 : decode cX5_ringAsBefore 27 = .ok (.bipush 17, 2) := by decide +kernel
theorem dX5_ringAsBefore_29 : decode cX5_ringAsBefore 29 = .ok (.iload_n 1, 1) := by decide +kernel
theorem dX5_ringAsBefore_30 : decode cX5_ringAsBefore 30 = .ok (.imul, 1) := by decide +kernel
theorem dX5_ringAsBefore_31 : decode cX5_ringAsBefore 31 = .ok (.iload_n 2, 1) := by decide +kernel
theorem dX5_ringAsBefore_32 : decode cX5_ringAsBefore 32 = .ok (.iadd, 1) := by decide +kernel
theorem dX5_ringAsBefore_33 : decode cX5_ringAsBefore 33 = .ok (.iaload, 1) := by decide +kernel
theorem dX5_ringAsBefore_34 : decode cX5_ringAsBefore 34 = .ok (.iastore, 1) := by decide +kernel
theorem dX5_ringAsBefore_35 : decode cX5_ringAsBefore 35 = .ok (.iinc 2 1, 3) := by decide +kernel
theorem dX5_ringAsBefore_38 : decode cX5_ringAsBefore 38 = .ok (.goto (-26), 3) := by decide +kernel
theorem dX5_ringAsBefore_41 : decode cX5_ringAsBefore 41 = .ok (.return_, 1) := by decide +kernel
theorem dX5_learn_0 : decode cX5_learn 0 = .ok (.aload_n 0, 1) := by decide +kernel
theorem dX5_learn_1 : decode cX5_learn 1 = .ok (.iload_n 1, 1) := by decide +kernel
theorem dX5_learn_2 : decode cX5_learn 2 = .ok (.invokevirtual 89, 3) := by decide +kernel
theorem dX5_learn_5 : decode cX5_learn 5 = .ok (.istore 4, 2) := by decide +kernel
theorem dX5_learn_7 : decode cX5_learn 7 = .ok (.iload 4, 2) := by decide +kernel
theorem dX5_learn_9 : decode cX5_learn 9 = .ok (.ifCond .ge 37, 3) := by decide +kernel
theorem dX5_learn_12 : decode cX5_learn 12 = .ok (.aload_n 0, 1) := by decide +kernel
theorem dX5_learn_13 : decode cX5_learn 13 = .ok (.getfield 54, 3) := by decide +kernel
theorem dX5_learn_16 : decode cX5_learn 16 = .ok (.ifCond .le 30, 3) := by decide +kernel
theorem dX5_learn_19 : decode cX5_learn 19 = .ok (.aload_n 0, 1) := by decide +kernel
theorem dX5_learn_20 : decode cX5_learn 20 = .ok (.iload_n 1, 1) := by decide +kernel
theorem dX5_learn_21 : decode cX5_learn 21 = .ok (.invokevirtual 114, 3) := by decide +kernel
theorem dX5_learn_24 : decode cX5_learn 24 = .ok (.istore 4, 2) := by decide +kernel
theorem dX5_learn_26 : decode cX5_learn 26 = .ok (.aload_n 0, 1) := by decide +kernel
theorem dX5_learn_27 : decode cX5_learn 27 = .ok (.getfield 7, 3) := by decide +kernel
theorem dX5_learn_30 : decode cX5_learn 30 = .ok (.iload 4, 2) := by decide +kernel
theorem dX5_learn_32 : decode cX5_learn 32 = .ok (.iconst 1, 1) := by decide +kernel
theorem dX5_learn_33 : decode cX5_learn 33 = .ok (.bastore, 1) := by decide +kernel
theorem dX5_learn_34 : decode cX5_learn 34 = .ok (.aload_n 0, 1) := by decide +kernel
theorem dX5_learn_35 : decode cX5_learn 35 = .ok (.getfield 13, 3) := by decide +kernel
theorem dX5_learn_38 : decode cX5_learn 38 = .ok (.iload 4, 2) := by decide +kernel
theorem dX5_learn_40 : decode cX5_learn 40 = .ok (.aload_n 0, 1) := by decide +kernel
theorem dX5_learn_41 : decode cX5_learn 41 = .ok (.iload_n 1, 1) := by decide +kernel
theorem dX5_learn_42 : decode cX5_learn 42 = .ok (.invokevirtual 74, 3) := by decide +kernel
theorem dX5_learn_45 : decode cX5_learn 45 = .ok (.iastore, 1) := by decide +kernel
theorem dX5_learn_46 : decode cX5_learn 46 = .ok (.iload 4, 2) := by decide +kernel
theorem dX5_learn_48 : decode cX5_learn 48 = .ok (.ifCond .lt 40, 3) := by decide +kernel
theorem dX5_learn_51 : decode cX5_learn 51 = .ok (.aload_n 0, 1) := by decide +kernel
theorem dX5_learn_52 : decode cX5_learn 52 = .ok (.getfield 17, 3) := by decide +kernel
theorem dX5_learn_55 : decode cX5_learn 55 = .ok (.iload 4, 2) := by decide +kernel
theorem dX5_learn_57 : decode cX5_learn 57 = .ok (.iload_n 2, 1) := by decide +kernel
theorem dX5_learn_58 : decode cX5_learn 58 = .ok (.iastore, 1) := by decide +kernel
theorem dX5_learn_59 : decode cX5_learn 59 = .ok (.aload_n 0, 1) := by decide +kernel
theorem dX5_learn_60 : decode cX5_learn 60 = .ok (.getfield 20, 3) := by decide +kernel
theorem dX5_learn_63 : decode cX5_learn 63 = .ok (.iload 4, 2) := by decide +kernel
theorem dX5_learn_65 : decode cX5_learn 65 = .ok (.iload_n 3, 1) := by decide +kernel
theorem dX5_learn_66 : decode cX5_learn 66 = .ok (.iastore, 1) := by decide +kernel
theorem dX5_learn_67 : decode cX5_learn 67 = .ok (.aload_n 0, 1) := by decide +kernel
theorem dX5_learn_68 : decode cX5_learn 68 = .ok (.dup, 1) := by decide +kernel
theorem dX5_learn_69 : decode cX5_learn 69 = .ok (.getfield 117, 3) := by decide +kernel
theorem dX5_learn_72 : decode cX5_learn 72 = .ok (.iconst 1, 1) := by decide +kernel
theorem dX5_learn_73 : decode cX5_learn 73 = .ok (.iadd, 1) := by decide +kernel
theorem dX5_learn_74 : decode cX5_learn 74 = .ok (.putfield 117, 3) := by decide +kernel
theorem dX5_learn_77 : decode cX5_learn 77 = .ok (.aload_n 0, 1) := by decide +kernel
theorem dX5_learn_78 : decode cX5_learn 78 = .ok (.getfield 23, 3) := by decide +kernel
theorem dX5_learn_81 : decode cX5_learn 81 = .ok (.iload 4, 2) := by decide +kernel
theorem dX5_learn_83 : decode cX5_learn 83 = .ok (.aload_n 0, 1) := by decide +kernel
theorem dX5_learn_84 : decode cX5_learn 84 = .ok (.getfield 117, 3) := by decide +kernel
theorem dX5_learn_87 : decode cX5_learn 87 = .ok (.iastore, 1) := by decide +kernel
theorem dX5_learn_88 : decode cX5_learn 88 = .ok (.iload_n 2, 1) := by decide +kernel
theorem dX5_learn_89 : decode cX5_learn 89 = .ok (.iconst 3, 1) := by decide +kernel
theorem dX5_learn_90 : decode cX5_learn 90 = .ok (.if_icmp .ne 28, 3) := by decide +kernel
theorem dX5_learn_93 : decode cX5_learn 93 = .ok (.aload_n 0, 1) := by decide +kernel
theorem dX5_learn_94 : decode cX5_learn 94 = .ok (.getfield 26, 3) := by decide +kernel
theorem dX5_learn_97 : decode cX5_learn 97 = .ok (.aload_n 0, 1) := by decide +kernel
theorem dX5_learn_98 : decode cX5_learn 98 = .ok (.iload_n 1, 1) := by decide +kernel
theorem dX5_learn_99 : decode cX5_learn 99 = .ok (.invokevirtual 92, 3) := by decide +kernel
theorem dX5_learn_102 : decode cX5_learn 102 = .ok (.iload_n 1, 1) := by decide +kernel
theorem dX5_learn_103 : decode cX5_learn 103 = .ok (.invokestatic 95, 3) := by decide +kernel
theorem dX5_learn_106 : decode cX5_learn 106 = .ok (.iastore, 1) := by decide +kernel
theorem dX5_learn_107 : decode cX5_learn 107 = .ok (.aload_n 0, 1) := by decide +kernel
theorem dX5_learn_108 : decode cX5_learn 108 = .ok (.getfield 29, 3) := by decide +kernel
theorem dX5_learn_111 : decode cX5_learn 111 = .ok (.aload_n 0, 1) := by decide +kernel
theorem dX5_learn_112 : decode cX5_learn 112 = .ok (.iload_n 1, 1) := by decide +kernel
theorem dX5_learn_113 : decode cX5_learn 113 = .ok (.invokevirtual 92, 3) := by decide +kernel
theorem dX5_learn_116 : decode cX5_learn 116 = .ok (.iload_n 3, 1) := by decide +kernel
theorem dX5_learn_117 : decode cX5_learn 117 = .ok (.iastore, 1) := by decide +kernel
theorem dX5_learn_118 : decode cX5_learn 118 = .ok (.aload_n 0, 1) := by decide +kernel
theorem dX5_learn_119 : decode cX5_learn 119 = .ok (.aload_n 0, 1) := by decide +kernel
theorem dX5_learn_120 : decode cX5_learn 120 = .ok (.getfield 77, 3) := by decide +kernel
theorem dX5_learn_123 : decode cX5_learn 123 = .ok (.iconst 3, 1) := by decide +kernel
theorem dX5_learn_124 : decode cX5_learn 124 = .ok (.ishl, 1) := by decide +kernel
theorem dX5_learn_125 : decode cX5_learn 125 = .ok (.iload_n 3, 1) := by decide +kernel
theorem dX5_learn_126 : decode cX5_learn 126 = .ok (.iconst 2, 1) := by decide +kernel
theorem dX5_learn_127 : decode cX5_learn 127 = .ok (.iushr, 1) := by decide +kernel
theorem dX5_learn_128 : decode cX5_learn 128 = .ok (.ixor, 1) := by decide +kernel
theorem dX5_learn_129 : decode cX5_learn 129 = .ok (.ldc 120, 2) := by decide +kernel
theorem dX5_learn_131 : decode cX5_learn 131 = .ok (.iand, 1) := by decide +kernel
theorem dX5_learn_132 : decode cX5_learn 132 = .ok (.putfield 77, 3) := by decide +kernel
theorem dX5_learn_135 : decode cX5_learn 135 = .ok (.return_, 1) := by decide +kernel
theorem dX5_wayFor_0 : decode cX5_wayFor 0 = .ok (.aload_n 0, 1) := by decide +kernel
theorem dX5_wayFor_1 : decode cX5_wayFor 1 = .ok (.iload_n 1, 1) := by decide +kernel
theorem dX5_wayFor_2 : decode cX5_wayFor 2 = .ok (.invokevirtual 70, 3) := by decide +kernel
theorem dX5_wayFor_5 : decode cX5_wayFor 5 = .ok (.istore_n 2, 1) := by decide +kernel
theorem dX5_wayFor_6 : decode cX5_wayFor 6 = .ok (.iload_n 2, 1) := by decide +kernel
theorem dX5_wayFor_7 : decode cX5_wayFor 7 = .ok (.istore_n 3, 1) := by decide +kernel
theorem dX5_wayFor_8 : decode cX5_wayFor 8 = .ok (.iload_n 2, 1) := by decide +kernel
theorem dX5_wayFor_9 : decode cX5_wayFor 9 = .ok (.istore 4, 2) := by decide +kernel
theorem dX5_wayFor_11 : decode cX5_wayFor 11 = .ok (.iload 4, 2) := by decide +kernel
theorem dX5_wayFor_13 : decode cX5_wayFor 13 = .ok (.iload_n 2, 1) := by decide +kernel
theorem dX5_wayFor_14 : decode cX5_wayFor 14 = .ok (.aload_n 0, 1) := by decide +kernel
theorem dX5_wayFor_15 : decode cX5_wayFor 15 = .ok (.getfield 61, 3) := by decide +kernel
theorem dX5_wayFor_18 : decode cX5_wayFor 18 = .ok (.iadd, 1) := by decide +kernel
theorem dX5_wayFor_19 : decode cX5_wayFor 19 = .ok (.if_icmp .ge 45, 3) := by decide +kernel
theorem dX5_wayFor_22 : decode cX5_wayFor 22 = .ok (.aload_n 0, 1) := by decide +kernel
theorem dX5_wayFor_23 : decode cX5_wayFor 23 = .ok (.getfield 7, 3) := by decide +kernel
theorem dX5_wayFor_26 : decode cX5_wayFor 26 = .ok (.iload 4, 2) := by decide +kernel
theorem dX5_wayFor_28 : decode cX5_wayFor 28 = .ok (.baload, 1) := by decide +kernel
theorem dX5_wayFor_29 : decode cX5_wayFor 29 = .ok (.ifCond .ne 6, 3) := by decide +kernel
theorem dX5_wayFor_32 : decode cX5_wayFor 32 = .ok (.iload 4, 2) := by decide +kernel
theorem dX5_wayFor_34 : decode cX5_wayFor 34 = .ok (.ireturn, 1) := by decide +kernel
theorem dX5_wayFor_35 : decode cX5_wayFor 35 = .ok (.aload_n 0, 1) := by decide +kernel
theorem dX5_wayFor_36 : decode cX5_wayFor 36 = .ok (.getfield 23, 3) := by decide +kernel
theorem dX5_wayFor_39 : decode cX5_wayFor 39 = .ok (.iload 4, 2) := by decide +kernel
theorem dX5_wayFor_41 : decode cX5_wayFor 41 = .ok (.iaload, 1) := by decide +kernel
theorem dX5_wayFor_42 : decode cX5_wayFor 42 = .ok (.aload_n 0, 1) := by decide +kernel
theorem dX5_wayFor_43 : decode cX5_wayFor 43 = .ok (.getfield 23, 3) := by decide +kernel
theorem dX5_wayFor_46 : decode cX5_wayFor 46 = .ok (.iload_n 3, 1) := by decide +kernel
theorem dX5_wayFor_47 : decode cX5_wayFor 47 = .ok (.iaload, 1) := by decide +kernel
theorem dX5_wayFor_48 : decode cX5_wayFor 48 = .ok (.if_icmp .ge 8, 3) := by decide +kernel
theorem dX5_wayFor_51 : decode cX5_wayFor 51 = .ok (.iload 4, 2) := by decide +kernel
theorem dX5_wayFor_53 : decode cX5_wayFor 53 = .ok (.goto 4, 3) := by decide +kernel
theorem dX5_wayFor_56 : decode cX5_wayFor 56 = .ok (.iload_n 3, 1) := by decide +kernel
theorem dX5_wayFor_57 : decode cX5_wayFor 57 = .ok (.istore_n 3, 1) := by decide +kernel
theorem dX5_wayFor_58 : decode cX5_wayFor 58 = .ok (.iinc 4 1, 3) := by decide +kernel
theorem dX5_wayFor_61 : decode cX5_wayFor 61 = .ok (.goto (-50), 3) := by decide +kernel
theorem dX5_wayFor_64 : decode cX5_wayFor 64 = .ok (.iload_n 3, 1) := by decide +kernel
theorem dX5_wayFor_65 : decode cX5_wayFor 65 = .ok (.ireturn, 1) := by decide +kernel
theorem dX5_flush_0 : decode cX5_flush 0 = .ok (.aload_n 0, 1) := by decide +kernel
theorem dX5_flush_1 : decode cX5_flush 1 = .ok (.iconst 0, 1) := by decide +kernel
theorem dX5_flush_2 : decode cX5_flush 2 = .ok (.putfield 67, 3) := by decide +kernel
theorem dX5_flush_5 : decode cX5_flush 5 = .ok (.aload_n 0, 1) := by decide +kernel
theorem dX5_flush_6 : decode cX5_flush 6 = .ok (.getfield 101, 3) := by decide +kernel
theorem dX5_flush_9 : decode cX5_flush 9 = .ok (.istore_n 1, 1) := by decide +kernel
theorem dX5_flush_10 : decode cX5_flush 10 = .ok (.iload_n 1, 1) := by decide +kernel
theorem dX5_flush_11 : decode cX5_flush 11 = .ok (.ifCond .le 8, 3) := by decide +kernel
theorem dX5_flush_14 : decode cX5_flush 14 = .ok (.aload_n 0, 1) := by decide +kernel
theorem dX5_flush_15 : decode cX5_flush 15 = .ok (.iconst 0, 1) := by decide +kernel
theorem dX5_flush_16 : decode cX5_flush 16 = .ok (.invokevirtual 135, 3) := by decide +kernel
theorem dX5_flush_19 : decode cX5_flush 19 = .ok (.aload_n 0, 1) := by decide +kernel
theorem dX5_flush_20 : decode cX5_flush 20 = .ok (.iconst 0, 1) := by decide +kernel
theorem dX5_flush_21 : decode cX5_flush 21 = .ok (.putfield 101, 3) := by decide +kernel
theorem dX5_flush_24 : decode cX5_flush 24 = .ok (.aload_n 0, 1) := by decide +kernel
theorem dX5_flush_25 : decode cX5_flush 25 = .ok (.dup, 1) := by decide +kernel
theorem dX5_flush_26 : decode cX5_flush 26 = .ok (.getfield 132, 3) := by decide +kernel
theorem dX5_flush_29 : decode cX5_flush 29 = .ok (.iload_n 1, 1) := by decide +kernel
theorem dX5_flush_30 : decode cX5_flush 30 = .ok (.iadd, 1) := by decide +kernel
theorem dX5_flush_31 : decode cX5_flush 31 = .ok (.putfield 132, 3) := by decide +kernel
theorem dX5_flush_34 : decode cX5_flush 34 = .ok (.iload_n 1, 1) := by decide +kernel
theorem dX5_flush_35 : decode cX5_flush 35 = .ok (.ireturn, 1) := by decide +kernel
theorem dX5_entry_0 : decode cX5_entry 0 = .ok (.aload_n 0, 1) := by decide +kernel
theorem dX5_entry_1 : decode cX5_entry 1 = .ok (.iconst 0, 1) := by decide +kernel
theorem dX5_entry_2 : decode cX5_entry 2 = .ok (.putfield 67, 3) := by decide +kernel
theorem dX5_entry_5 : decode cX5_entry 5 = .ok (.iload_n 1, 1) := by decide +kernel
theorem dX5_entry_6 : decode cX5_entry 6 = .ok (.iconst 0, 1) := by decide +kernel
theorem dX5_entry_7 : decode cX5_entry 7 = .ok (.aload_n 0, 1) := by decide +kernel
theorem dX5_entry_8 : decode cX5_entry 8 = .ok (.getfield 54, 3) := by decide +kernel
theorem dX5_entry_11 : decode cX5_entry 11 = .ok (.iconst 1, 1) := by decide +kernel
theorem dX5_entry_12 : decode cX5_entry 12 = .ok (.isub, 1) := by decide +kernel
theorem dX5_entry_13 : decode cX5_entry 13 = .ok (.invokestatic 121, 3) := by decide +kernel
theorem dX5_entry_16 : decode cX5_entry 16 = .ok (.ifCond .eq 26, 3) := by decide +kernel
theorem dX5_entry_19 : decode cX5_entry 19 = .ok (.iload_n 2, 1) := by decide +kernel
theorem dX5_entry_20 : decode cX5_entry 20 = .ok (.iconst 0, 1) := by decide +kernel
theorem dX5_entry_21 : decode cX5_entry 21 = .ok (.aload_n 0, 1) := by decide +kernel
theorem dX5_entry_22 : decode cX5_entry 22 = .ok (.getfield 61, 3) := by decide +kernel
theorem dX5_entry_25 : decode cX5_entry 25 = .ok (.iconst 1, 1) := by decide +kernel
theorem dX5_entry_26 : decode cX5_entry 26 = .ok (.isub, 1) := by decide +kernel
theorem dX5_entry_27 : decode cX5_entry 27 = .ok (.invokestatic 121, 3) := by decide +kernel
theorem dX5_entry_30 : decode cX5_entry 30 = .ok (.ifCond .eq 12, 3) := by decide +kernel
theorem dX5_entry_33 : decode cX5_entry 33 = .ok (.iload_n 3, 1) := by decide +kernel
theorem dX5_entry_34 : decode cX5_entry 34 = .ok (.iconst 0, 1) := by decide +kernel
theorem dX5_entry_35 : decode cX5_entry 35 = .ok (.iconst 2, 1) := by decide +kernel
theorem dX5_entry_36 : decode cX5_entry 36 = .ok (.invokestatic 121, 3) := by decide +kernel
theorem dX5_entry_39 : decode cX5_entry 39 = .ok (.ifCond .ne 9, 3) := by decide +kernel
theorem dX5_entry_42 : decode cX5_entry 42 = .ok (.aload_n 0, 1) := by decide +kernel
theorem dX5_entry_43 : decode cX5_entry 43 = .ok (.iconst 1, 1) := by decide +kernel
theorem dX5_entry_44 : decode cX5_entry 44 = .ok (.invokevirtual 104, 3) := by decide +kernel
theorem dX5_entry_47 : decode cX5_entry 47 = .ok (.ireturn, 1) := by decide +kernel
theorem dX5_entry_48 : decode cX5_entry 48 = .ok (.iconst 4, 1) := by decide +kernel
theorem dX5_entry_49 : decode cX5_entry 49 = .ok (.iload_n 1, 1) := by decide +kernel
theorem dX5_entry_50 : decode cX5_entry 50 = .ok (.imul, 1) := by decide +kernel
theorem dX5_entry_51 : decode cX5_entry 51 = .ok (.iload_n 2, 1) := by decide +kernel
theorem dX5_entry_52 : decode cX5_entry 52 = .ok (.iadd, 1) := by decide +kernel
theorem dX5_entry_53 : decode cX5_entry 53 = .ok (.istore 4, 2) := by decide +kernel
theorem dX5_entry_55 : decode cX5_entry 55 = .ok (.aload_n 0, 1) := by decide +kernel
theorem dX5_entry_56 : decode cX5_entry 56 = .ok (.getfield 7, 3) := by decide +kernel
theorem dX5_entry_59 : decode cX5_entry 59 = .ok (.iload 4, 2) := by decide +kernel
theorem dX5_entry_61 : decode cX5_entry 61 = .ok (.baload, 1) := by decide +kernel
theorem dX5_entry_62 : decode cX5_entry 62 = .ok (.ifCond .ne 13, 3) := by decide +kernel
theorem dX5_entry_65 : decode cX5_entry 65 = .ok (.iload_n 3, 1) := by decide +kernel
theorem dX5_entry_66 : decode cX5_entry 66 = .ok (.ifCond .ne 7, 3) := by decide +kernel
theorem dX5_entry_69 : decode cX5_entry 69 = .ok (.iconst (-1), 1) := by decide +kernel
theorem dX5_entry_70 : decode cX5_entry 70 = .ok (.goto 4, 3) := by decide +kernel
theorem dX5_entry_73 : decode cX5_entry 73 = .ok (.iconst 0, 1) := by decide +kernel
theorem dX5_entry_74 : decode cX5_entry 74 = .ok (.ireturn, 1) := by decide +kernel
theorem dX5_entry_75 : decode cX5_entry 75 = .ok (.iload_n 3, 1) := by decide +kernel
theorem dX5_entry_76 : decode cX5_entry 76 = .ok (.ifCond .ne 13, 3) := by decide +kernel
theorem dX5_entry_79 : decode cX5_entry 79 = .ok (.aload_n 0, 1) := by decide +kernel
theorem dX5_entry_80 : decode cX5_entry 80 = .ok (.getfield 13, 3) := by decide +kernel
theorem dX5_entry_83 : decode cX5_entry 83 = .ok (.iload 4, 2) := by decide +kernel
theorem dX5_entry_85 : decode cX5_entry 85 = .ok (.iaload, 1) := by decide +kernel
theorem dX5_entry_86 : decode cX5_entry 86 = .ok (.goto 25, 3) := by decide +kernel
theorem dX5_entry_89 : decode cX5_entry 89 = .ok (.iload_n 3, 1) := by decide +kernel
theorem dX5_entry_90 : decode cX5_entry 90 = .ok (.iconst 1, 1) := by decide +kernel
theorem dX5_entry_91 : decode cX5_entry 91 = .ok (.if_icmp .ne 13, 3) := by decide +kernel
theorem dX5_entry_94 : decode cX5_entry 94 = .ok (.aload_n 0, 1) := by decide +kernel
theorem dX5_entry_95 : decode cX5_entry 95 = .ok (.getfield 17, 3) := by decide +kernel
theorem dX5_entry_98 : decode cX5_entry 98 = .ok (.iload 4, 2) := by decide +kernel
theorem dX5_entry_100 : decode cX5_entry 100 = .ok (.iaload, 1) := by decide +kernel
theorem dX5_entry_101 : decode cX5_entry 101 = .ok (.goto 10, 3) := by decide +kernel
theorem dX5_entry_104 : decode cX5_entry 104 = .ok (.aload_n 0, 1) := by decide +kernel
theorem dX5_entry_105 : decode cX5_entry 105 = .ok (.getfield 20, 3) := by decide +kernel
theorem dX5_entry_108 : decode cX5_entry 108 = .ok (.iload 4, 2) := by decide +kernel
theorem dX5_entry_110 : decode cX5_entry 110 = .ok (.iaload, 1) := by decide +kernel
theorem dX5_entry_111 : decode cX5_entry 111 = .ok (.ireturn, 1) := by decide +kernel
theorem dX5_row_0 : decode cX5_row 0 = .ok (.aload_n 0, 1) := by decide +kernel
theorem dX5_row_1 : decode cX5_row 1 = .ok (.iconst 0, 1) := by decide +kernel
theorem dX5_row_2 : decode cX5_row 2 = .ok (.putfield 67, 3) := by decide +kernel
theorem dX5_row_5 : decode cX5_row 5 = .ok (.iload_n 1, 1) := by decide +kernel
theorem dX5_row_6 : decode cX5_row 6 = .ok (.iconst 0, 1) := by decide +kernel
theorem dX5_row_7 : decode cX5_row 7 = .ok (.bipush 63, 2) := by decide +kernel
theorem dX5_row_9 : decode cX5_row 9 = .ok (.invokestatic 121, 3) := by decide +kernel
theorem dX5_row_12 : decode cX5_row 12 = .ok (.ifCond .eq 12, 3) := by decide +kernel
theorem dX5_row_15 : decode cX5_row 15 = .ok (.iload_n 2, 1) := by decide +kernel
theorem dX5_row_16 : decode cX5_row 16 = .ok (.iconst 0, 1) := by decide +kernel
theorem dX5_row_17 : decode cX5_row 17 = .ok (.iconst 1, 1) := by decide +kernel
theorem dX5_row_18 : decode cX5_row 18 = .ok (.invokestatic 121, 3) := by decide +kernel
theorem dX5_row_21 : decode cX5_row 21 = .ok (.ifCond .ne 9, 3) := by decide +kernel
theorem dX5_row_24 : decode cX5_row 24 = .ok (.aload_n 0, 1) := by decide +kernel
theorem dX5_row_25 : decode cX5_row 25 = .ok (.iconst 1, 1) := by decide +kernel
theorem dX5_row_26 : decode cX5_row 26 = .ok (.invokevirtual 104, 3) := by decide +kernel
theorem dX5_row_29 : decode cX5_row 29 = .ok (.ireturn, 1) := by decide +kernel
theorem dX5_row_30 : decode cX5_row 30 = .ok (.iload_n 2, 1) := by decide +kernel
theorem dX5_row_31 : decode cX5_row 31 = .ok (.ifCond .ne 12, 3) := by decide +kernel
theorem dX5_row_34 : decode cX5_row 34 = .ok (.aload_n 0, 1) := by decide +kernel
theorem dX5_row_35 : decode cX5_row 35 = .ok (.getfield 26, 3) := by decide +kernel
theorem dX5_row_38 : decode cX5_row 38 = .ok (.iload_n 1, 1) := by decide +kernel
theorem dX5_row_39 : decode cX5_row 39 = .ok (.iaload, 1) := by decide +kernel
theorem dX5_row_40 : decode cX5_row 40 = .ok (.goto 9, 3) := by decide +kernel
theorem dX5_row_43 : decode cX5_row 43 = .ok (.aload_n 0, 1) := by decide +kernel
theorem dX5_row_44 : decode cX5_row 44 = .ok (.getfield 29, 3) := by decide +kernel
theorem dX5_row_47 : decode cX5_row 47 = .ok (.iload_n 1, 1) := by decide +kernel
theorem dX5_row_48 : decode cX5_row 48 = .ok (.iaload, 1) := by decide +kernel
theorem dX5_row_49 : decode cX5_row 49 = .ok (.ireturn, 1) := by decide +kernel
theorem dX5_ring_0 : decode cX5_ring 0 = .ok (.aload_n 0, 1) := by decide +kernel
theorem dX5_ring_1 : decode cX5_ring 1 = .ok (.iconst 0, 1) := by decide +kernel
theorem dX5_ring_2 : decode cX5_ring 2 = .ok (.putfield 67, 3) := by decide +kernel
theorem dX5_ring_5 : decode cX5_ring 5 = .ok (.iload_n 1, 1) := by decide +kernel
theorem dX5_ring_6 : decode cX5_ring 6 = .ok (.iconst 0, 1) := by decide +kernel
theorem dX5_ring_7 : decode cX5_ring 7 = .ok (.aload_n 0, 1) := by decide +kernel
theorem dX5_ring_8 : decode cX5_ring 8 = .ok (.getfield 80, 3) := by decide +kernel
theorem dX5_ring_11 : decode cX5_ring 11 = .ok (.iconst 1, 1) := by decide +kernel
theorem dX5_ring_12 : decode cX5_ring 12 = .ok (.isub, 1) := by decide +kernel
theorem dX5_ring_13 : decode cX5_ring 13 = .ok (.invokestatic 121, 3) := by decide +kernel
theorem dX5_ring_16 : decode cX5_ring 16 = .ok (.ifCond .eq 19, 3) := by decide +kernel
theorem dX5_ring_19 : decode cX5_ring 19 = .ok (.aload_n 0, 1) := by decide +kernel
theorem dX5_ring_20 : decode cX5_ring 20 = .ok (.getfield 32, 3) := by decide +kernel
theorem dX5_ring_23 : decode cX5_ring 23 = .ok (.aload_n 0, 1) := by decide +kernel
theorem dX5_ring_24 : decode cX5_ring 24 = .ok (.getfield 80, 3) := by decide +kernel
theorem dX5_ring_27 : decode cX5_ring 27 = .ok (.iconst 1, 1) := by decide +kernel
theorem dX5_ring_28 : decode cX5_ring 28 = .ok (.isub, 1) := by decide +kernel
theorem dX5_ring_29 : decode cX5_ring 29 = .ok (.iload_n 1, 1) := by decide +kernel
theorem dX5_ring_30 : decode cX5_ring 30 = .ok (.isub, 1) := by decide +kernel
theorem dX5_ring_31 : decode cX5_ring 31 = .ok (.iaload, 1) := by decide +kernel
theorem dX5_ring_32 : decode cX5_ring 32 = .ok (.goto 8, 3) := by decide +kernel
theorem dX5_ring_35 : decode cX5_ring 35 = .ok (.aload_n 0, 1) := by decide +kernel
theorem dX5_ring_36 : decode cX5_ring 36 = .ok (.iconst 1, 1) := by decide +kernel
theorem dX5_ring_37 : decode cX5_ring 37 = .ok (.invokevirtual 104, 3) := by decide +kernel
theorem dX5_ring_40 : decode cX5_ring 40 = .ok (.ireturn, 1) := by decide +kernel
theorem dX5_queued_0 : decode cX5_queued 0 = .ok (.aload_n 0, 1) := by decide +kernel
theorem dX5_queued_1 : decode cX5_queued 1 = .ok (.iconst 0, 1) := by decide +kernel
theorem dX5_queued_2 : decode cX5_queued 2 = .ok (.putfield 67, 3) := by decide +kernel
theorem dX5_queued_5 : decode cX5_queued 5 = .ok (.iload_n 1, 1) := by decide +kernel
theorem dX5_queued_6 : decode cX5_queued 6 = .ok (.iconst 0, 1) := by decide +kernel
theorem dX5_queued_7 : decode cX5_queued 7 = .ok (.aload_n 0, 1) := by decide +kernel
theorem dX5_queued_8 : decode cX5_queued 8 = .ok (.getfield 101, 3) := by decide +kernel
theorem dX5_queued_11 : decode cX5_queued 11 = .ok (.iconst 1, 1) := by decide +kernel
theorem dX5_queued_12 : decode cX5_queued 12 = .ok (.isub, 1) := by decide +kernel
theorem dX5_queued_13 : decode cX5_queued 13 = .ok (.invokestatic 121, 3) := by decide +kernel
theorem dX5_queued_16 : decode cX5_queued 16 = .ok (.ifCond .eq 12, 3) := by decide +kernel
theorem dX5_queued_19 : decode cX5_queued 19 = .ok (.iload_n 2, 1) := by decide +kernel
theorem dX5_queued_20 : decode cX5_queued 20 = .ok (.iconst 0, 1) := by decide +kernel
theorem dX5_queued_21 : decode cX5_queued 21 = .ok (.iconst 1, 1) := by decide +kernel
theorem dX5_queued_22 : decode cX5_queued 22 = .ok (.invokestatic 121, 3) := by decide +kernel
theorem dX5_queued_25 : decode cX5_queued 25 = .ok (.ifCond .ne 9, 3) := by decide +kernel
theorem dX5_queued_28 : decode cX5_queued 28 = .ok (.aload_n 0, 1) := by decide +kernel
theorem dX5_queued_29 : decode cX5_queued 29 = .ok (.iconst 1, 1) := by decide +kernel
theorem dX5_queued_30 : decode cX5_queued 30 = .ok (.invokevirtual 104, 3) := by decide +kernel
theorem dX5_queued_33 : decode cX5_queued 33 = .ok (.ireturn, 1) := by decide +kernel
theorem dX5_queued_34 : decode cX5_queued 34 = .ok (.iload_n 2, 1) := by decide +kernel
theorem dX5_queued_35 : decode cX5_queued 35 = .ok (.ifCond .ne 12, 3) := by decide +kernel
theorem dX5_queued_38 : decode cX5_queued 38 = .ok (.aload_n 0, 1) := by decide +kernel
theorem dX5_queued_39 : decode cX5_queued 39 = .ok (.getfield 35, 3) := by decide +kernel
theorem dX5_queued_42 : decode cX5_queued 42 = .ok (.iload_n 1, 1) := by decide +kernel
theorem dX5_queued_43 : decode cX5_queued 43 = .ok (.iaload, 1) := by decide +kernel
theorem dX5_queued_44 : decode cX5_queued 44 = .ok (.goto 9, 3) := by decide +kernel
theorem dX5_queued_47 : decode cX5_queued 47 = .ok (.aload_n 0, 1) := by decide +kernel
theorem dX5_queued_48 : decode cX5_queued 48 = .ok (.getfield 38, 3) := by decide +kernel
theorem dX5_queued_51 : decode cX5_queued 51 = .ok (.iload_n 1, 1) := by decide +kernel
theorem dX5_queued_52 : decode cX5_queued 52 = .ok (.iaload, 1) := by decide +kernel
theorem dX5_queued_53 : decode cX5_queued 53 = .ok (.ireturn, 1) := by decide +kernel
theorem dX5_storage_0 : decode cX5_storage 0 = .ok (.aload_n 0, 1) := by decide +kernel
theorem dX5_storage_1 : decode cX5_storage 1 = .ok (.iconst 0, 1) := by decide +kernel
theorem dX5_storage_2 : decode cX5_storage 2 = .ok (.putfield 67, 3) := by decide +kernel
theorem dX5_storage_5 : decode cX5_storage 5 = .ok (.bipush 42, 2) := by decide +kernel
theorem dX5_storage_7 : decode cX5_storage 7 = .ok (.aload_n 0, 1) := by decide +kernel
theorem dX5_storage_8 : decode cX5_storage 8 = .ok (.getfield 54, 3) := by decide +kernel
theorem dX5_storage_11 : decode cX5_storage 11 = .ok (.imul, 1) := by decide +kernel
theorem dX5_storage_12 : decode cX5_storage 12 = .ok (.aload_n 0, 1) := by decide +kernel
theorem dX5_storage_13 : decode cX5_storage 13 = .ok (.getfield 61, 3) := by decide +kernel
theorem dX5_storage_16 : decode cX5_storage 16 = .ok (.imul, 1) := by decide +kernel
theorem dX5_storage_17 : decode cX5_storage 17 = .ok (.sipush 2560, 3) := by decide +kernel
theorem dX5_storage_20 : decode cX5_storage 20 = .ok (.iadd, 1) := by decide +kernel
theorem dX5_storage_21 : decode cX5_storage 21 = .ok (.bipush 32, 2) := by decide +kernel
theorem dX5_storage_23 : decode cX5_storage 23 = .ok (.aload_n 0, 1) := by decide +kernel
theorem dX5_storage_24 : decode cX5_storage 24 = .ok (.getfield 64, 3) := by decide +kernel
theorem dX5_storage_27 : decode cX5_storage 27 = .ok (.imul, 1) := by decide +kernel
theorem dX5_storage_28 : decode cX5_storage 28 = .ok (.iadd, 1) := by decide +kernel
theorem dX5_storage_29 : decode cX5_storage 29 = .ok (.bipush 24, 2) := by decide +kernel
theorem dX5_storage_31 : decode cX5_storage 31 = .ok (.iadd, 1) := by decide +kernel
theorem dX5_storage_32 : decode cX5_storage 32 = .ok (.ireturn, 1) := by decide +kernel
theorem dX5_count_0 : decode cX5_count 0 = .ok (.aload_n 0, 1) := by decide +kernel
theorem dX5_count_1 : decode cX5_count 1 = .ok (.iconst 0, 1) := by decide +kernel
theorem dX5_count_2 : decode cX5_count 2 = .ok (.putfield 67, 3) := by decide +kernel
theorem dX5_count_5 : decode cX5_count 5 = .ok (.iload_n 1, 1) := by decide +kernel
theorem dX5_count_6 : decode cX5_count 6 = .ok (.iconst 0, 1) := by decide +kernel
theorem dX5_count_7 : decode cX5_count 7 = .ok (.bipush 17, 2) := by decide +kernel
theorem dX5_count_9 : decode cX5_count 9 = .ok (.invokestatic 121, 3) := by decide +kernel
theorem dX5_count_12 : decode cX5_count 12 = .ok (.ifCond .ne 5, 3) := by decide +kernel
theorem dX5_count_15 : decode cX5_count 15 = .ok (.iconst (-1), 1) := by decide +kernel
theorem dX5_count_16 : decode cX5_count 16 = .ok (.ireturn, 1) := by decide +kernel
theorem dX5_count_17 : decode cX5_count 17 = .ok (.iload_n 1, 1) := by decide +kernel
theorem dX5_count_18 : decode cX5_count 18 = .ok (.bipush 8, 2) := by decide +kernel
theorem dX5_count_20 : decode cX5_count 20 = .ok (.if_icmp .ge 10, 3) := by decide +kernel
theorem dX5_count_23 : decode cX5_count 23 = .ok (.aload_n 0, 1) := by decide +kernel
theorem dX5_count_24 : decode cX5_count 24 = .ok (.getfield 47, 3) := by decide +kernel
theorem dX5_count_27 : decode cX5_count 27 = .ok (.iload_n 1, 1) := by decide +kernel
theorem dX5_count_28 : decode cX5_count 28 = .ok (.iaload, 1) := by decide +kernel
theorem dX5_count_29 : decode cX5_count 29 = .ok (.ireturn, 1) := by decide +kernel
theorem dX5_count_30 : decode cX5_count 30 = .ok (.iconst 0, 1) := by decide +kernel
theorem dX5_count_31 : decode cX5_count 31 = .ok (.istore_n 2, 1) := by decide +kernel
theorem dX5_count_32 : decode cX5_count 32 = .ok (.iconst 0, 1) := by decide +kernel
theorem dX5_count_33 : decode cX5_count 33 = .ok (.istore_n 3, 1) := by decide +kernel
theorem dX5_count_34 : decode cX5_count 34 = .ok (.iload_n 3, 1) := by decide +kernel
theorem dX5_count_35 : decode cX5_count 35 = .ok (.bipush 64, 2) := by decide +kernel
theorem dX5_count_37 : decode cX5_count 37 = .ok (.if_icmp .ge 26, 3) := by decide +kernel
theorem dX5_count_40 : decode cX5_count 40 = .ok (.iload_n 2, 1) := by decide +kernel
theorem dX5_count_41 : decode cX5_count 41 = .ok (.aload_n 0, 1) := by decide +kernel
theorem dX5_count_42 : decode cX5_count 42 = .ok (.getfield 7, 3) := by decide +kernel
theorem dX5_count_45 : decode cX5_count 45 = .ok (.iload_n 3, 1) := by decide +kernel
theorem dX5_count_46 : decode cX5_count 46 = .ok (.baload, 1) := by decide +kernel
theorem dX5_count_47 : decode cX5_count 47 = .ok (.ifCond .eq 7, 3) := by decide +kernel
theorem dX5_count_50 : decode cX5_count 50 = .ok (.iconst 1, 1) := by decide +kernel
theorem dX5_count_51 : decode cX5_count 51 = .ok (.goto 4, 3) := by decide +kernel
theorem dX5_count_54 : decode cX5_count 54 = .ok (.iconst 0, 1) := by decide +kernel
theorem dX5_count_55 : decode cX5_count 55 = .ok (.iadd, 1) := by decide +kernel
theorem dX5_count_56 : decode cX5_count 56 = .ok (.istore_n 2, 1) := by decide +kernel
theorem dX5_count_57 : decode cX5_count 57 = .ok (.iinc 3 1, 3) := by decide +kernel
theorem dX5_count_60 : decode cX5_count 60 = .ok (.goto (-26), 3) := by decide +kernel
theorem dX5_count_63 : decode cX5_count 63 = .ok (.iload_n 1, 1) := by decide +kernel
theorem dX5_count_64 : decode cX5_count 64 = .ok (.tableswitch 94 8 16 #[52, 57, 62, 67, 72, 74, 79, 84, 89], 52) := by decide +kernel
theorem dX5_count_116 : decode cX5_count 116 = .ok (.aload_n 0, 1) := by decide +kernel
theorem dX5_count_117 : decode cX5_count 117 = .ok (.getfield 83, 3) := by decide +kernel
theorem dX5_count_120 : decode cX5_count 120 = .ok (.ireturn, 1) := by decide +kernel
theorem dX5_count_121 : decode cX5_count 121 = .ok (.aload_n 0, 1) := by decide +kernel
theorem dX5_count_122 : decode cX5_count 122 = .ok (.getfield 86, 3) := by decide +kernel
end
section
theorem dX5_count_125 : decode cX5_count 125 = .ok (.ireturn, 1) := by decide +kernel
theorem dX5_count_126 : decode cX5_count 126 = .ok (.aload_n 0, 1) := by decide +kernel
theorem dX5_count_127 : decode cX5_count 127 = .ok (.getfield 101, 3) := by decide +kernel
theorem dX5_count_130 : decode cX5_count 130 = .ok (.ireturn, 1) := by decide +kernel
theorem dX5_count_131 : decode cX5_count 131 = .ok (.aload_n 0, 1) := by decide +kernel
theorem dX5_count_132 : decode cX5_count 132 = .ok (.getfield 80, 3) := by decide +kernel
theorem dX5_count_135 : decode cX5_count 135 = .ok (.ireturn, 1) := by decide +kernel
theorem dX5_count_136 : decode cX5_count 136 = .ok (.iload_n 2, 1) := by decide +kernel
theorem dX5_count_137 : decode cX5_count 137 = .ok (.ireturn, 1) := by decide +kernel
theorem dX5_count_138 : decode cX5_count 138 = .ok (.aload_n 0, 1) := by decide +kernel
theorem dX5_count_139 : decode cX5_count 139 = .ok (.getfield 77, 3) := by decide +kernel
theorem dX5_count_142 : decode cX5_count 142 = .ok (.ireturn, 1) := by decide +kernel
theorem dX5_count_143 : decode cX5_count 143 = .ok (.aload_n 0, 1) := by decide +kernel
theorem dX5_count_144 : decode cX5_count 144 = .ok (.getfield 132, 3) := by decide +kernel
theorem dX5_count_147 : decode cX5_count 147 = .ok (.ireturn, 1) := by decide +kernel
theorem dX5_count_148 : decode cX5_count 148 = .ok (.aload_n 0, 1) := by decide +kernel
theorem dX5_count_149 : decode cX5_count 149 = .ok (.getfield 54, 3) := by decide +kernel
theorem dX5_count_152 : decode cX5_count 152 = .ok (.ireturn, 1) := by decide +kernel
theorem dX5_count_153 : decode cX5_count 153 = .ok (.aload_n 0, 1) := by decide +kernel
theorem dX5_count_154 : decode cX5_count 154 = .ok (.getfield 61, 3) := by decide +kernel
theorem dX5_count_157 : decode cX5_count 157 = .ok (.ireturn, 1) := by decide +kernel
theorem dX5_count_158 : decode cX5_count 158 = .ok (.aload_n 0, 1) := by decide +kernel
theorem dX5_count_159 : decode cX5_count 159 = .ok (.getfield 64, 3) := by decide +kernel
theorem dX5_count_162 : decode cX5_count 162 = .ok (.ireturn, 1) := by decide +kernel
theorem dL_law_0 : decode cL_law 0 = .ok (.new 8, 3) := by decide +kernel
theorem dL_law_3 : decode cL_law 3 = .ok (.dup, 1) := by decide +kernel
theorem dL_law_4 : decode cL_law 4 = .ok (.aload_n 0, 1) := by decide +kernel
theorem dL_law_5 : decode cL_law 5 = .ok (.iconst 0, 1) := by decide +kernel
theorem dL_law_6 : decode cL_law 6 = .ok (.invokestatic 39, 3) := by decide +kernel
theorem dL_law_9 : decode cL_law 9 = .ok (.aload_n 0, 1) := by decide +kernel
theorem dL_law_10 : decode cL_law 10 = .ok (.iconst 1, 1) := by decide +kernel
theorem dL_law_11 : decode cL_law 11 = .ok (.invokestatic 39, 3) := by decide +kernel
theorem dL_law_14 : decode cL_law 14 = .ok (.aload_n 0, 1) := by decide +kernel
theorem dL_law_15 : decode cL_law 15 = .ok (.iconst 2, 1) := by decide +kernel
theorem dL_law_16 : decode cL_law 16 = .ok (.invokestatic 39, 3) := by decide +kernel
theorem dL_law_19 : decode cL_law 19 = .ok (.invokespecial 45, 3) := by decide +kernel
theorem dL_law_22 : decode cL_law 22 = .ok (.astore_n 1, 1) := by decide +kernel
theorem dL_law_23 : decode cL_law 23 = .ok (.new 48, 3) := by decide +kernel
theorem dL_law_26 : decode cL_law 26 = .ok (.dup, 1) := by decide +kernel
theorem dL_law_27 : decode cL_law 27 = .ok (.aload_n 0, 1) := by decide +kernel
theorem dL_law_28 : decode cL_law 28 = .ok (.iconst 0, 1) := by decide +kernel
theorem dL_law_29 : decode cL_law 29 = .ok (.invokestatic 39, 3) := by decide +kernel
theorem dL_law_32 : decode cL_law 32 = .ok (.aload_n 0, 1) := by decide +kernel
theorem dL_law_33 : decode cL_law 33 = .ok (.iconst 1, 1) := by decide +kernel
theorem dL_law_34 : decode cL_law 34 = .ok (.invokestatic 39, 3) := by decide +kernel
theorem dL_law_37 : decode cL_law 37 = .ok (.aload_n 0, 1) := by decide +kernel
theorem dL_law_38 : decode cL_law 38 = .ok (.iconst 2, 1) := by decide +kernel
theorem dL_law_39 : decode cL_law 39 = .ok (.invokestatic 39, 3) := by decide +kernel
theorem dL_law_42 : decode cL_law 42 = .ok (.invokespecial 50, 3) := by decide +kernel
theorem dL_law_45 : decode cL_law 45 = .ok (.astore_n 2, 1) := by decide +kernel
theorem dL_law_46 : decode cL_law 46 = .ok (.iconst 1, 1) := by decide +kernel
theorem dL_law_47 : decode cL_law 47 = .ok (.newarray .long, 2) := by decide +kernel
theorem dL_law_49 : decode cL_law 49 = .ok (.astore_n 3, 1) := by decide +kernel
theorem dL_law_50 : decode cL_law 50 = .ok (.iconst 3, 1) := by decide +kernel
theorem dL_law_51 : decode cL_law 51 = .ok (.istore 4, 2) := by decide +kernel
theorem dL_law_53 : decode cL_law 53 = .ok (.iload 4, 2) := by decide +kernel
theorem dL_law_55 : decode cL_law 55 = .ok (.aload_n 0, 1) := by decide +kernel
theorem dL_law_56 : decode cL_law 56 = .ok (.arraylength, 1) := by decide +kernel
theorem dL_law_57 : decode cL_law 57 = .ok (.iconst 4, 1) := by decide +kernel
theorem dL_law_58 : decode cL_law 58 = .ok (.isub, 1) := by decide +kernel
theorem dL_law_59 : decode cL_law 59 = .ok (.if_icmp .gt 571, 3) := by decide +kernel
theorem dL_law_62 : decode cL_law 62 = .ok (.aload_n 0, 1) := by decide +kernel
theorem dL_law_63 : decode cL_law 63 = .ok (.iload 4, 2) := by decide +kernel
theorem dL_law_65 : decode cL_law 65 = .ok (.iaload, 1) := by decide +kernel
theorem dL_law_66 : decode cL_law 66 = .ok (.bipush 15, 2) := by decide +kernel
theorem dL_law_68 : decode cL_law 68 = .ok (.iand, 1) := by decide +kernel
theorem dL_law_69 : decode cL_law 69 = .ok (.tableswitch 555 0 9 #[55, 80, 136, 232, 245, 325, 393, 449, 517, 530], 55) := by decide +kernel
theorem dL_law_124 : decode cL_law 124 = .ok (.aload_n 1, 1) := by decide +kernel
theorem dL_law_125 : decode cL_law 125 = .ok (.aload_n 0, 1) := by decide +kernel
theorem dL_law_126 : decode cL_law 126 = .ok (.iload 4, 2) := by decide +kernel
theorem dL_law_128 : decode cL_law 128 = .ok (.iconst 1, 1) := by decide +kernel
theorem dL_law_129 : decode cL_law 129 = .ok (.iadd, 1) := by decide +kernel
theorem dL_law_130 : decode cL_law 130 = .ok (.iaload, 1) := by decide +kernel
theorem dL_law_131 : decode cL_law 131 = .ok (.invokevirtual 51, 3) := by decide +kernel
theorem dL_law_134 : decode cL_law 134 = .ok (.aload_n 2, 1) := by decide +kernel
theorem dL_law_135 : decode cL_law 135 = .ok (.aload_n 0, 1) := by decide +kernel
theorem dL_law_136 : decode cL_law 136 = .ok (.iload 4, 2) := by decide +kernel
theorem dL_law_138 : decode cL_law 138 = .ok (.iconst 1, 1) := by decide +kernel
theorem dL_law_139 : decode cL_law 139 = .ok (.iadd, 1) := by decide +kernel
theorem dL_law_140 : decode cL_law 140 = .ok (.iaload, 1) := by decide +kernel
theorem dL_law_141 : decode cL_law 141 = .ok (.invokevirtual 54, 3) := by decide +kernel
theorem dL_law_144 : decode cL_law 144 = .ok (.if_icmp .eq 480, 3) := by decide +kernel
theorem dL_law_147 : decode cL_law 147 = .ok (.iconst 0, 1) := by decide +kernel
theorem dL_law_148 : decode cL_law 148 = .ok (.ireturn, 1) := by decide +kernel
theorem dL_law_149 : decode cL_law 149 = .ok (.aload_n 1, 1) := by decide +kernel
theorem dL_law_150 : decode cL_law 150 = .ok (.aload_n 0, 1) := by decide +kernel
theorem dL_law_151 : decode cL_law 151 = .ok (.iload 4, 2) := by decide +kernel
theorem dL_law_153 : decode cL_law 153 = .ok (.iconst 1, 1) := by decide +kernel
theorem dL_law_154 : decode cL_law 154 = .ok (.iadd, 1) := by decide +kernel
theorem dL_law_155 : decode cL_law 155 = .ok (.iaload, 1) := by decide +kernel
theorem dL_law_156 : decode cL_law 156 = .ok (.aload_n 3, 1) := by decide +kernel
theorem dL_law_157 : decode cL_law 157 = .ok (.invokestatic 55, 3) := by decide +kernel
theorem dL_law_160 : decode cL_law 160 = .ok (.istore 5, 2) := by decide +kernel
theorem dL_law_162 : decode cL_law 162 = .ok (.aload_n 2, 1) := by decide +kernel
theorem dL_law_163 : decode cL_law 163 = .ok (.aload_n 0, 1) := by decide +kernel
theorem dL_law_164 : decode cL_law 164 = .ok (.iload 4, 2) := by decide +kernel
theorem dL_law_166 : decode cL_law 166 = .ok (.iconst 1, 1) := by decide +kernel
theorem dL_law_167 : decode cL_law 167 = .ok (.iadd, 1) := by decide +kernel
theorem dL_law_168 : decode cL_law 168 = .ok (.iaload, 1) := by decide +kernel
theorem dL_law_169 : decode cL_law 169 = .ok (.invokevirtual 58, 3) := by decide +kernel
theorem dL_law_172 : decode cL_law 172 = .ok (.istore 6, 2) := by decide +kernel
theorem dL_law_174 : decode cL_law 174 = .ok (.aload_n 2, 1) := by decide +kernel
theorem dL_law_175 : decode cL_law 175 = .ok (.invokevirtual 59, 3) := by decide +kernel
theorem dL_law_178 : decode cL_law 178 = .ok (.iload 5, 2) := by decide +kernel
theorem dL_law_180 : decode cL_law 180 = .ok (.if_icmp .eq 5, 3) := by decide +kernel
theorem dL_law_183 : decode cL_law 183 = .ok (.iconst 0, 1) := by decide +kernel
theorem dL_law_184 : decode cL_law 184 = .ok (.ireturn, 1) := by decide +kernel
theorem dL_law_185 : decode cL_law 185 = .ok (.iload 5, 2) := by decide +kernel
theorem dL_law_187 : decode cL_law 187 = .ok (.ifCond .ne 15, 3) := by decide +kernel
theorem dL_law_190 : decode cL_law 190 = .ok (.aload_n 3, 1) := by decide +kernel
theorem dL_law_191 : decode cL_law 191 = .ok (.iconst 0, 1) := by decide +kernel
theorem dL_law_192 : decode cL_law 192 = .ok (.laload, 1) := by decide +kernel
theorem dL_law_193 : decode cL_law 193 = .ok (.iload 6, 2) := by decide +kernel
theorem dL_law_195 : decode cL_law 195 = .ok (.i2l, 1) := by decide +kernel
theorem dL_law_196 : decode cL_law 196 = .ok (.lcmp, 1) := by decide +kernel
theorem dL_law_197 : decode cL_law 197 = .ok (.ifCond .eq 5, 3) := by decide +kernel
theorem dL_law_200 : decode cL_law 200 = .ok (.iconst 0, 1) := by decide +kernel
theorem dL_law_201 : decode cL_law 201 = .ok (.ireturn, 1) := by decide +kernel
theorem dL_law_202 : decode cL_law 202 = .ok (.goto 422, 3) := by decide +kernel
theorem dL_law_205 : decode cL_law 205 = .ok (.aload_n 1, 1) := by decide +kernel
theorem dL_law_206 : decode cL_law 206 = .ok (.aload_n 0, 1) := by decide +kernel
theorem dL_law_207 : decode cL_law 207 = .ok (.iload 4, 2) := by decide +kernel
theorem dL_law_209 : decode cL_law 209 = .ok (.iconst 1, 1) := by decide +kernel
theorem dL_law_210 : decode cL_law 210 = .ok (.iadd, 1) := by decide +kernel
theorem dL_law_211 : decode cL_law 211 = .ok (.iaload, 1) := by decide +kernel
theorem dL_law_212 : decode cL_law 212 = .ok (.aload_n 0, 1) := by decide +kernel
theorem dL_law_213 : decode cL_law 213 = .ok (.iload 4, 2) := by decide +kernel
theorem dL_law_215 : decode cL_law 215 = .ok (.iconst 2, 1) := by decide +kernel
theorem dL_law_216 : decode cL_law 216 = .ok (.iadd, 1) := by decide +kernel
theorem dL_law_217 : decode cL_law 217 = .ok (.iaload, 1) := by decide +kernel
theorem dL_law_218 : decode cL_law 218 = .ok (.ifCond .eq 7, 3) := by decide +kernel
theorem dL_law_221 : decode cL_law 221 = .ok (.iconst 1, 1) := by decide +kernel
theorem dL_law_222 : decode cL_law 222 = .ok (.goto 4, 3) := by decide +kernel
theorem dL_law_225 : decode cL_law 225 = .ok (.iconst 0, 1) := by decide +kernel
theorem dL_law_226 : decode cL_law 226 = .ok (.aload_n 0, 1) := by decide +kernel
theorem dL_law_227 : decode cL_law 227 = .ok (.iload 4, 2) := by decide +kernel
theorem dL_law_229 : decode cL_law 229 = .ok (.iconst 3, 1) := by decide +kernel
theorem dL_law_230 : decode cL_law 230 = .ok (.iadd, 1) := by decide +kernel
theorem dL_law_231 : decode cL_law 231 = .ok (.iaload, 1) := by decide +kernel
theorem dL_law_232 : decode cL_law 232 = .ok (.aload_n 3, 1) := by decide +kernel
theorem dL_law_233 : decode cL_law 233 = .ok (.invokestatic 63, 3) := by decide +kernel
theorem dL_law_236 : decode cL_law 236 = .ok (.istore 5, 2) := by decide +kernel
theorem dL_law_238 : decode cL_law 238 = .ok (.aload_n 2, 1) := by decide +kernel
theorem dL_law_239 : decode cL_law 239 = .ok (.aload_n 0, 1) := by decide +kernel
theorem dL_law_240 : decode cL_law 240 = .ok (.iload 4, 2) := by decide +kernel
theorem dL_law_242 : decode cL_law 242 = .ok (.iconst 1, 1) := by decide +kernel
theorem dL_law_243 : decode cL_law 243 = .ok (.iadd, 1) := by decide +kernel
theorem dL_law_244 : decode cL_law 244 = .ok (.iaload, 1) := by decide +kernel
theorem dL_law_245 : decode cL_law 245 = .ok (.aload_n 0, 1) := by decide +kernel
theorem dL_law_246 : decode cL_law 246 = .ok (.iload 4, 2) := by decide +kernel
theorem dL_law_248 : decode cL_law 248 = .ok (.iconst 2, 1) := by decide +kernel
theorem dL_law_249 : decode cL_law 249 = .ok (.iadd, 1) := by decide +kernel
theorem dL_law_250 : decode cL_law 250 = .ok (.iaload, 1) := by decide +kernel
theorem dL_law_251 : decode cL_law 251 = .ok (.ifCond .eq 7, 3) := by decide +kernel
theorem dL_law_254 : decode cL_law 254 = .ok (.iconst 1, 1) := by decide +kernel
theorem dL_law_255 : decode cL_law 255 = .ok (.goto 4, 3) := by decide +kernel
theorem dL_law_258 : decode cL_law 258 = .ok (.iconst 0, 1) := by decide +kernel
theorem dL_law_259 : decode cL_law 259 = .ok (.aload_n 0, 1) := by decide +kernel
theorem dL_law_260 : decode cL_law 260 = .ok (.iload 4, 2) := by decide +kernel
theorem dL_law_262 : decode cL_law 262 = .ok (.iconst 3, 1) := by decide +kernel
theorem dL_law_263 : decode cL_law 263 = .ok (.iadd, 1) := by decide +kernel
theorem dL_law_264 : decode cL_law 264 = .ok (.iaload, 1) := by decide +kernel
theorem dL_law_265 : decode cL_law 265 = .ok (.invokevirtual 66, 3) := by decide +kernel
theorem dL_law_268 : decode cL_law 268 = .ok (.istore 6, 2) := by decide +kernel
theorem dL_law_270 : decode cL_law 270 = .ok (.aload_n 2, 1) := by decide +kernel
theorem dL_law_271 : decode cL_law 271 = .ok (.invokevirtual 59, 3) := by decide +kernel
theorem dL_law_274 : decode cL_law 274 = .ok (.iload 5, 2) := by decide +kernel
theorem dL_law_276 : decode cL_law 276 = .ok (.if_icmp .eq 5, 3) := by decide +kernel
theorem dL_law_279 : decode cL_law 279 = .ok (.iconst 0, 1) := by decide +kernel
theorem dL_law_280 : decode cL_law 280 = .ok (.ireturn, 1) := by decide +kernel
theorem dL_law_281 : decode cL_law 281 = .ok (.iload 5, 2) := by decide +kernel
theorem dL_law_283 : decode cL_law 283 = .ok (.ifCond .ne 15, 3) := by decide +kernel
theorem dL_law_286 : decode cL_law 286 = .ok (.aload_n 3, 1) := by decide +kernel
theorem dL_law_287 : decode cL_law 287 = .ok (.iconst 0, 1) := by decide +kernel
theorem dL_law_288 : decode cL_law 288 = .ok (.laload, 1) := by decide +kernel
theorem dL_law_289 : decode cL_law 289 = .ok (.iload 6, 2) := by decide +kernel
theorem dL_law_291 : decode cL_law 291 = .ok (.i2l, 1) := by decide +kernel
theorem dL_law_292 : decode cL_law 292 = .ok (.lcmp, 1) := by decide +kernel
theorem dL_law_293 : decode cL_law 293 = .ok (.ifCond .eq 5, 3) := by decide +kernel
theorem dL_law_296 : decode cL_law 296 = .ok (.iconst 0, 1) := by decide +kernel
theorem dL_law_297 : decode cL_law 297 = .ok (.ireturn, 1) := by decide +kernel
theorem dL_law_298 : decode cL_law 298 = .ok (.goto 326, 3) := by decide +kernel
theorem dL_law_301 : decode cL_law 301 = .ok (.aload_n 1, 1) := by decide +kernel
theorem dL_law_302 : decode cL_law 302 = .ok (.invokevirtual 67, 3) := by decide +kernel
theorem dL_law_305 : decode cL_law 305 = .ok (.aload_n 2, 1) := by decide +kernel
theorem dL_law_306 : decode cL_law 306 = .ok (.invokevirtual 70, 3) := by decide +kernel
theorem dL_law_309 : decode cL_law 309 = .ok (.if_icmp .eq 315, 3) := by decide +kernel
theorem dL_law_312 : decode cL_law 312 = .ok (.iconst 0, 1) := by decide +kernel
theorem dL_law_313 : decode cL_law 313 = .ok (.ireturn, 1) := by decide +kernel
theorem dL_law_314 : decode cL_law 314 = .ok (.aload_n 1, 1) := by decide +kernel
theorem dL_law_315 : decode cL_law 315 = .ok (.aload_n 0, 1) := by decide +kernel
theorem dL_law_316 : decode cL_law 316 = .ok (.iload 4, 2) := by decide +kernel
theorem dL_law_318 : decode cL_law 318 = .ok (.iconst 1, 1) := by decide +kernel
theorem dL_law_319 : decode cL_law 319 = .ok (.iadd, 1) := by decide +kernel
theorem dL_law_320 : decode cL_law 320 = .ok (.iaload, 1) := by decide +kernel
theorem dL_law_321 : decode cL_law 321 = .ok (.aload_n 0, 1) := by decide +kernel
theorem dL_law_322 : decode cL_law 322 = .ok (.iload 4, 2) := by decide +kernel
theorem dL_law_324 : decode cL_law 324 = .ok (.iconst 2, 1) := by decide +kernel
theorem dL_law_325 : decode cL_law 325 = .ok (.iadd, 1) := by decide +kernel
theorem dL_law_326 : decode cL_law 326 = .ok (.iaload, 1) := by decide +kernel
theorem dL_law_327 : decode cL_law 327 = .ok (.aload_n 0, 1) := by decide +kernel
theorem dL_law_328 : decode cL_law 328 = .ok (.iload 4, 2) := by decide +kernel
theorem dL_law_330 : decode cL_law 330 = .ok (.iconst 3, 1) := by decide +kernel
theorem dL_law_331 : decode cL_law 331 = .ok (.iadd, 1) := by decide +kernel
theorem dL_law_332 : decode cL_law 332 = .ok (.iaload, 1) := by decide +kernel
theorem dL_law_333 : decode cL_law 333 = .ok (.aload_n 3, 1) := by decide +kernel
theorem dL_law_334 : decode cL_law 334 = .ok (.invokestatic 71, 3) := by decide +kernel
theorem dL_law_337 : decode cL_law 337 = .ok (.istore 5, 2) := by decide +kernel
theorem dL_law_339 : decode cL_law 339 = .ok (.aload_n 2, 1) := by decide +kernel
theorem dL_law_340 : decode cL_law 340 = .ok (.aload_n 0, 1) := by decide +kernel
theorem dL_law_341 : decode cL_law 341 = .ok (.iload 4, 2) := by decide +kernel
theorem dL_law_343 : decode cL_law 343 = .ok (.iconst 1, 1) := by decide +kernel
theorem dL_law_344 : decode cL_law 344 = .ok (.iadd, 1) := by decide +kernel
theorem dL_law_345 : decode cL_law 345 = .ok (.iaload, 1) := by decide +kernel
theorem dL_law_346 : decode cL_law 346 = .ok (.aload_n 0, 1) := by decide +kernel
theorem dL_law_347 : decode cL_law 347 = .ok (.iload 4, 2) := by decide +kernel
theorem dL_law_349 : decode cL_law 349 = .ok (.iconst 2, 1) := by decide +kernel
theorem dL_law_350 : decode cL_law 350 = .ok (.iadd, 1) := by decide +kernel
theorem dL_law_351 : decode cL_law 351 = .ok (.iaload, 1) := by decide +kernel
theorem dL_law_352 : decode cL_law 352 = .ok (.aload_n 0, 1) := by decide +kernel
theorem dL_law_353 : decode cL_law 353 = .ok (.iload 4, 2) := by decide +kernel
theorem dL_law_355 : decode cL_law 355 = .ok (.iconst 3, 1) := by decide +kernel
theorem dL_law_356 : decode cL_law 356 = .ok (.iadd, 1) := by decide +kernel
theorem dL_law_357 : decode cL_law 357 = .ok (.iaload, 1) := by decide +kernel
theorem dL_law_358 : decode cL_law 358 = .ok (.invokevirtual 74, 3) := by decide +kernel
theorem dL_law_361 : decode cL_law 361 = .ok (.istore 6, 2) := by decide +kernel
theorem dL_law_363 : decode cL_law 363 = .ok (.aload_n 2, 1) := by decide +kernel
theorem dL_law_364 : decode cL_law 364 = .ok (.invokevirtual 59, 3) := by decide +kernel
theorem dL_law_367 : decode cL_law 367 = .ok (.iload 5, 2) := by decide +kernel
theorem dL_law_369 : decode cL_law 369 = .ok (.if_icmp .eq 5, 3) := by decide +kernel
theorem dL_law_372 : decode cL_law 372 = .ok (.iconst 0, 1) := by decide +kernel
theorem dL_law_373 : decode cL_law 373 = .ok (.ireturn, 1) := by decide +kernel
theorem dL_law_374 : decode cL_law 374 = .ok (.iload 5, 2) := by decide +kernel
theorem dL_law_376 : decode cL_law 376 = .ok (.ifCond .ne 15, 3) := by decide +kernel
theorem dL_law_379 : decode cL_law 379 = .ok (.aload_n 3, 1) := by decide +kernel
theorem dL_law_380 : decode cL_law 380 = .ok (.iconst 0, 1) := by decide +kernel
theorem dL_law_381 : decode cL_law 381 = .ok (.laload, 1) := by decide +kernel
theorem dL_law_382 : decode cL_law 382 = .ok (.iload 6, 2) := by decide +kernel
theorem dL_law_384 : decode cL_law 384 = .ok (.i2l, 1) := by decide +kernel
theorem dL_law_385 : decode cL_law 385 = .ok (.lcmp, 1) := by decide +kernel
theorem dL_law_386 : decode cL_law 386 = .ok (.ifCond .eq 5, 3) := by decide +kernel
theorem dL_law_389 : decode cL_law 389 = .ok (.iconst 0, 1) := by decide +kernel
theorem dL_law_390 : decode cL_law 390 = .ok (.ireturn, 1) := by decide +kernel
theorem dL_law_391 : decode cL_law 391 = .ok (.goto 233, 3) := by decide +kernel
theorem dL_law_394 : decode cL_law 394 = .ok (.aload_n 1, 1) := by decide +kernel
theorem dL_law_395 : decode cL_law 395 = .ok (.aload_n 0, 1) := by decide +kernel
theorem dL_law_396 : decode cL_law 396 = .ok (.iload 4, 2) := by decide +kernel
theorem dL_law_398 : decode cL_law 398 = .ok (.iconst 1, 1) := by decide +kernel
theorem dL_law_399 : decode cL_law 399 = .ok (.iadd, 1) := by decide +kernel
theorem dL_law_400 : decode cL_law 400 = .ok (.iaload, 1) := by decide +kernel
theorem dL_law_401 : decode cL_law 401 = .ok (.aload_n 0, 1) := by decide +kernel
theorem dL_law_402 : decode cL_law 402 = .ok (.iload 4, 2) := by decide +kernel
theorem dL_law_404 : decode cL_law 404 = .ok (.iconst 2, 1) := by decide +kernel
theorem dL_law_405 : decode cL_law 405 = .ok (.iadd, 1) := by decide +kernel
theorem dL_law_406 : decode cL_law 406 = .ok (.iaload, 1) := by decide +kernel
theorem dL_law_407 : decode cL_law 407 = .ok (.aload_n 3, 1) := by decide +kernel
theorem dL_law_408 : decode cL_law 408 = .ok (.invokestatic 75, 3) := by decide +kernel
theorem dL_law_411 : decode cL_law 411 = .ok (.istore 5, 2) := by decide +kernel
theorem dL_law_413 : decode cL_law 413 = .ok (.aload_n 2, 1) := by decide +kernel
theorem dL_law_414 : decode cL_law 414 = .ok (.aload_n 0, 1) := by decide +kernel
theorem dL_law_415 : decode cL_law 415 = .ok (.iload 4, 2) := by decide +kernel
theorem dL_law_417 : decode cL_law 417 = .ok (.iconst 1, 1) := by decide +kernel
theorem dL_law_418 : decode cL_law 418 = .ok (.iadd, 1) := by decide +kernel
theorem dL_law_419 : decode cL_law 419 = .ok (.iaload, 1) := by decide +kernel
theorem dL_law_420 : decode cL_law 420 = .ok (.aload_n 0, 1) := by decide +kernel
theorem dL_law_421 : decode cL_law 421 = .ok (.iload 4, 2) := by decide +kernel
theorem dL_law_423 : decode cL_law 423 = .ok (.iconst 2, 1) := by decide +kernel
theorem dL_law_424 : decode cL_law 424 = .ok (.iadd, 1) := by decide +kernel
theorem dL_law_425 : decode cL_law 425 = .ok (.iaload, 1) := by decide +kernel
theorem dL_law_426 : decode cL_law 426 = .ok (.invokevirtual 78, 3) := by decide +kernel
theorem dL_law_429 : decode cL_law 429 = .ok (.istore 6, 2) := by decide +kernel
theorem dL_law_431 : decode cL_law 431 = .ok (.aload_n 2, 1) := by decide +kernel
theorem dL_law_432 : decode cL_law 432 = .ok (.invokevirtual 59, 3) := by decide +kernel
theorem dL_law_435 : decode cL_law 435 = .ok (.iload 5, 2) := by decide +kernel
theorem dL_law_437 : decode cL_law 437 = .ok (.if_icmp .eq 5, 3) := by decide +kernel
theorem dL_law_440 : decode cL_law 440 = .ok (.iconst 0, 1) := by decide +kernel
theorem dL_law_441 : decode cL_law 441 = .ok (.ireturn, 1) := by decide +kernel
theorem dL_law_442 : decode cL_law 442 = .ok (.iload 5, 2) := by decide +kernel
theorem dL_law_444 : decode cL_law 444 = .ok (.ifCond .ne 15, 3) := by decide +kernel
theorem dL_law_447 : decode cL_law 447 = .ok (.aload_n 3, 1) := by decide +kernel
theorem dL_law_448 : decode cL_law 448 = .ok (.iconst 0, 1) := by decide +kernel
theorem dL_law_449 : decode cL_law 449 = .ok (.laload, 1) := by decide +kernel
theorem dL_law_450 : decode cL_law 450 = .ok (.iload 6, 2) := by decide +kernel
theorem dL_law_452 : decode cL_law 452 = .ok (.i2l, 1) := by decide +kernel
theorem dL_law_453 : decode cL_law 453 = .ok (.lcmp, 1) := by decide +kernel
theorem dL_law_454 : decode cL_law 454 = .ok (.ifCond .eq 5, 3) := by decide +kernel
theorem dL_law_457 : decode cL_law 457 = .ok (.iconst 0, 1) := by decide +kernel
theorem dL_law_458 : decode cL_law 458 = .ok (.ireturn, 1) := by decide +kernel
theorem dL_law_459 : decode cL_law 459 = .ok (.goto 165, 3) := by decide +kernel
theorem dL_law_462 : decode cL_law 462 = .ok (.aload_n 1, 1) := by decide +kernel
theorem dL_law_463 : decode cL_law 463 = .ok (.aload_n 0, 1) := by decide +kernel
theorem dL_law_464 : decode cL_law 464 = .ok (.iload 4, 2) := by decide +kernel
theorem dL_law_466 : decode cL_law 466 = .ok (.iconst 1, 1) := by decide +kernel
theorem dL_law_467 : decode cL_law 467 = .ok (.iadd, 1) := by decide +kernel
theorem dL_law_468 : decode cL_law 468 = .ok (.iaload, 1) := by decide +kernel
theorem dL_law_469 : decode cL_law 469 = .ok (.aload_n 3, 1) := by decide +kernel
theorem dL_law_470 : decode cL_law 470 = .ok (.invokestatic 79, 3) := by decide +kernel
theorem dL_law_473 : decode cL_law 473 = .ok (.istore 5, 2) := by decide +kernel
theorem dL_law_475 : decode cL_law 475 = .ok (.aload_n 2, 1) := by decide +kernel
theorem dL_law_476 : decode cL_law 476 = .ok (.aload_n 0, 1) := by decide +kernel
theorem dL_law_477 : decode cL_law 477 = .ok (.iload 4, 2) := by decide +kernel
theorem dL_law_479 : decode cL_law 479 = .ok (.iconst 1, 1) := by decide +kernel
theorem dL_law_480 : decode cL_law 480 = .ok (.iadd, 1) := by decide +kernel
theorem dL_law_481 : decode cL_law 481 = .ok (.iaload, 1) := by decide +kernel
theorem dL_law_482 : decode cL_law 482 = .ok (.invokevirtual 81, 3) := by decide +kernel
theorem dL_law_485 : decode cL_law 485 = .ok (.istore 6, 2) := by decide +kernel
theorem dL_law_487 : decode cL_law 487 = .ok (.aload_n 2, 1) := by decide +kernel
theorem dL_law_488 : decode cL_law 488 = .ok (.invokevirtual 59, 3) := by decide +kernel
theorem dL_law_491 : decode cL_law 491 = .ok (.iload 5, 2) := by decide +kernel
theorem dL_law_493 : decode cL_law 493 = .ok (.if_icmp .eq 5, 3) := by decide +kernel
theorem dL_law_496 : decode cL_law 496 = .ok (.iconst 0, 1) := by decide +kernel
theorem dL_law_497 : decode cL_law 497 = .ok (.ireturn, 1) := by decide +kernel
theorem dL_law_498 : decode cL_law 498 = .ok (.iload 5, 2) := by decide +kernel
theorem dL_law_500 : decode cL_law 500 = .ok (.ifCond .ne 15, 3) := by decide +kernel
theorem dL_law_503 : decode cL_law 503 = .ok (.aload_n 3, 1) := by decide +kernel
theorem dL_law_504 : decode cL_law 504 = .ok (.iconst 0, 1) := by decide +kernel
theorem dL_law_505 : decode cL_law 505 = .ok (.laload, 1) := by decide +kernel
theorem dL_law_506 : decode cL_law 506 = .ok (.iload 6, 2) := by decide +kernel
theorem dL_law_508 : decode cL_law 508 = .ok (.i2l, 1) := by decide +kernel
theorem dL_law_509 : decode cL_law 509 = .ok (.lcmp, 1) := by decide +kernel
theorem dL_law_510 : decode cL_law 510 = .ok (.ifCond .eq 5, 3) := by decide +kernel
theorem dL_law_513 : decode cL_law 513 = .ok (.iconst 0, 1) := by decide +kernel
theorem dL_law_514 : decode cL_law 514 = .ok (.ireturn, 1) := by decide +kernel
theorem dL_law_515 : decode cL_law 515 = .ok (.goto 109, 3) := by decide +kernel
theorem dL_law_518 : decode cL_law 518 = .ok (.aload_n 1, 1) := by decide +kernel
theorem dL_law_519 : decode cL_law 519 = .ok (.aload_n 0, 1) := by decide +kernel
theorem dL_law_520 : decode cL_law 520 = .ok (.iload 4, 2) := by decide +kernel
theorem dL_law_522 : decode cL_law 522 = .ok (.iconst 1, 1) := by decide +kernel
theorem dL_law_523 : decode cL_law 523 = .ok (.iadd, 1) := by decide +kernel
theorem dL_law_524 : decode cL_law 524 = .ok (.iaload, 1) := by decide +kernel
theorem dL_law_525 : decode cL_law 525 = .ok (.aload_n 0, 1) := by decide +kernel
theorem dL_law_526 : decode cL_law 526 = .ok (.iload 4, 2) := by decide +kernel
theorem dL_law_528 : decode cL_law 528 = .ok (.iconst 2, 1) := by decide +kernel
theorem dL_law_529 : decode cL_law 529 = .ok (.iadd, 1) := by decide +kernel
theorem dL_law_530 : decode cL_law 530 = .ok (.iaload, 1) := by decide +kernel
theorem dL_law_531 : decode cL_law 531 = .ok (.aload_n 3, 1) := by decide +kernel
theorem dL_law_532 : decode cL_law 532 = .ok (.invokestatic 82, 3) := by decide +kernel
theorem dL_law_535 : decode cL_law 535 = .ok (.istore 5, 2) := by decide +kernel
theorem dL_law_537 : decode cL_law 537 = .ok (.aload_n 2, 1) := by decide +kernel
theorem dL_law_538 : decode cL_law 538 = .ok (.aload_n 0, 1) := by decide +kernel
theorem dL_law_539 : decode cL_law 539 = .ok (.iload 4, 2) := by decide +kernel
theorem dL_law_541 : decode cL_law 541 = .ok (.iconst 1, 1) := by decide +kernel
theorem dL_law_542 : decode cL_law 542 = .ok (.iadd, 1) := by decide +kernel
theorem dL_law_543 : decode cL_law 543 = .ok (.iaload, 1) := by decide +kernel
theorem dL_law_544 : decode cL_law 544 = .ok (.aload_n 0, 1) := by decide +kernel
theorem dL_law_545 : decode cL_law 545 = .ok (.iload 4, 2) := by decide +kernel
theorem dL_law_547 : decode cL_law 547 = .ok (.iconst 2, 1) := by decide +kernel
theorem dL_law_548 : decode cL_law 548 = .ok (.iadd, 1) := by decide +kernel
theorem dL_law_549 : decode cL_law 549 = .ok (.iaload, 1) := by decide +kernel
theorem dL_law_550 : decode cL_law 550 = .ok (.invokevirtual 84, 3) := by decide +kernel
theorem dL_law_553 : decode cL_law 553 = .ok (.istore 6, 2) := by decide +kernel
theorem dL_law_555 : decode cL_law 555 = .ok (.aload_n 2, 1) := by decide +kernel
theorem dL_law_556 : decode cL_law 556 = .ok (.invokevirtual 59, 3) := by decide +kernel
theorem dL_law_559 : decode cL_law 559 = .ok (.iload 5, 2) := by decide +kernel
theorem dL_law_561 : decode cL_law 561 = .ok (.if_icmp .eq 5, 3) := by decide +kernel
theorem dL_law_564 : decode cL_law 564 = .ok (.iconst 0, 1) := by decide +kernel
theorem dL_law_565 : decode cL_law 565 = .ok (.ireturn, 1) := by decide +kernel
theorem dL_law_566 : decode cL_law 566 = .ok (.iload 5, 2) := by decide +kernel
theorem dL_law_568 : decode cL_law 568 = .ok (.ifCond .ne 15, 3) := by decide +kernel
theorem dL_law_571 : decode cL_law 571 = .ok (.aload_n 3, 1) := by decide +kernel
theorem dL_law_572 : decode cL_law 572 = .ok (.iconst 0, 1) := by decide +kernel
theorem dL_law_573 : decode cL_law 573 = .ok (.laload, 1) := by decide +kernel
theorem dL_law_574 : decode cL_law 574 = .ok (.iload 6, 2) := by decide +kernel
theorem dL_law_576 : decode cL_law 576 = .ok (.i2l, 1) := by decide +kernel
theorem dL_law_577 : decode cL_law 577 = .ok (.lcmp, 1) := by decide +kernel
theorem dL_law_578 : decode cL_law 578 = .ok (.ifCond .eq 5, 3) := by decide +kernel
theorem dL_law_581 : decode cL_law 581 = .ok (.iconst 0, 1) := by decide +kernel
theorem dL_law_582 : decode cL_law 582 = .ok (.ireturn, 1) := by decide +kernel
theorem dL_law_583 : decode cL_law 583 = .ok (.goto 41, 3) := by decide +kernel
theorem dL_law_586 : decode cL_law 586 = .ok (.aload_n 1, 1) := by decide +kernel
theorem dL_law_587 : decode cL_law 587 = .ok (.invokevirtual 85, 3) := by decide +kernel
theorem dL_law_590 : decode cL_law 590 = .ok (.aload_n 2, 1) := by decide +kernel
theorem dL_law_591 : decode cL_law 591 = .ok (.invokevirtual 88, 3) := by decide +kernel
theorem dL_law_594 : decode cL_law 594 = .ok (.if_icmp .eq 30, 3) := by decide +kernel
theorem dL_law_597 : decode cL_law 597 = .ok (.iconst 0, 1) := by decide +kernel
theorem dL_law_598 : decode cL_law 598 = .ok (.ireturn, 1) := by decide +kernel
theorem dL_law_599 : decode cL_law 599 = .ok (.aload_n 1, 1) := by decide +kernel
theorem dL_law_600 : decode cL_law 600 = .ok (.aload_n 0, 1) := by decide +kernel
theorem dL_law_601 : decode cL_law 601 = .ok (.iload 4, 2) := by decide +kernel
theorem dL_law_603 : decode cL_law 603 = .ok (.iconst 1, 1) := by decide +kernel
theorem dL_law_604 : decode cL_law 604 = .ok (.iadd, 1) := by decide +kernel
theorem dL_law_605 : decode cL_law 605 = .ok (.iaload, 1) := by decide +kernel
theorem dL_law_606 : decode cL_law 606 = .ok (.invokevirtual 89, 3) := by decide +kernel
theorem dL_law_609 : decode cL_law 609 = .ok (.aload_n 2, 1) := by decide +kernel
theorem dL_law_610 : decode cL_law 610 = .ok (.aload_n 0, 1) := by decide +kernel
theorem dL_law_611 : decode cL_law 611 = .ok (.iload 4, 2) := by decide +kernel
theorem dL_law_613 : decode cL_law 613 = .ok (.iconst 1, 1) := by decide +kernel
theorem dL_law_614 : decode cL_law 614 = .ok (.iadd, 1) := by decide +kernel
theorem dL_law_615 : decode cL_law 615 = .ok (.iaload, 1) := by decide +kernel
theorem dL_law_616 : decode cL_law 616 = .ok (.invokevirtual 92, 3) := by decide +kernel
theorem dL_law_619 : decode cL_law 619 = .ok (.if_icmp .eq 5, 3) := by decide +kernel
theorem dL_law_622 : decode cL_law 622 = .ok (.iconst 0, 1) := by decide +kernel
theorem dL_law_623 : decode cL_law 623 = .ok (.ireturn, 1) := by decide +kernel
theorem dL_law_624 : decode cL_law 624 = .ok (.iinc 4 4, 3) := by decide +kernel
theorem dL_law_627 : decode cL_law 627 = .ok (.goto (-574), 3) := by decide +kernel
theorem dL_law_630 : decode cL_law 630 = .ok (.iconst 1, 1) := by decide +kernel
theorem dL_law_631 : decode cL_law 631 = .ok (.ireturn, 1) := by decide +kernel
end
section
/-! ===== own rows: shorter forms of calls, ends, arrays ===== -/
def k_ush (x y : Int32) : Int32 := (x.toUInt32 >>> (y.toUInt32 &&& Int32.toUInt32 31)).toInt32
abbrev kTy (cI cJ cZ : ClassId) : List (ClassId × FieldType) := [(cI, .int), (cJ, .long), (cZ, .boolean)]
abbrev kP (D : va_G) (tys : List (ClassId × FieldType)) (w : va_W) (sz : Nat) (U : State) : Prop := U.heap.size = sz ∧ va_P D vwCl w U.heap ∧ va_K D vwCl tys U ∧ va_D (fun _ => True) w
abbrev kB (D : va_G) (tys : List (ClassId × FieldType)) (A : Nat → Prop) (w : va_W) (t : State) : Prop := va_P D vwCl w t.heap ∧ va_K D vwCl tys t ∧ va_D A w
/-- a method that answers the int r, and makes of the cells w the cells w' -/
abbrev KI (l : Launch) (y : MethodName) (ws : List Cond) (rm : Room) (D : va_G) (tys : List (ClassId × FieldType)) (av : List Value) (w : va_W) (sz : Nat) (w' : va_W) (r : Int32) (mc ms : Nat) : Prop :=
  Met l y ws rm (va_Pc av (kP D tys w sz)) (va_Qi (fun (r' : Int32) (_ : Unit) => r' = r) (fun _ t => kB D tys (va_A w sz) w' t) (va_A w sz)) mc ms (va_A w sz)
/-- one that answers nothing -/
abbrev KV (l : Launch) (y : MethodName) (ws : List Cond) (rm : Room) (D : va_G) (tys : List (ClassId × FieldType)) (av : List Value) (w : va_W) (sz : Nat) (w' : va_W) (mc ms : Nat) : Prop :=
  Met l y ws rm (va_Pc av (kP D tys w sz)) (va_Qv (fun (_ : Unit) => True) (fun _ t => kB D tys (va_A w sz) w' t) (va_A w sz)) mc ms (va_A w sz)
/-- a constructor: cells at addresses u come -/
abbrev KN (l : Launch) (y : MethodName) (ws : List Cond) (rm : Room) (D : va_G) (tys : List (ClassId × FieldType)) (av : List Value) (w : va_W) (sz : Nat) (w' : (Nat → Nat) → va_W) (mc ms : Nat) : Prop :=
  Met l y ws rm (va_Pc av (kP D tys w sz)) (va_Qv (fun (_ : Nat → Nat) => True) (fun u t => kB D tys (va_A w sz) (w' u) t) (va_A w sz)) mc ms (va_A w sz)
theorem kP_blind {D : va_G} {tys : List (ClassId × FieldType)} {w : va_W} {sz : Nat} {av : List Value} : FrameBlind (va_Pc av (kP D tys w sz)) := fun a U g mk q => by
  obtain ⟨q0, q1, qP, qK, qD⟩ := q
  exact ⟨q0, q1, qP, va_K.moved (u := U) (U := U.calling g mk a) (Vm.Alike.refl U.vm) qK, qD⟩
theorem kP_at {D : va_G} {tys : List (ClassId × FieldType)} {w : va_W} {s : State} {H : Heap} {A : Nat → Prop} {av : List Value} (hP : va_P D vwCl w H) (hK : va_K D vwCl tys s) (hD : va_D A w) : ∀ U : State, U.heap = H → s.WarmedH U.vm → va_Pc av (kP D tys w H.size) av.toArray U :=
  fun U hU hW => ⟨rfl, by rw [hU], by rw [hU]; exact hP, va_K.moved hW.alike hK, hD.weaken (fun _ _ _ _ => trivial)⟩
section KH
variable {p : Program} {l : Launch} {e : Env} {R : Room} {s : State} {m : MethodId} {args : Array Value} {below : List Frame} {meth : Method} {c : Code} {H : Heap} {locs : List Loc} {cells slots : Nat} {Q : State → Prop}
variable {cc : ByteArray} {pc : Nat} {ls : Array Slot} {rest st0 : List Value} {D : va_G} {A : Nat → Prop} {a : Nat} {tys : List (ClassId × FieldType)} {ws wc wr w w' : va_W} {H0 : Heap} {aa : Array Value} {mc ms : Nat}
theorem kt_i {x y : Int32} (h : x = y) (k : W p l e R s m args below meth c H locs cells slots Q (F0 m pc ls (.int y :: rest))) : W p l e R s m args below meth c H locs cells slots Q (F0 m pc ls (.int x :: rest)) := h ▸ k
theorem kt_l {x y : Int64} (h : x = y) (k : W p l e R s m args below meth c H locs cells slots Q (F0 m pc ls (.long y :: rest))) : W p l e R s m args below meth c H locs cells slots Q (F0 m pc ls (.long x :: rest)) := h ▸ k
theorem kr_i {r v : Int32} (hw : w = w') (hx : p.tables.exec = Jvm.exec) (hb : c.code = cc) (hr : meth.sig.returnType = some .int) (hlk : meth.locks = false) (hP : va_P D vwCl w H) (hK : va_K D vwCl tys s) (hD : va_D A w) (hS : va_S A s.heap H locs) (hv : v = r) (hdg : decode cc pc = .ok (.ireturn, 1)) :
    W p l e R s m args below meth c H locs cells slots (MQ below (va_Qi (fun (r' : Int32) (_ : Unit) => r' = r) (fun _ t => kB D tys A w' t) A) args s cells slots A) (F0 m pc ls [.int v]) := by
  subst hw
  exact W.iret (v := v) hx hb hr (fun t ht hW => ⟨⟨v, (), rfl, hv, by rw [ht]; exact hP, va_K.moved hW.alike hK, hD⟩, hS.F ht⟩) hS.2.2 hdg hlk
theorem kr_z {r v : Int32} (hw : w = w') (hx : p.tables.exec = Jvm.exec) (hb : c.code = cc) (hr : meth.sig.returnType = some .boolean) (hlk : meth.locks = false) (hP : va_P D vwCl w H) (hK : va_K D vwCl tys s) (hD : va_D A w) (hS : va_S A s.heap H locs) (hn : narrow .boolean (.int v) = .int v) (hv : v = r) (hdg : decode cc pc = .ok (.ireturn, 1)) :
    W p l e R s m args below meth c H locs cells slots (MQ below (va_Qi (fun (r' : Int32) (_ : Unit) => r' = r) (fun _ t => kB D tys A w' t) A) args s cells slots A) (F0 m pc ls [.int v]) := by
  subst hw
  exact W.zret (v := v) hx hb hr hn (fun t ht hW => ⟨⟨v, (), rfl, hv, by rw [ht]; exact hP, va_K.moved hW.alike hK, hD⟩, hS.F ht⟩) hS.2.2 hdg hlk
theorem kr_v (hw : w = w') (hx : p.tables.exec = Jvm.exec) (hb : c.code = cc) (hr : meth.sig.returnType = none) (hlk : meth.locks = false) (hP : va_P D vwCl w H) (hK : va_K D vwCl tys s) (hD : va_D A w) (hS : va_S A s.heap H locs) (_ : True) (hdg : decode cc pc = .ok (.return_, 1)) :
    W p l e R s m args below meth c H locs cells slots (MQ below (va_Qv (fun (_ : Unit) => True) (fun _ t => kB D tys A w' t) A) args s cells slots A) (F0 m pc ls []) := by
  subst hw
  exact W.vret hx hb hr (fun t ht hW => ⟨⟨(), rfl, trivial, by rw [ht]; exact hP, va_K.moved hW.alike hK, hD⟩, hS.F ht⟩) hS.2.2 hdg hlk
theorem kr_n {wf : (Nat → Nat) → va_W} (u : Nat → Nat) (hw : w = wf u) (hx : p.tables.exec = Jvm.exec) (hb : c.code = cc) (hr : meth.sig.returnType = none) (hlk : meth.locks = false) (hP : va_P D vwCl w H) (hK : va_K D vwCl tys s) (hD : va_D A w) (hS : va_S A s.heap H locs) (hdg : decode cc pc = .ok (.return_, 1)) :
    W p l e R s m args below meth c H locs cells slots (MQ below (va_Qv (fun (_ : Nat → Nat) => True) (fun u t => kB D tys A (wf u) t) A) args s cells slots A) (F0 m pc ls []) := by
  subst hw
  exact W.vret hx hb hr (fun t ht hW => ⟨⟨u, rfl, trivial, by rw [ht]; exact hP, va_K.moved hW.alike hK, hD⟩, hS.F ht⟩) hS.2.2 hdg hlk
theorem kc_i {r : Int32} (isC isR : List Nat) (hC : isC.map (fun i => ws[i]?) = wc.map some) (hR : isR.map (fun i => ws[i]?) = wr.map some) (hn : va_nd isR = true) (hdis : ∀ i ∈ isR, i ∉ isC) (hP : va_P D vwCl ws H) (hD : va_D A ws) (hS : va_S A H0 H locs) (hA : ∀ q, H0.size ≤ q → A q)
    (hr : va_Run p l e R s m args below meth c H locs cells slots mc ms (F0 m pc ls st0) rest (va_Qi (fun (r' : Int32) (_ : Unit) => r' = r) (fun _ t => kB D tys (va_A wc H.size) w' t) (va_A wc H.size) aa) (va_A wc H.size))
    (kk : ∀ (H1 : Heap) (locs1 : List Loc), va_P D vwCl (wr ++ w') H1 → va_D A (wr ++ w') → va_S A H0 H1 locs1 → W p l e R s m args below meth c H1 locs1 (cells + mc) (slots + ms) Q (F0 m (pc + 3) ls (.int r :: rest))) : W p l e R s m args below meth c H locs cells slots Q (F0 m pc ls st0) := by
  have hFc := va_free (wc := wc) hD hS hA isC hC
  refine va_calli hr hS (fun q _ h => hFc q h) hFc (fun r' u t H1 locs1 ht hvm hw hB hz1 hk1 hS1 => ?_)
  subst hw
  obtain ⟨hP1, hK1, hD1⟩ := hB
  rw [ht] at hP1
  obtain ⟨hP2, hD2⟩ := va_join hP hD isC isR hC hR hn hdis hk1 hFc hP1 hD1
  exact kk H1 locs1 hP2 hD2 hS1
theorem kc_v (isC isR : List Nat) (hC : isC.map (fun i => ws[i]?) = wc.map some) (hR : isR.map (fun i => ws[i]?) = wr.map some) (hn : va_nd isR = true) (hdis : ∀ i ∈ isR, i ∉ isC) (hP : va_P D vwCl ws H) (hD : va_D A ws) (hS : va_S A H0 H locs) (hA : ∀ q, H0.size ≤ q → A q)
    (hr : va_Run p l e R s m args below meth c H locs cells slots mc ms (F0 m pc ls st0) rest (va_Qv (fun (_ : Unit) => True) (fun _ t => kB D tys (va_A wc H.size) w' t) (va_A wc H.size) aa) (va_A wc H.size))
    (kk : ∀ (H1 : Heap) (locs1 : List Loc), va_P D vwCl (wr ++ w') H1 → va_D A (wr ++ w') → va_S A H0 H1 locs1 → W p l e R s m args below meth c H1 locs1 (cells + mc) (slots + ms) Q (F0 m (pc + 3) ls rest)) : W p l e R s m args below meth c H locs cells slots Q (F0 m pc ls st0) := by
  have hFc := va_free (wc := wc) hD hS hA isC hC
  refine va_callv hr hS (fun q _ h => hFc q h) hFc (fun u t H1 locs1 ht hvm hw hB hz1 hk1 hS1 => ?_)
  obtain ⟨hP1, hK1, hD1⟩ := hB
  rw [ht] at hP1
  obtain ⟨hP2, hD2⟩ := va_join hP hD isC isR hC hR hn hdis hk1 hFc hP1 hD1
  exact kk H1 locs1 hP2 hD2 hS1
theorem kc_n {wf : (Nat → Nat) → va_W} (isC isR : List Nat) (hC : isC.map (fun i => ws[i]?) = wc.map some) (hR : isR.map (fun i => ws[i]?) = wr.map some) (hn : va_nd isR = true) (hdis : ∀ i ∈ isR, i ∉ isC) (hP : va_P D vwCl ws H) (hD : va_D A ws) (hS : va_S A H0 H locs) (hA : ∀ q, H0.size ≤ q → A q)
    (hr : va_Run p l e R s m args below meth c H locs cells slots mc ms (F0 m pc ls st0) rest (va_Qv (fun (_ : Nat → Nat) => True) (fun u t => kB D tys (va_A wc H.size) (wf u) t) (va_A wc H.size) aa) (va_A wc H.size))
    (kk : ∀ (u : Nat → Nat) (H1 : Heap) (locs1 : List Loc), va_P D vwCl (wr ++ wf u) H1 → va_D A (wr ++ wf u) → va_S A H0 H1 locs1 → W p l e R s m args below meth c H1 locs1 (cells + mc) (slots + ms) Q (F0 m (pc + 3) ls rest)) : W p l e R s m args below meth c H locs cells slots Q (F0 m pc ls st0) := by
  have hFc := va_free (wc := wc) hD hS hA isC hC
  refine va_callv hr hS (fun q _ h => hFc q h) hFc (fun u t H1 locs1 ht hvm hw hB hz1 hk1 hS1 => ?_)
  obtain ⟨hP1, hK1, hD1⟩ := hB
  rw [ht] at hP1
  obtain ⟨hP2, hD2⟩ := va_join hP hD isC isR hC hR hn hdis hk1 hFc hP1 hD1
  exact kk u H1 locs1 hP2 hD2 hS1
/-- a loop at pc, by a number that falls by one; its cells and locals by an invariant -/
theorem kloop {nL : Nat} {I : Nat → va_W → List (Nat × Value) → Prop}
    (hstep : ∀ (n : Nat) (w : va_W) (lv : List (Nat × Value)) (H : Heap) (locs : List Loc) (ls : Array Slot), I n w lv → va_P D vwCl w H → va_D A w → va_S A H0 H locs → lv_has ls nL lv →
      (∀ (n' : Nat) (w' : va_W) (lv' : List (Nat × Value)) (H' : Heap) (locs' : List Loc) (ls' : Array Slot), n = n' + 1 → I n' w' lv' → va_P D vwCl w' H' → va_D A w' → va_S A H0 H' locs' → lv_has ls' nL lv' → W p l e R s m args below meth c H' locs' cells slots Q (F0 m pc ls' [])) →
      W p l e R s m args below meth c H locs cells slots Q (F0 m pc ls [])) :
    ∀ (n : Nat) (w : va_W) (lv : List (Nat × Value)) (H : Heap) (locs : List Loc) (ls : Array Slot), I n w lv → va_P D vwCl w H → va_D A w → va_S A H0 H locs → lv_has ls nL lv → W p l e R s m args below meth c H locs cells slots Q (F0 m pc ls []) := by
  intro n
  induction n with
  | zero =>
    intro w lv H locs ls h1 h2 h3 h4 h5
    exact hstep 0 w lv H locs ls h1 h2 h3 h4 h5 (fun n' _ _ _ _ _ h => absurd h (by omega))
  | succ n ih =>
    intro w lv H locs ls h1 h2 h3 h4 h5
    refine hstep (n + 1) w lv H locs ls h1 h2 h3 h4 h5 (fun n' w' lv' H' locs' ls' h i1 i2 i3 i4 i5 => ?_)
    cases h
    exact ih w' lv' H' locs' ls' i1 i2 i3 i4 i5
theorem ka_ild {cl : List vw_C} (hexec : p.tables.exec = Jvm.exec) (hb : c.code = cc) (hK : va_K D cl tys s) (hP : va_P D cl ws H) (q0 t0 : Nat) {cA : ClassId} {n : Nat} {f : Nat → Int32} (ha : ws[q0]? = some (a, .inl (cA, n, .inl f))) (ht : tys[t0]? = some (cA, .int)) {i : Int32} {k : Nat} (hi : i = nI k) (hk : k < n ∧ n < 2 ^ 31) (hdg : decode cc pc = .ok (.iaload, 1))
    (kk : W p l e R s m args below meth c H locs cells slots Q (F0 m (pc + 1) ls (.int (f k) :: rest))) : W p l e R s m args below meth c H locs cells slots Q (F0 m pc ls (.int i :: .ref a :: rest)) := by
  subst hi
  refine va_iald hexec hb hK hP q0 t0 ha ht (vp_in_nI hk.1 hk.2) hdg ?_
  rw [nI_clamp (Nat.lt_trans hk.1 hk.2)]
  exact kk
theorem ka_ist {cl : List vw_C} (hexec : p.tables.exec = Jvm.exec) (hb : c.code = cc) (hK : va_K D cl tys s) (hP : va_P D cl ws H) (hD : va_D A ws) (hS : va_S A H0 H locs) (q0 t0 : Nat) {cA : ClassId} {n : Nat} {f : Nat → Int32} (ha : ws[q0]? = some (a, .inl (cA, n, .inl f))) (ht : tys[t0]? = some (cA, .int)) {i x : Int32} {k : Nat} (hi : i = nI k) (hk : k < n ∧ n < 2 ^ 31) (hdg : decode cc pc = .ok (.iastore, 1))
    (kk : ∀ (H1 : Heap) (locs1 : List Loc), va_P D cl (ws.set q0 (a, .inl (cA, n, .inl (upd f k x)))) H1 → va_D A (ws.set q0 (a, .inl (cA, n, .inl (upd f k x)))) → va_S A H0 H1 locs1 → W p l e R s m args below meth c H1 locs1 cells slots Q (F0 m (pc + 1) ls rest)) : W p l e R s m args below meth c H locs cells slots Q (F0 m pc ls (.int x :: .int i :: .ref a :: rest)) := by
  subst hi
  refine va_iast hexec hb hK hP hD hS q0 t0 ha ht (vp_in_nI hk.1 hk.2) hdg ?_
  rw [nI_clamp (Nat.lt_trans hk.1 hk.2)]
  exact kk
theorem ka_lld {cl : List vw_C} (hexec : p.tables.exec = Jvm.exec) (hb : c.code = cc) (hK : va_K D cl tys s) (hP : va_P D cl ws H) (q0 t0 : Nat) {cA : ClassId} {n : Nat} {f : Nat → Int64} (ha : ws[q0]? = some (a, .inl (cA, n, .inr (.inl f)))) (ht : tys[t0]? = some (cA, .long)) {i : Int32} {k : Nat} (hi : i = nI k) (hk : k < n ∧ n < 2 ^ 31) (hdg : decode cc pc = .ok (.laload, 1))
    (kk : W p l e R s m args below meth c H locs cells slots Q (F0 m (pc + 1) ls (.long (f k) :: rest))) : W p l e R s m args below meth c H locs cells slots Q (F0 m pc ls (.int i :: .ref a :: rest)) := by
  subst hi
  refine va_lald hexec hb hK hP q0 t0 ha ht (vp_in_nI hk.1 hk.2) hdg ?_
  rw [nI_clamp (Nat.lt_trans hk.1 hk.2)]
  exact kk
theorem ka_lst {cl : List vw_C} (hexec : p.tables.exec = Jvm.exec) (hb : c.code = cc) (hK : va_K D cl tys s) (hP : va_P D cl ws H) (hD : va_D A ws) (hS : va_S A H0 H locs) (q0 t0 : Nat) {cA : ClassId} {n : Nat} {f : Nat → Int64} (ha : ws[q0]? = some (a, .inl (cA, n, .inr (.inl f)))) (ht : tys[t0]? = some (cA, .long)) {i : Int32} {x : Int64} {k : Nat} (hi : i = nI k) (hk : k < n ∧ n < 2 ^ 31) (hdg : decode cc pc = .ok (.lastore, 1))
    (kk : ∀ (H1 : Heap) (locs1 : List Loc), va_P D cl (ws.set q0 (a, .inl (cA, n, .inr (.inl (vp_updL f k x))))) H1 → va_D A (ws.set q0 (a, .inl (cA, n, .inr (.inl (vp_updL f k x))))) → va_S A H0 H1 locs1 → W p l e R s m args below meth c H1 locs1 cells slots Q (F0 m (pc + 1) ls rest)) : W p l e R s m args below meth c H locs cells slots Q (F0 m pc ls (.long x :: .int i :: .ref a :: rest)) := by
  subst hi
  refine va_last hexec hb hK hP hD hS q0 t0 ha ht (vp_in_nI hk.1 hk.2) hdg ?_
  rw [nI_clamp (Nat.lt_trans hk.1 hk.2)]
  exact kk
theorem ka_cpy {cl : List vw_C} (hexec : p.tables.exec = Jvm.exec) (hb : c.code = cc) (hml : c.maxLocals = ls.size) {own : String} {index : Nat} (hown : s.vm.findClass own = some m.cls) (hlink : (Cond.methodLink own index arraycopyName).before args s = true) (hnat : (Cond.native arraycopyName).before args s = true) (hstat : (Cond.static arraycopyName).before args s = true) (hini : (Cond.initialized "java/lang/System").before args s = true)
    (hK : va_K D cl tys s) (hP : va_P D cl ws H) (hD : va_D A ws) (hS : va_S A H0 H locs) (q0 q1 t0 t1 : Nat) {a0 : Nat} {c0 c1 : ClassId} {n0 n1 : Nat} {f g : Nat → Int32} (ha0 : ws[q0]? = some (a0, .inl (c0, n0, .inl f))) (ha1 : ws[q1]? = some (a, .inl (c1, n1, .inl g))) (ht0 : tys[t0]? = some (c0, .int)) (ht1 : tys[t1]? = some (c1, .int))
    {sp dp n : Int32} {ks kd kn : Nat} (h1 : sp = nI ks) (h2 : dp = nI kd) (h3 : n = nI kn) (h4 : ks + kn ≤ n0 ∧ n0 < 2 ^ 31) (h5 : kd + kn ≤ n1 ∧ n1 < 2 ^ 31)
    (hframes : 1 ≤ R.frames) (hlocals : (rest.map fun v => v.category).sum + (nativeFrameWords "java/lang/System" "arraycopy" 5 + 11) ≤ R.locals) (hdg : decode cc pc = .ok (.invokestatic index, 3))
    (kk : ∀ (H1 : Heap) (locs1 : List Loc), va_P D cl (ws.set q1 (a, .inl (c1, n1, .inl (va_cpy f g ks kd kn)))) H1 → va_D A (ws.set q1 (a, .inl (c1, n1, .inl (va_cpy f g ks kd kn)))) → va_S A H0 H1 locs1 → W p l e R s m args below meth c H1 locs1 cells slots Q (F0 m (pc + 3) ls rest)) : W p l e R s m args below meth c H locs cells slots Q (F0 m pc ls (.int n :: .int dp :: .ref a :: .int sp :: .ref a0 :: rest)) := by
  have e1 : ks < 2 ^ 31 := by omega
  have e2 : kd < 2 ^ 31 := by omega
  have e3 : kn < 2 ^ 31 := by omega
  subst h1; subst h2; subst h3
  refine va_copyi hexec hb hml hown hlink hnat hstat hini hK hP hD hS q0 q1 t0 t1 ha0 ha1 ht0 ht1 rfl (nI_pos e1) (nI_pos e2) (nI_pos e3) (by rw [nI_clamp e1, nI_clamp e3]; exact h4.1) (by rw [nI_clamp e2, nI_clamp e3]; exact h5.1) (fun _ _ => rfl) hframes hlocals hdg ?_
  rw [nI_clamp e1, nI_clamp e2, nI_clamp e3]
  exact kk
theorem ka_uni {U : State} {cI cJ cZ cA : ClassId} {cl : List vw_C} (h : va_K D cl (kTy cI cJ cZ ++ [(cA, .int)]) U) : cA = cI := by
  have h1 := (h.2 0 _ rfl).2
  have h2 := (h.2 3 _ rfl).2
  have h1 : U.vm.findClass ("[" ++ (FieldType.int).toString) = some cI := h1
  have h2 : U.vm.findClass ("[" ++ (FieldType.int).toString) = some cA := h2
  exact Option.some.inj (h2.symm.trans h1)
theorem ka_uniJ {U : State} {cI cJ cZ cA : ClassId} {cl : List vw_C} (h : va_K D cl (kTy cI cJ cZ ++ [(cA, .long)]) U) : cA = cJ := by
  have h1 := (h.2 1 _ rfl).2
  have h2 := (h.2 3 _ rfl).2
  have h1 : U.vm.findClass ("[" ++ (FieldType.long).toString) = some cJ := h1
  have h2 : U.vm.findClass ("[" ++ (FieldType.long).toString) = some cA := h2
  exact Option.some.inj (h2.symm.trans h1)
theorem ka_newi {cI cJ cZ : ClassId} {cl : List vw_C} {n : Nat} (hexec : p.tables.exec = Jvm.exec) (hb : c.code = cc) (harr : (Cond.arrayClass .int).before args s = true) (hK : va_K D cl (kTy cI cJ cZ) s) (hP : va_P D cl ws H) (hD : va_D A ws) (hS : va_S A H0 H locs) (hA : ∀ q, H0.size ≤ q → A q) {x : Int32} (hxn : x = nI n) (hn : n < 2 ^ 26) (hroom : cells + 1 ≤ R.cells ∧ slots + n ≤ R.slots) (hdg : decode cc pc = .ok (.newarray .int, 2))
    (kk : ∀ (q : Nat) (H1 : Heap), va_P D cl (ws ++ [(q, .inl (cI, n, .inl (fun _ => 0)))]) H1 → va_D A (ws ++ [(q, .inl (cI, n, .inl (fun _ => 0)))]) → va_S A H0 H1 locs → W p l e R s m args below meth c H1 locs (cells + 1) (slots + n) Q (F0 m (pc + 2) ls (.ref q :: rest))) : W p l e R s m args below meth c H locs cells slots Q (F0 m pc ls (.int x :: rest)) := by
  subst hxn
  refine va_newa (atype := .int) (ty := .int) hexec hb harr rfl hK hP hD hS hA (a0 := (n, .inl (fun _ => 0))) (fun cA => rfl) (nI_pos (by omega)) (nI_clamp (by omega)) (show n * 4 ≤ 536870912 by omega) hroom.1 hroom.2 hdg (fun q cA H1 hK1 hP1 hD1 hS1 => ?_)
  have hc := ka_uni hK1
  subst hc
  exact kk q H1 hP1 hD1 hS1
theorem ka_newl {cI cJ cZ : ClassId} {cl : List vw_C} {n : Nat} (hexec : p.tables.exec = Jvm.exec) (hb : c.code = cc) (harr : (Cond.arrayClass .long).before args s = true) (hK : va_K D cl (kTy cI cJ cZ) s) (hP : va_P D cl ws H) (hD : va_D A ws) (hS : va_S A H0 H locs) (hA : ∀ q, H0.size ≤ q → A q) {x : Int32} (hxn : x = nI n) (hn : n < 2 ^ 26) (hroom : cells + 1 ≤ R.cells ∧ slots + n ≤ R.slots) (hdg : decode cc pc = .ok (.newarray .long, 2))
    (kk : ∀ (q : Nat) (H1 : Heap), va_P D cl (ws ++ [(q, .inl (cJ, n, .inr (.inl (fun _ => 0))))]) H1 → va_D A (ws ++ [(q, .inl (cJ, n, .inr (.inl (fun _ => 0))))]) → va_S A H0 H1 locs → W p l e R s m args below meth c H1 locs (cells + 1) (slots + n) Q (F0 m (pc + 2) ls (.ref q :: rest))) : W p l e R s m args below meth c H locs cells slots Q (F0 m pc ls (.int x :: rest)) := by
  subst hxn
  refine va_newa (atype := .long) (ty := .long) hexec hb harr rfl hK hP hD hS hA (a0 := (n, .inr (.inl (fun _ => 0)))) (fun cA => rfl) (nI_pos (by omega)) (nI_clamp (by omega)) (show n * 8 ≤ 536870912 by omega) hroom.1 hroom.2 hdg (fun q cA H1 hK1 hP1 hD1 hS1 => ?_)
  have hc := ka_uniJ hK1
  subst hc
  exact kk q H1 hP1 hD1 hS1
theorem ka_uniZ {U : State} {cI cJ cZ cA : ClassId} {cl : List vw_C} (h : va_K D cl (kTy cI cJ cZ ++ [(cA, .boolean)]) U) : cA = cZ := by
  have h1 := (h.2 2 _ rfl).2
  have h2 := (h.2 3 _ rfl).2
  have h1 : U.vm.findClass ("[" ++ (FieldType.boolean).toString) = some cZ := h1
  have h2 : U.vm.findClass ("[" ++ (FieldType.boolean).toString) = some cA := h2
  exact Option.some.inj (h2.symm.trans h1)
theorem ka_newz {cI cJ cZ : ClassId} {cl : List vw_C} {n : Nat} (hexec : p.tables.exec = Jvm.exec) (hb : c.code = cc) (harr : (Cond.arrayClass .boolean).before args s = true) (hK : va_K D cl (kTy cI cJ cZ) s) (hP : va_P D cl ws H) (hD : va_D A ws) (hS : va_S A H0 H locs) (hA : ∀ q, H0.size ≤ q → A q) {x : Int32} (hxn : x = nI n) (hn : n < 2 ^ 26) (hroom : cells + 1 ≤ R.cells ∧ slots + n ≤ R.slots) (hdg : decode cc pc = .ok (.newarray .boolean, 2))
    (kk : ∀ (q : Nat) (H1 : Heap), va_P D cl (ws ++ [(q, .inl (cZ, n, .inl (fun _ => 0)))]) H1 → va_D A (ws ++ [(q, .inl (cZ, n, .inl (fun _ => 0)))]) → va_S A H0 H1 locs → W p l e R s m args below meth c H1 locs (cells + 1) (slots + n) Q (F0 m (pc + 2) ls (.ref q :: rest))) : W p l e R s m args below meth c H locs cells slots Q (F0 m pc ls (.int x :: rest)) := by
  subst hxn
  refine va_newa (atype := .boolean) (ty := .boolean) hexec hb harr rfl hK hP hD hS hA (a0 := (n, .inl (fun _ => 0))) (fun cA => rfl) (nI_pos (by omega)) (nI_clamp (by omega)) (show n * 1 ≤ 536870912 by omega) hroom.1 hroom.2 hdg (fun q cA H1 hK1 hP1 hD1 hS1 => ?_)
  have hc := ka_uniZ hK1
  subst hc
  exact kk q H1 hP1 hD1 hS1
theorem ka_zld {cl : List vw_C} (hexec : p.tables.exec = Jvm.exec) (hb : c.code = cc) (hK : va_K D cl tys s) (hP : va_P D cl ws H) (q0 t0 : Nat) {cA : ClassId} {n : Nat} {f : Nat → Int32} (ha : ws[q0]? = some (a, .inl (cA, n, .inl f))) (ht : tys[t0]? = some (cA, .boolean)) {i : Int32} {k : Nat} (hi : i = nI k) (hk : k < n ∧ n < 2 ^ 31) (hdg : decode cc pc = .ok (.baload, 1))
    (kk : W p l e R s m args below meth c H locs cells slots Q (F0 m (pc + 1) ls (.int (f k) :: rest))) : W p l e R s m args below meth c H locs cells slots Q (F0 m pc ls (.int i :: .ref a :: rest)) := by
  subst hi
  refine va_zald hexec hb hK hP q0 t0 ha ht (vp_in_nI hk.1 hk.2) hdg ?_
  rw [nI_clamp (Nat.lt_trans hk.1 hk.2)]
  exact kk
theorem ka_zst {cl : List vw_C} (hexec : p.tables.exec = Jvm.exec) (hb : c.code = cc) (hK : va_K D cl tys s) (hP : va_P D cl ws H) (hD : va_D A ws) (hS : va_S A H0 H locs) (q0 t0 : Nat) {cA : ClassId} {n : Nat} {f : Nat → Int32} (ha : ws[q0]? = some (a, .inl (cA, n, .inl f))) (ht : tys[t0]? = some (cA, .boolean)) {i x : Int32} {k : Nat} (hi : i = nI k) (hk : k < n ∧ n < 2 ^ 31) (hz : vp_nar .boolean x = x) (hdg : decode cc pc = .ok (.bastore, 1))
    (kk : ∀ (H1 : Heap) (locs1 : List Loc), va_P D cl (ws.set q0 (a, .inl (cA, n, .inl (upd f k x)))) H1 → va_D A (ws.set q0 (a, .inl (cA, n, .inl (upd f k x)))) → va_S A H0 H1 locs1 → W p l e R s m args below meth c H1 locs1 cells slots Q (F0 m (pc + 1) ls rest)) : W p l e R s m args below meth c H locs cells slots Q (F0 m pc ls (.int x :: .int i :: .ref a :: rest)) := by
  subst hi
  refine va_zast hexec hb hK hP hD hS q0 t0 ha ht (vp_in_nI hk.1 hk.2) hdg ?_
  rw [nI_clamp (Nat.lt_trans hk.1 hk.2), hz]
  exact kk
end KH
end
section
/-! ===== the class as functions: table, history, ring, queue ===== -/
abbrev Fn : Type := Nat → Int32
/-- the table: tags, kinds, targets, last uses, how many are filled, uses -/
abbrev Tb : Type := Fn × Fn × Fn × Fn × Int32 × Int32
def ts_set (S : Nat) (p : Int32) : Nat := p.toBitVec.toNat / 4 % S
def ts_tag (sb : Nat) (p : Int32) : Int32 := k_ush (k_ush p 2) (nI sb) &&& 255
def tf_fo (g : Fn) (t : Int32) : Nat → Nat → Option Nat
  | _, 0 => none
  | b, n + 1 => if g b = t then some b else tf_fo g t (b + 1) n
def tf_i : Option Nat → Int32
  | none => -1
  | some k => nI k
def tf_find (S W sb : Nat) (t : Tb) (p : Int32) : Option Nat := if S = 0 then none else tf_fo t.1 (ts_tag sb p) (ts_set S p * W) W
def tf_old (u : Fn) : Nat → Nat → Nat → Nat
  | _, 0, o => o
  | s, n + 1, o => tf_old u (s + 1) n (if u s < u o then s else o)
def tf_slot (S W : Nat) (t : Tb) (p : Int32) : Nat := tf_old t.2.2.2.1 (ts_set S p * W + 1) (W - 1) (ts_set S p * W)
def tf_put (S W sb : Nat) (t : Tb) (p k x : Int32) : Tb :=
  if S = 0 then t else match tf_find S W sb t p with
  | some o => (t.1, upd t.2.1 o k, upd t.2.2.1 o x, upd t.2.2.2.1 o (t.2.2.2.2.2 + 1), t.2.2.2.2.1, t.2.2.2.2.2 + 1)
  | none => (upd t.1 (tf_slot S W t p) (ts_tag sb p), upd t.2.1 (tf_slot S W t p) k, upd t.2.2.1 (tf_slot S W t p) x, upd t.2.2.2.1 (tf_slot S W t p) (t.2.2.2.2.2 + 1), (if t.1 (tf_slot S W t p) = -1 then t.2.2.2.2.1 + 1 else t.2.2.2.2.1), t.2.2.2.2.2 + 1)
/-- by history: tags, targets, the history -/
abbrev Hs : Type := Fn × Fn × Int32
def hf_fold (h : Int32) : Int32 := ((h ^^^ k_ush h 6) ^^^ k_ush h 12) ^^^ k_ush h 18
def hf_ix (h p : Int32) : Nat := (k_ush p 2 ^^^ hf_fold h).toBitVec.toNat % 64
def hf_tag (p : Int32) : Int32 := k_ush p 8 &&& 255
def hf_knows (h : Hs) (p : Int32) : Int32 := if h.1 (hf_ix h.2.2 p) = hf_tag p then 1 else 0
def hf_put (h : Hs) (p x : Int32) : Hs := (upd h.1 (hf_ix h.2.2 p) (hf_tag p), upd h.2.1 (hf_ix h.2.2 p) x, h.2.2)
def hf_rem (h : Hs) (x : Int32) : Hs := (h.1, h.2.1, ((h.2.2 <<< ((3 : Int32) &&& 31)) ^^^ k_ush x 2) &&& 16777215)
/-- the ring: places, how deep, overflows, underflows -/
abbrev Rs : Type := Fn × Nat × Int32 × Int32
def rf_top (r : Rs) (k : Nat) : Int32 := r.1 (r.2.1 - 1 - k)
def rf_lose (r : Rs) : Rs := if r.2.1 = 0 then r else (va_cpy r.1 r.1 1 0 (r.2.1 - 1), r.2.1 - 1, r.2.2.1, r.2.2.2)
def rf_pre (L : Nat) (r : Rs) : Rs := if r.2.1 = L then rf_lose (r.1, r.2.1, r.2.2.1 + 1, r.2.2.2) else r
def rf_add (L : Nat) (r : Rs) (x : Int32) : Rs := if r.2.1 < L then (upd r.1 r.2.1 x, r.2.1 + 1, r.2.2.1, r.2.2.2) else r
def rf_push (L : Nat) (r : Rs) (x : Int32) : Rs := rf_add L (rf_pre L r) x
def rf_pop (r : Rs) : Rs := if r.2.1 = 0 then (r.1, r.2.1, r.2.2.1, r.2.2.2 + 1) else (r.1, r.2.1 - 1, r.2.2.1, r.2.2.2)
/-- the queue: places, told, depths, rings, size, first -/
abbrev Qs : Type := Fn × Fn × Fn × Fn × Nat × Nat
def qf_ix (q : Qs) (k : Nat) : Nat := (q.2.2.2.2.2 + k) % 16
def qf_add (L : Nat) (q : Qs) (p a : Int32) (r : Rs) : Qs := (upd q.1 (qf_ix q q.2.2.2.2.1) p, upd q.2.1 (qf_ix q q.2.2.2.2.1) a, upd q.2.2.1 (qf_ix q q.2.2.2.2.1) (nI r.2.1), va_cpy r.1 q.2.2.2.1 0 (qf_ix q q.2.2.2.2.1 * L) r.2.1, q.2.2.2.2.1 + 1, q.2.2.2.2.2)
def qf_back (L : Nat) (q : Qs) (r : Rs) : Rs := (va_cpy q.2.2.2.1 r.1 (q.2.2.2.2.2 * L) 0 (q.2.2.1 q.2.2.2.2.2).toNatClampNeg, (q.2.2.1 q.2.2.2.2.2).toNatClampNeg, r.2.2.1, r.2.2.2)
def qf_drop (q : Qs) : Qs := (q.1, q.2.1, q.2.2.1, q.2.2.2.1, q.2.2.2.2.1 - 1, qf_ix q 1)
def qf_clear (q : Qs) : Qs := (q.1, q.2.1, q.2.2.1, q.2.2.2.1, 0, q.2.2.2.2.2)
/-! numbers -/
theorem k_ush_tn (x : Int32) {y : Int32} (k : Nat) (hk : ((y.toUInt32 &&& Int32.toUInt32 31).toBitVec % 32).toNat = k) : (k_ush x y).toBitVec.toNat = x.toBitVec.toNat / 2 ^ k := pk_ushr x y k hk
theorem ts_lem {S sb : Nat} (h : S = 2 ^ sb) (hb : sb ≤ 4) (p : Int32) : k_ush p 2 &&& (nI S - 1) = nI (ts_set S p) := by
  subst h
  have e1 : nI (2 ^ sb) - 1 = nI (2 ^ sb - 1) := pk_sub (b := 1) (Nat.one_le_two_pow)
  have e2 : (nI (2 ^ sb - 1)).toBitVec.toNat = 2 ^ sb - 1 := pk_tn (Nat.lt_of_le_of_lt (Nat.sub_le _ _) (Nat.pow_lt_pow_right (by omega) (by omega)))
  rw [e1, pk_and (k_ush p 2) sb e2, k_ush_tn p 2 (by decide)]
  rfl
theorem ts_set_lt {S : Nat} (h : 0 < S) (p : Int32) : ts_set S p < S := Nat.mod_lt _ h
theorem ts_in {S W j : Nat} (p : Int32) (h : 0 < S) (hj : j < W) : ts_set S p * W + j < S * W := by
  have h1 := ts_set_lt h p
  calc ts_set S p * W + j < ts_set S p * W + W := by omega
    _ = (ts_set S p + 1) * W := by rw [Nat.add_mul, Nat.one_mul]
    _ ≤ S * W := Nat.mul_le_mul_right W h1
theorem tf_fo_some {g : Fn} {t : Int32} : ∀ {n b j : Nat}, tf_fo g t b n = some j → b ≤ j ∧ j < b + n ∧ g j = t
  | 0, b, j, h => by simp [tf_fo] at h
  | n + 1, b, j, h => by
    unfold tf_fo at h
    by_cases hg : g b = t
    · rw [if_pos hg] at h
      cases h
      exact ⟨Nat.le_refl _, by omega, hg⟩
    · rw [if_neg hg] at h
      obtain ⟨h1, h2, h3⟩ := tf_fo_some h
      exact ⟨by omega, by omega, h3⟩
theorem tf_find_lt {S W sb : Nat} {t : Tb} {p : Int32} {j : Nat} (h : tf_find S W sb t p = some j) : S ≠ 0 ∧ j < S * W ∧ t.1 j = ts_tag sb p := by
  unfold tf_find at h
  by_cases hS : S = 0
  · rw [if_pos hS] at h; cases h
  · rw [if_neg hS] at h
    obtain ⟨h1, h2, h3⟩ := tf_fo_some h
    refine ⟨hS, ?_, h3⟩
    have := ts_in (S := S) (W := W) (j := j - ts_set S p * W) p (by omega) (by omega)
    omega
theorem tf_old_in {u : Fn} : ∀ (n s o b e : Nat), b ≤ o → o < e → b ≤ s → s + n ≤ e → b ≤ tf_old u s n o ∧ tf_old u s n o < e
  | 0, s, o, b, e, h1, h2, h3, h4 => ⟨h1, h2⟩
  | n + 1, s, o, b, e, h1, h2, h3, h4 => by
    unfold tf_old
    by_cases hc : u s < u o
    · rw [if_pos hc]; exact tf_old_in n (s + 1) s b e h3 (by omega) (by omega) (by omega)
    · rw [if_neg hc]; exact tf_old_in n (s + 1) o b e h1 h2 (by omega) (by omega)
theorem tf_slot_lt {S W : Nat} (t : Tb) (p : Int32) (hS : S ≠ 0) (hW : 0 < W) : tf_slot S W t p < S * W := by
  have h1 := ts_in (S := S) (W := W) (j := W - 1) p (by omega) (by omega)
  have h2 := tf_old_in (u := t.2.2.2.1) (W - 1) (ts_set S p * W + 1) (ts_set S p * W) (ts_set S p * W) (ts_set S p * W + W) (Nat.le_refl _) (by omega) (by omega) (by omega)
  unfold tf_slot
  omega
theorem hf_lem (h p : Int32) : (k_ush p 2 ^^^ hf_fold h) &&& 63 = nI (hf_ix h p) := pk_and _ 6 (by decide)
theorem hf_ix_lt (h p : Int32) : hf_ix h p < 64 := Nat.mod_lt _ (by decide)
theorem qf_lem (f k : Nat) (hf : f < 2 ^ 16) (hk : k < 2 ^ 16) : (nI f + nI k) &&& 15 = nI ((f + k) % 16) := by
  rw [nI_add]
  exact pk_andN (by omega) 4 (by decide)
theorem qf_ix_lt (q : Qs) (k : Nat) : qf_ix q k < 16 := Nat.mod_lt _ (by decide)
theorem q_room {i L d : Nat} (hi : i < 16) (hd : d ≤ L) : i * L + d ≤ 16 * L := by
  have h := Nat.mul_le_mul_right L (show i + 1 ≤ 16 from hi)
  rw [Nat.add_mul, Nat.one_mul] at h
  omega
theorem ts_SW {S Wy : Nat} (h1 : S ≤ 16) (h2 : Wy ≤ 4) : S * Wy < 2 ^ 16 := Nat.lt_of_le_of_lt (Nat.mul_le_mul h1 h2) (by decide)
theorem nI_nm1 {j : Nat} (h : j < 2 ^ 31) : nI j ≠ -1 := fun q => absurd (show nI j < 0 by rw [q]; decide) (nI_pos h)
theorem rf_lose_le (r : Rs) : (rf_lose r).2.1 ≤ r.2.1 := by
  unfold rf_lose
  by_cases h : r.2.1 = 0
  · rw [if_pos h]; exact Nat.le_refl _
  · rw [if_neg h]; exact Nat.sub_le _ _
/-! the whole class -/
abbrev Cs : Type := Tb × Hs × Rs × Qs × Fn × Int32 × Int32
def cf_told (c : Cs) (p : Int32) : Option Nat → Int32
  | none => p + 4
  | some o => if c.1.2.1 o = 2 ∧ 0 < c.2.2.1.2.1 then rf_top c.2.2.1 0 else if c.1.2.1 o = 3 ∧ hf_knows c.2.1 p ≠ 0 then c.2.1.2.1 (hf_ix c.2.1.2.2 p) else c.1.2.2.1 o
def cf_move (L : Nat) (r : Rs) (k p : Int32) : Rs := if k = 1 then rf_push L r (p + 4) else if k = 2 then rf_pop r else r
def cf_tail (k tk : Int32) : Int32 := if k = 2 then 3 else if k = 3 then 4 else if tk = 0 then 5 else 6
def cf_cause (kd : Fn) (k tk : Int32) : Option Nat → Int32
  | none => if tk = 0 then cf_tail k tk else 1
  | some o => if kd o = k then cf_tail k tk else 2
def cf_back (L : Nat) (q : Qs) (r : Rs) (d0 : Nat) : Rs := (va_cpy q.2.2.2.1 r.1 (q.2.2.2.2.2 * L) 0 d0, d0, r.2.2.1, r.2.2.2)
def cf_nextR (L : Nat) (c : Cs) (p : Int32) : Option Nat → Rs
  | none => c.2.2.1
  | some o => cf_move L c.2.2.1 (c.1.2.1 o) p
def cf_pl (c : Cs) : Int32 := c.2.2.2.1.1 (qf_ix c.2.2.2.1 0)
def cf_td (c : Cs) : Int32 := c.2.2.2.1.2.1 (qf_ix c.2.2.2.1 0)
def cf_went (c : Cs) (tk x : Int32) : Int32 := if tk = 0 then cf_pl c + 4 else x
def cf_ans (S W sb : Nat) (c : Cs) (k tk x : Int32) : Int32 := if cf_td c = cf_went c tk x then 0 else cf_cause c.1.2.1 k tk (tf_find S W sb c.1 (cf_pl c))
def cf_updH (h : Hs) (p k x : Int32) : Hs := hf_rem (if k = 3 then hf_put h p x else h) x
def cf_chk (S W sb L : Nat) (c : Cs) (d0 : Nat) (k tk x : Int32) : Cs :=
  (if tk = 0 then c.1 else tf_put S W sb c.1 (cf_pl c) k x, if tk = 0 then c.2.1 else cf_updH c.2.1 (cf_pl c) k x,
   if cf_td c = cf_went c tk x then c.2.2.1 else if tk = 0 then cf_back L c.2.2.2.1 c.2.2.1 d0 else cf_move L (cf_back L c.2.2.2.1 c.2.2.1 d0) k (cf_pl c),
   if cf_td c = cf_went c tk x then qf_drop c.2.2.2.1 else qf_clear c.2.2.2.1,
   upd c.2.2.2.2.1 (cf_ans S W sb c k tk x).toNatClampNeg (c.2.2.2.2.1 (cf_ans S W sb c k tk x).toNatClampNeg + 1), c.2.2.2.2.2.1 + 1,
   if cf_td c = cf_went c tk x then c.2.2.2.2.2.2 else c.2.2.2.2.2.2 + (nI c.2.2.2.1.2.2.2.2.1 - 1))
def cf_flush (L : Nat) (c : Cs) (d0 : Nat) : Cs := if c.2.2.2.1.2.2.2.2.1 = 0 then c else (c.1, c.2.1, cf_back L c.2.2.2.1 c.2.2.1 d0, qf_clear c.2.2.2.1, c.2.2.2.2.1, c.2.2.2.2.2.1, c.2.2.2.2.2.2 + nI c.2.2.2.1.2.2.2.2.1)
def cf_count (S W L : Nat) (c : Cs) (w : Int32) : Int32 :=
  if 1 ≤ w ∧ w ≤ 7 then c.2.2.2.2.1 (w - 1).toNatClampNeg else if w = 0 then c.2.2.2.2.2.1 else if w = 8 then c.2.2.1.2.2.1 else if w = 9 then c.2.2.1.2.2.2 else if w = 10 then nI c.2.2.2.1.2.2.2.2.1
  else if w = 11 then nI c.2.2.1.2.1 else if w = 12 then c.1.2.2.2.2.1 else if w = 13 then c.2.1.2.2 else if w = 14 then c.2.2.2.2.2.2 else if w = 15 then nI S else if w = 16 then nI W else if w = 17 then nI L else -1
theorem cf_tail_ne (k tk : Int32) : cf_tail k tk ≠ 0 := by
  unfold cf_tail
  split
  · decide
  · split
    · decide
    · split <;> decide
theorem cf_cause_ne (kd : Fn) (k tk : Int32) (o : Option Nat) : cf_cause kd k tk o ≠ 0 := by
  unfold cf_cause
  split
  · split
    · exact cf_tail_ne _ _
    · decide
  · split
    · exact cf_tail_ne _ _
    · decide
theorem rf_pre_le {L : Nat} {r : Rs} (h : r.2.1 ≤ L) : (rf_pre L r).2.1 ≤ L := by
  unfold rf_pre
  split
  · exact Nat.le_trans (rf_lose_le _) h
  · exact h
theorem rf_push_le {L : Nat} {r : Rs} (x : Int32) (h : r.2.1 ≤ L) : (rf_push L r x).2.1 ≤ L := by
  unfold rf_push rf_add
  split
  · assumption
  · exact rf_pre_le h
theorem rf_pop_le {L : Nat} {r : Rs} (h : r.2.1 ≤ L) : (rf_pop r).2.1 ≤ L := by
  unfold rf_pop
  split
  · exact h
  · exact Nat.le_trans (Nat.sub_le _ _) h
theorem cf_move_le {L : Nat} {r : Rs} (k p : Int32) (h : r.2.1 ≤ L) : (cf_move L r k p).2.1 ≤ L := by
  unfold cf_move
  split
  · exact rf_push_le _ h
  · split
    · exact rf_pop_le h
    · exact h
theorem cf_tail_n (k tk : Int32) : ∃ j : Nat, 1 ≤ j ∧ j < 7 ∧ cf_tail k tk = nI j := by
  unfold cf_tail
  split
  · exact ⟨3, by decide, by decide, rfl⟩
  · split
    · exact ⟨4, by decide, by decide, rfl⟩
    · split
      · exact ⟨5, by decide, by decide, rfl⟩
      · exact ⟨6, by decide, by decide, rfl⟩
theorem cf_cause_n (kd : Fn) (k tk : Int32) (o : Option Nat) : ∃ j : Nat, 1 ≤ j ∧ j < 7 ∧ cf_cause kd k tk o = nI j := by
  unfold cf_cause
  split
  · split
    · exact cf_tail_n _ _
    · exact ⟨1, by decide, by decide, rfl⟩
  · split
    · exact cf_tail_n _ _
    · exact ⟨2, by decide, by decide, rfl⟩
theorem en_lt {a b S W : Nat} (ha : a < S) (hb : b < W) : a * W + b < S * W := by
  have h := Nat.mul_le_mul_right W (show a + 1 ≤ S from ha)
  rw [Nat.add_mul, Nat.one_mul] at h
  omega
theorem chk_le {L : Nat} {q : Qs} {r : Rs} {d0 : Nat} {k p tk : Int32} (h : ¬ tk = 0) (hd : d0 ≤ L) : (if tk = 0 then cf_back L q r d0 else cf_move L (cf_back L q r d0) k p).2.1 ≤ L := by
  rw [if_neg h]
  exact cf_move_le k p hd
theorem ct_ix {w : Int32} (h1 : 1 ≤ w) (h2 : w ≤ 7) : ∃ k : Nat, k < 7 ∧ (w - 1).toNatClampNeg = k ∧ w - 1 = nI k := by
  have a1 : (1 : Int) ≤ w.toInt := Int32.le_iff_toInt_le.mp h1
  obtain ⟨n, hn, rfl⟩ := nI_of2 (x := w) (M := 7) (n := 7) rfl (fun q => by
    have a2 : w.toInt < 0 := Int32.lt_iff_toInt_lt.mp q
    omega) h2
  have h1n : 1 ≤ n := (nI_leI (a := 1) (b := n) (by decide) (by omega)).mp h1
  have e : (nI n - 1 : Int32) = nI (n - 1) := pk_sub (b := 1) h1n
  exact ⟨n - 1, by omega, by rw [e]; exact nI_clamp (by omega), e⟩
theorem ct_out {w : Int32} (h : ¬ (1 ≤ w ∧ w ≤ 7)) (e0 : ¬ w = 0) (e8 : ¬ w = 8) (e9 : ¬ w = 9) (e10 : ¬ w = 10) (e11 : ¬ w = 11) (e12 : ¬ w = 12) (e13 : ¬ w = 13) (e14 : ¬ w = 14) (e15 : ¬ w = 15) (e16 : ¬ w = 16) (e17 : ¬ w = 17) : w.toInt < 0 ∨ 17 < w.toInt := by
  have f0 := lv_neT e0 (a := 0) rfl
  have f8 := lv_neT e8 (a := 8) rfl
  have f9 := lv_neT e9 (a := 9) rfl
  have f10 := lv_neT e10 (a := 10) rfl
  have f11 := lv_neT e11 (a := 11) rfl
  have f12 := lv_neT e12 (a := 12) rfl
  have f13 := lv_neT e13 (a := 13) rfl
  have f14 := lv_neT e14 (a := 14) rfl
  have f15 := lv_neT e15 (a := 15) rfl
  have f16 := lv_neT e16 (a := 16) rfl
  have f17 := lv_neT e17 (a := 17) rfl
  have g : ¬ ((1 : Int) ≤ w.toInt ∧ w.toInt ≤ 7) := fun q => h ⟨Int32.le_iff_toInt_le.mpr q.1, Int32.le_iff_toInt_le.mpr q.2⟩
  omega
end
section
abbrev wTab (h0 h1 h2 h3 h4 : Nat) (cI : ClassId) (S Wy sb : Nat) (t : Tb) : va_W := [(h0, .inr (3, [.int (nI S), .int (nI Wy), .ref (h1), .ref (h2), .ref (h3), .int ((t).2.2.2.2.1), .int (nI sb), .ref (h4), .int ((t).2.2.2.2.2)])), (h1, .inl (cI, S * Wy, .inl ((t).1))), (h2, .inl (cI, S * Wy, .inl ((t).2.1))), (h3, .inl (cI, S * Wy, .inl ((t).2.2.1))), (h4, .inl (cI, S * Wy, .inl ((t).2.2.2.1)))]
abbrev wHis (h0 h1 h2 : Nat) (cI : ClassId) (t : Hs) : va_W := [(h0, .inr (0, [.ref (h1), .ref (h2), .int ((t).2.2)])), (h1, .inl (cI, 64, .inl ((t).1))), (h2, .inl (cI, 64, .inl ((t).2.1)))]
abbrev wRet (h0 h1 : Nat) (cI : ClassId) (L : Nat) (t : Rs) : va_W := [(h0, .inr (2, [.int (nI L), .int (nI ((t).2.1)), .int ((t).2.2.1), .int ((t).2.2.2), .ref (h1)])), (h1, .inl (cI, L, .inl ((t).1)))]
abbrev wQue (h0 h1 h2 h3 h4 : Nat) (cI : ClassId) (L : Nat) (t : Qs) : va_W := [(h0, .inr (1, [.int (nI ((t).2.2.2.2.1)), .int (nI ((t).2.2.2.2.2)), .int (nI L), .ref (h1), .ref (h2), .ref (h3), .ref (h4)])), (h1, .inl (cI, 16, .inl ((t).1))), (h2, .inl (cI, 16, .inl ((t).2.1))), (h3, .inl (cI, 16, .inl ((t).2.2.1))), (h4, .inl (cI, 16 * L, .inl ((t).2.2.2.1)))]
end
section
set_option maxHeartbeats 4000000 in
set_option maxRecDepth 100000 in
/-- where the set of a place begins -/
theorem c_X3_firstSlotFor (l : Launch) (D : va_G) (cI cJ cZ : ClassId) (sz : Nat) (h0 h1 h2 h3 h4 : Nat) (S Wy sb : Nat) (tg kd tt lu : Fn) (fl us : Int32) (p0 : Int32) (hSs : S = 2 ^ sb) (hsb : sb ≤ 4) : KI l yX3_firstSlotFor wsX3_firstSlotFor ({ frames := 0, cells := 0, slots := 0, locals := 0 } : Room) D (kTy cI cJ cZ) [.ref (h0), .int (p0)] [(h0, .inr (3, [.int (nI S), .int (nI Wy), .ref (h1), .ref (h2), .ref (h3), .int (fl), .int (nI sb), .ref (h4), .int (us)])), (h1, .inl (cI, S * Wy, .inl (tg))), (h2, .inl (cI, S * Wy, .inl (kd))), (h3, .inl (cI, S * Wy, .inl (tt))), (h4, .inl (cI, S * Wy, .inl (lu)))] sz (wTab h0 h1 h2 h3 h4 cI S Wy sb (tg, kd, tt, lu, fl, us)) (nI (ts_set S p0 * Wy)) 0 0 := by
  refine Met.ofW (cc := cX3_firstSlotFor) (maxL := 2) (ret := (some .int)) (by decide) rfl ?_
  intro p e s m args below meth c s₁ B hml hv
  obtain ⟨rfl, hsz, hP, hK, hD0⟩ := hv
  have hx := B.exec
  have hb := B.bytes
  have hr := B.returns
  have hts := atoms_spec (ws := wsX3_firstSlotFor) B.pre
  have hown : s.vm.findClass RX3 = some m.cls := findClass_of_methodNamed B.named
  have hlocks := B.notSynchronized
  have kf15 := hts (.fieldLink RX3 15 "TargetRows$Table" "sets" "I") (List.mem_cons_of_mem _ kw_62)
  have kf18 := hts (.fieldLink RX3 18 "TargetRows$Table" "ways" "I") (List.mem_cons_of_mem _ kw_64)
  subst hsz
  have hD := hD0.self (sz := s.heap.size)
  generalize hAe : va_A [(h0, .inr (3, [.int (nI S), .int (nI Wy), .ref (h1), .ref (h2), .ref (h3), .int (fl), .int (nI sb), .ref (h4), .int (us)])), (h1, .inl (cI, S * Wy, .inl (tg))), (h2, .inl (cI, S * Wy, .inl (kd))), (h3, .inl (cI, S * Wy, .inl (tt))), (h4, .inl (cI, S * Wy, .inl (lu)))] s.heap.size = A at hD ⊢
  have hA : ∀ q : Nat, s.heap.size ≤ q → A q := fun q h => by rw [← hAe]; exact Or.inr h
  have hS : va_S A s.heap s.heap [] := va_S.rf
  have hP : va_P D vwCl [(h0, .inr (3, [.int (nI S), .int (nI Wy), .ref (h1), .ref (h2), .ref (h3), .int (fl), .int (nI sb), .ref (h4), .int (us)])), (h1, .inl (cI, S * Wy, .inl (tg))), (h2, .inl (cI, S * Wy, .inl (kd))), (h3, .inl (cI, S * Wy, .inl (tt))), (h4, .inl (cI, S * Wy, .inl (lu)))] s.heap := hP
  have hD : va_D A [(h0, .inr (3, [.int (nI S), .int (nI Wy), .ref (h1), .ref (h2), .ref (h3), .int (fl), .int (nI sb), .ref (h4), .int (us)])), (h1, .inl (cI, S * Wy, .inl (tg))), (h2, .inl (cI, S * Wy, .inl (kd))), (h3, .inl (cI, S * Wy, .inl (tt))), (h4, .inl (cI, S * Wy, .inl (lu)))] := hD
  have hl := lv_entry ([.ref (h0), .int (p0)]) (n := 2) (Nat.le_of_ble_eq_true rfl)
  rw [lg_entry_eq]
  generalize (lg_sl ([.ref (h0), .int (p0)]) ++ List.replicate (2 - (lg_sl ([.ref (h0), .int (p0)])).length) Slot.unset).toArray = ls at hl ⊢
  have hl : lv_has ls 2 [(0, .ref (h0)), (1, .int (p0))] := hl
  refine lv_iload_n hx hb dX3_firstSlotFor_0 rfl (lv_at hl 1 rfl) ?_
  refine lv_iconst (v := 2) hx hb dX3_firstSlotFor_1 (by decide) ?_
  refine lv_iushr (v := k_ush (p0) (2)) hx hb dX3_firstSlotFor_2 rfl ?_
  refine lv_aload_n hx hb dX3_firstSlotFor_3 rfl (lv_at hl 0 rfl) ?_
  refine va_get (D := D) (ci := 3) (v := .int (nI S)) (C := RX3) (T := TX3) (N := 9) hx hb hts (fun w h => List.mem_cons_of_mem _ (hiX3 w h)) hown hK hP 0 rfl rfl 0 (by decide) kf15 (fun _ h9 => h9) rfl dX3_firstSlotFor_4 ?_
  refine lv_iconst (v := 1) hx hb dX3_firstSlotFor_7 (by decide) ?_
  refine lv_isub hx hb dX3_firstSlotFor_8 ?_
  refine lv_iand hx hb dX3_firstSlotFor_9 ?_
  refine kt_i (y := nI (ts_set S p0)) (ts_lem hSs hsb p0) ?_
  refine lv_aload_n hx hb dX3_firstSlotFor_10 rfl (lv_at hl 0 rfl) ?_
  refine va_get (D := D) (ci := 3) (v := .int (nI Wy)) (C := RX3) (T := TX3) (N := 9) hx hb hts (fun w h => List.mem_cons_of_mem _ (hiX3 w h)) hown hK hP 0 rfl rfl 1 (by decide) kf18 (fun _ h9 => h9) rfl dX3_firstSlotFor_11 ?_
  refine lv_imul hx hb dX3_firstSlotFor_14 ?_
  refine kt_i (y := nI (ts_set S p0 * Wy)) (pk_mul _ _) ?_
  exact kr_i (rfl) hx hb hr hlocks hP hK hD hS (rfl) dX3_firstSlotFor_15

set_option maxHeartbeats 4000000 in
set_option maxRecDepth 100000 in
/-- the tag of a place -/
theorem c_X3_tagOf (l : Launch) (D : va_G) (cI cJ cZ : ClassId) (sz : Nat) (h0 h1 h2 h3 h4 : Nat) (S Wy sb : Nat) (tg kd tt lu : Fn) (fl us : Int32) (p0 : Int32) : KI l yX3_tagOf wsX3_tagOf ({ frames := 0, cells := 0, slots := 0, locals := 0 } : Room) D (kTy cI cJ cZ) [.ref (h0), .int (p0)] [(h0, .inr (3, [.int (nI S), .int (nI Wy), .ref (h1), .ref (h2), .ref (h3), .int (fl), .int (nI sb), .ref (h4), .int (us)])), (h1, .inl (cI, S * Wy, .inl (tg))), (h2, .inl (cI, S * Wy, .inl (kd))), (h3, .inl (cI, S * Wy, .inl (tt))), (h4, .inl (cI, S * Wy, .inl (lu)))] sz (wTab h0 h1 h2 h3 h4 cI S Wy sb (tg, kd, tt, lu, fl, us)) (ts_tag sb p0) 0 0 := by
  refine Met.ofW (cc := cX3_tagOf) (maxL := 2) (ret := (some .int)) (by decide) rfl ?_
  intro p e s m args below meth c s₁ B hml hv
  obtain ⟨rfl, hsz, hP, hK, hD0⟩ := hv
  have hx := B.exec
  have hb := B.bytes
  have hr := B.returns
  have hts := atoms_spec (ws := wsX3_tagOf) B.pre
  have hown : s.vm.findClass RX3 = some m.cls := findClass_of_methodNamed B.named
  have hlocks := B.notSynchronized
  have kf9 := hts (.fieldLink RX3 9 "TargetRows$Table" "setBits" "I") (List.mem_cons_of_mem _ kw_74)
  subst hsz
  have hD := hD0.self (sz := s.heap.size)
  generalize hAe : va_A [(h0, .inr (3, [.int (nI S), .int (nI Wy), .ref (h1), .ref (h2), .ref (h3), .int (fl), .int (nI sb), .ref (h4), .int (us)])), (h1, .inl (cI, S * Wy, .inl (tg))), (h2, .inl (cI, S * Wy, .inl (kd))), (h3, .inl (cI, S * Wy, .inl (tt))), (h4, .inl (cI, S * Wy, .inl (lu)))] s.heap.size = A at hD ⊢
  have hA : ∀ q : Nat, s.heap.size ≤ q → A q := fun q h => by rw [← hAe]; exact Or.inr h
  have hS : va_S A s.heap s.heap [] := va_S.rf
  have hP : va_P D vwCl [(h0, .inr (3, [.int (nI S), .int (nI Wy), .ref (h1), .ref (h2), .ref (h3), .int (fl), .int (nI sb), .ref (h4), .int (us)])), (h1, .inl (cI, S * Wy, .inl (tg))), (h2, .inl (cI, S * Wy, .inl (kd))), (h3, .inl (cI, S * Wy, .inl (tt))), (h4, .inl (cI, S * Wy, .inl (lu)))] s.heap := hP
  have hD : va_D A [(h0, .inr (3, [.int (nI S), .int (nI Wy), .ref (h1), .ref (h2), .ref (h3), .int (fl), .int (nI sb), .ref (h4), .int (us)])), (h1, .inl (cI, S * Wy, .inl (tg))), (h2, .inl (cI, S * Wy, .inl (kd))), (h3, .inl (cI, S * Wy, .inl (tt))), (h4, .inl (cI, S * Wy, .inl (lu)))] := hD
  have hl := lv_entry ([.ref (h0), .int (p0)]) (n := 2) (Nat.le_of_ble_eq_true rfl)
  rw [lg_entry_eq]
  generalize (lg_sl ([.ref (h0), .int (p0)]) ++ List.replicate (2 - (lg_sl ([.ref (h0), .int (p0)])).length) Slot.unset).toArray = ls at hl ⊢
  have hl : lv_has ls 2 [(0, .ref (h0)), (1, .int (p0))] := hl
  refine lv_iload_n hx hb dX3_tagOf_0 rfl (lv_at hl 1 rfl) ?_
  refine lv_iconst (v := 2) hx hb dX3_tagOf_1 (by decide) ?_
  refine lv_iushr (v := k_ush (p0) (2)) hx hb dX3_tagOf_2 rfl ?_
  refine lv_aload_n hx hb dX3_tagOf_3 rfl (lv_at hl 0 rfl) ?_
  refine va_get (D := D) (ci := 3) (v := .int (nI sb)) (C := RX3) (T := TX3) (N := 9) hx hb hts (fun w h => List.mem_cons_of_mem _ (hiX3 w h)) hown hK hP 0 rfl rfl 6 (by decide) kf9 (fun _ h9 => h9) rfl dX3_tagOf_4 ?_
  refine lv_iushr (v := k_ush (k_ush (p0) (2)) (nI sb)) hx hb dX3_tagOf_7 rfl ?_
  refine lv_sipush (v := 255) hx hb dX3_tagOf_8 (by decide) ?_
  refine lv_iand hx hb dX3_tagOf_11 ?_
  exact kr_i (rfl) hx hb hr hlocks hP hK hD hS (rfl) dX3_tagOf_12

set_option maxHeartbeats 4000000 in
set_option maxRecDepth 100000 in
/-- the slot of a place, or -1 -/
theorem c_X3_find (l : Launch) (D : va_G) (cI cJ cZ : ClassId) (sz : Nat) (h0 h1 h2 h3 h4 : Nat) (S Wy sb : Nat) (tg kd tt lu : Fn) (fl us : Int32) (p0 : Int32) (hSs : S = 0 ∨ S = 2 ^ sb) (hS16 : S ≤ 16) (hsb : sb ≤ 4) (hW : 0 < Wy) (hW4 : Wy ≤ 4) : KI l yX3_find wsX3_find ({ frames := 1, cells := 0, slots := 0, locals := 21 } : Room) D (kTy cI cJ cZ) [.ref (h0), .int (p0)] [(h0, .inr (3, [.int (nI S), .int (nI Wy), .ref (h1), .ref (h2), .ref (h3), .int (fl), .int (nI sb), .ref (h4), .int (us)])), (h1, .inl (cI, S * Wy, .inl (tg))), (h2, .inl (cI, S * Wy, .inl (kd))), (h3, .inl (cI, S * Wy, .inl (tt))), (h4, .inl (cI, S * Wy, .inl (lu)))] sz (wTab h0 h1 h2 h3 h4 cI S Wy sb (tg, kd, tt, lu, fl, us)) (tf_i (tf_find S Wy sb (tg, kd, tt, lu, fl, us) p0)) 0 0 := by
  refine Met.ofW (cc := cX3_find) (maxL := 5) (ret := (some .int)) (by decide) rfl ?_
  intro p e s m args below meth c s₁ B hml hv
  obtain ⟨rfl, hsz, hP, hK, hD0⟩ := hv
  have hx := B.exec
  have hb := B.bytes
  have hr := B.returns
  have hts := atoms_spec (ws := wsX3_find) B.pre
  have hown : s.vm.findClass RX3 = some m.cls := findClass_of_methodNamed B.named
  have hlocks := B.notSynchronized
  have kf15 := hts (.fieldLink RX3 15 "TargetRows$Table" "sets" "I") (List.mem_cons_of_mem _ kw_62)
  have kf18 := hts (.fieldLink RX3 18 "TargetRows$Table" "ways" "I") (List.mem_cons_of_mem _ kw_64)
  have kf21 := hts (.fieldLink RX3 21 "TargetRows$Table" "tags" "[I") (List.mem_cons_of_mem _ kw_66)
  subst hsz
  have hD := hD0.self (sz := s.heap.size)
  generalize hAe : va_A [(h0, .inr (3, [.int (nI S), .int (nI Wy), .ref (h1), .ref (h2), .ref (h3), .int (fl), .int (nI sb), .ref (h4), .int (us)])), (h1, .inl (cI, S * Wy, .inl (tg))), (h2, .inl (cI, S * Wy, .inl (kd))), (h3, .inl (cI, S * Wy, .inl (tt))), (h4, .inl (cI, S * Wy, .inl (lu)))] s.heap.size = A at hD ⊢
  have hA : ∀ q : Nat, s.heap.size ≤ q → A q := fun q h => by rw [← hAe]; exact Or.inr h
  have hS : va_S A s.heap s.heap [] := va_S.rf
  have hP : va_P D vwCl [(h0, .inr (3, [.int (nI S), .int (nI Wy), .ref (h1), .ref (h2), .ref (h3), .int (fl), .int (nI sb), .ref (h4), .int (us)])), (h1, .inl (cI, S * Wy, .inl (tg))), (h2, .inl (cI, S * Wy, .inl (kd))), (h3, .inl (cI, S * Wy, .inl (tt))), (h4, .inl (cI, S * Wy, .inl (lu)))] s.heap := hP
  have hD : va_D A [(h0, .inr (3, [.int (nI S), .int (nI Wy), .ref (h1), .ref (h2), .ref (h3), .int (fl), .int (nI sb), .ref (h4), .int (us)])), (h1, .inl (cI, S * Wy, .inl (tg))), (h2, .inl (cI, S * Wy, .inl (kd))), (h3, .inl (cI, S * Wy, .inl (tt))), (h4, .inl (cI, S * Wy, .inl (lu)))] := hD
  have hl := lv_entry ([.ref (h0), .int (p0)]) (n := 5) (Nat.le_of_ble_eq_true rfl)
  rw [lg_entry_eq]
  generalize (lg_sl ([.ref (h0), .int (p0)]) ++ List.replicate (5 - (lg_sl ([.ref (h0), .int (p0)])).length) Slot.unset).toArray = ls at hl ⊢
  have hl : lv_has ls 5 [(0, .ref (h0)), (1, .int (p0))] := hl
  refine lv_aload_n hx hb dX3_find_0 rfl (lv_at hl 0 rfl) ?_
  refine va_get (D := D) (ci := 3) (v := .int (nI S)) (C := RX3) (T := TX3) (N := 9) hx hb hts (fun w h => List.mem_cons_of_mem _ (hiX3 w h)) hown hK hP 0 rfl rfl 0 (by decide) kf15 (fun _ h9 => h9) rfl dX3_find_1 ?_
  refine lv_if_ne (tgt := 9) hx hb dX3_find_4 (by decide) (fun c_4 => ?_) (fun c_4 => ?_)
  ·
    have hS0 : S ≠ 0 := fun q => c_4 (by rw [q]; exact nI_0)
    have hS2 : S = 2 ^ sb := hSs.resolve_left hS0
    have hmul := ts_in (S := S) (W := Wy) (j := Wy - 1) p0 (by omega) (by omega)
    have hSW := ts_SW hS16 hW4
    refine lv_aload_n hx hb dX3_find_9 rfl (lv_at hl 0 rfl) ?_
    refine lv_iload_n hx hb dX3_find_10 rfl (lv_at hl 1 rfl) ?_
    refine kc_i (wc := [(h0, .inr (3, [.int (nI S), .int (nI Wy), .ref (h1), .ref (h2), .ref (h3), .int (fl), .int (nI sb), .ref (h4), .int (us)])), (h1, .inl (cI, S * Wy, .inl (tg))), (h2, .inl (cI, S * Wy, .inl (kd))), (h3, .inl (cI, S * Wy, .inl (tt))), (h4, .inl (cI, S * Wy, .inl (lu)))]) (wr := []) [0, 1, 2, 3, 4] [] rfl rfl (by decide) (by decide) hP hD hS hA (va_runV (As := [.int (p0)]) (rest := []) ⟨hx, hb, hml, hown, hts⟩ (c_X3_firstSlotFor l D cI cJ cZ _ _ _ _ _ _ _ _ _ _ _ _ _ _ _ _ hS2 hsb) (cwV 1 hts (kw_V kw_203 kw_205 kw_0 kw_28 kw_206) rfl rfl rfl (by decide +kernel) ⟨Nat.le_of_ble_eq_true rfl, Nat.le_of_ble_eq_true rfl⟩) ⟨kP_blind, va_recv hK (hP.sub (ws' := [(h0, .inr (3, [.int (nI S), .int (nI Wy), .ref (h1), .ref (h2), .ref (h3), .int (fl), .int (nI sb), .ref (h4), .int (us)])), (h1, .inl (cI, S * Wy, .inl (tg))), (h2, .inl (cI, S * Wy, .inl (kd))), (h3, .inl (cI, S * Wy, .inl (tt))), (h4, .inl (cI, S * Wy, .inl (lu)))]) [0, 1, 2, 3, 4] rfl) (ci := 3) (q0 := 0) rfl rfl, kP_at (hP.sub [0, 1, 2, 3, 4] rfl) hK (hD.sub [0, 1, 2, 3, 4] (by decide) rfl)⟩ rfl rfl hl.1 rfl (lv_room (Nat.le_of_ble_eq_true rfl)) dX3_find_11 ⟨Nat.zero_le _, Nat.zero_le _⟩) (fun H locs hP hD hS => ?_)
    have hP := hP.sub (ws' := [(h0, .inr (3, [.int (nI S), .int (nI Wy), .ref (h1), .ref (h2), .ref (h3), .int (fl), .int (nI sb), .ref (h4), .int (us)])), (h1, .inl (cI, S * Wy, .inl (tg))), (h2, .inl (cI, S * Wy, .inl (kd))), (h3, .inl (cI, S * Wy, .inl (tt))), (h4, .inl (cI, S * Wy, .inl (lu)))]) [0, 1, 2, 3, 4] rfl
    have hD := hD.sub (ws' := [(h0, .inr (3, [.int (nI S), .int (nI Wy), .ref (h1), .ref (h2), .ref (h3), .int (fl), .int (nI sb), .ref (h4), .int (us)])), (h1, .inl (cI, S * Wy, .inl (tg))), (h2, .inl (cI, S * Wy, .inl (kd))), (h3, .inl (cI, S * Wy, .inl (tt))), (h4, .inl (cI, S * Wy, .inl (lu)))]) [0, 1, 2, 3, 4] (by decide) rfl
    refine lv_istore_n (lv' := [(2, .int (nI (ts_set S (p0) * Wy))), (0, .ref (h0)), (1, .int (p0))]) hx hb dX3_find_14 rfl hl (by decide) rfl (fun ls hl => ?_)
    refine lv_aload_n hx hb dX3_find_15 rfl (lv_at hl 1 rfl) ?_
    refine lv_iload_n hx hb dX3_find_16 rfl (lv_at hl 2 rfl) ?_
    refine kc_i (wc := [(h0, .inr (3, [.int (nI S), .int (nI Wy), .ref (h1), .ref (h2), .ref (h3), .int (fl), .int (nI sb), .ref (h4), .int (us)])), (h1, .inl (cI, S * Wy, .inl (tg))), (h2, .inl (cI, S * Wy, .inl (kd))), (h3, .inl (cI, S * Wy, .inl (tt))), (h4, .inl (cI, S * Wy, .inl (lu)))]) (wr := []) [0, 1, 2, 3, 4] [] rfl rfl (by decide) (by decide) hP hD hS hA (va_runV (As := [.int (p0)]) (rest := []) ⟨hx, hb, hml, hown, hts⟩ (c_X3_tagOf l D cI cJ cZ _ _ _ _ _ _ _ _ _ _ _ _ _ _ _ _) (cwV 1 hts (kw_V kw_207 kw_209 kw_1 kw_28 kw_210) rfl rfl rfl (by decide +kernel) ⟨Nat.le_of_ble_eq_true rfl, Nat.le_of_ble_eq_true rfl⟩) ⟨kP_blind, va_recv hK (hP.sub (ws' := [(h0, .inr (3, [.int (nI S), .int (nI Wy), .ref (h1), .ref (h2), .ref (h3), .int (fl), .int (nI sb), .ref (h4), .int (us)])), (h1, .inl (cI, S * Wy, .inl (tg))), (h2, .inl (cI, S * Wy, .inl (kd))), (h3, .inl (cI, S * Wy, .inl (tt))), (h4, .inl (cI, S * Wy, .inl (lu)))]) [0, 1, 2, 3, 4] rfl) (ci := 3) (q0 := 0) rfl rfl, kP_at (hP.sub [0, 1, 2, 3, 4] rfl) hK (hD.sub [0, 1, 2, 3, 4] (by decide) rfl)⟩ rfl rfl hl.1 rfl (lv_room (Nat.le_of_ble_eq_true rfl)) dX3_find_17 ⟨Nat.zero_le _, Nat.zero_le _⟩) (fun H locs hP hD hS => ?_)
    have hP := hP.sub (ws' := [(h0, .inr (3, [.int (nI S), .int (nI Wy), .ref (h1), .ref (h2), .ref (h3), .int (fl), .int (nI sb), .ref (h4), .int (us)])), (h1, .inl (cI, S * Wy, .inl (tg))), (h2, .inl (cI, S * Wy, .inl (kd))), (h3, .inl (cI, S * Wy, .inl (tt))), (h4, .inl (cI, S * Wy, .inl (lu)))]) [0, 1, 2, 3, 4] rfl
    have hD := hD.sub (ws' := [(h0, .inr (3, [.int (nI S), .int (nI Wy), .ref (h1), .ref (h2), .ref (h3), .int (fl), .int (nI sb), .ref (h4), .int (us)])), (h1, .inl (cI, S * Wy, .inl (tg))), (h2, .inl (cI, S * Wy, .inl (kd))), (h3, .inl (cI, S * Wy, .inl (tt))), (h4, .inl (cI, S * Wy, .inl (lu)))]) [0, 1, 2, 3, 4] (by decide) rfl
    refine lv_istore_n (lv' := [(3, .int (ts_tag sb (p0))), (2, .int (nI (ts_set S (p0) * Wy))), (0, .ref (h0)), (1, .int (p0))]) hx hb dX3_find_20 rfl hl (by decide) rfl (fun ls hl => ?_)
    refine lv_iload_n hx hb dX3_find_21 rfl (lv_at hl 1 rfl) ?_
    refine lv_istore (lv' := [(4, .int (nI (ts_set S (p0) * Wy))), (3, .int (ts_tag sb (p0))), (2, .int (nI (ts_set S (p0) * Wy))), (0, .ref (h0)), (1, .int (p0))]) hx hb dX3_find_22 hl (by decide) rfl (fun ls hl => ?_)
    refine kloop (nL := 5) (I := fun n w lv => ∃ (b : Nat), w = [(h0, .inr (3, [.int (nI S), .int (nI Wy), .ref (h1), .ref (h2), .ref (h3), .int (fl), .int (nI sb), .ref (h4), .int (us)])), (h1, .inl (cI, S * Wy, .inl (tg))), (h2, .inl (cI, S * Wy, .inl (kd))), (h3, .inl (cI, S * Wy, .inl (tt))), (h4, .inl (cI, S * Wy, .inl (lu)))] ∧ lv = [(0, .ref (h0)), (1, .int (p0)), (2, .int (nI (ts_set S (p0) * Wy))), (3, .int (ts_tag sb (p0))), (4, .int (nI b))] ∧ tf_fo tg (ts_tag sb p0) b n = tf_fo tg (ts_tag sb p0) (ts_set S (p0) * Wy) Wy ∧ b + n = ts_set S (p0) * Wy + Wy) (fun n w lv H locs ls hI hP hD hS hl ih => ?_) (Wy) _ _ _ _ _ ⟨ts_set S (p0) * Wy, rfl, rfl, rfl, rfl⟩ hP hD hS (lv_sub hl [3, 4, 2, 1, 0] rfl)
    obtain ⟨b, rfl, rfl, hinv, hbn⟩ := hI
    rcases n with _ | n
    ·
      refine lv_iload hx hb dX3_find_24 (lv_at hl 4 rfl) ?_
      refine lv_iload_n hx hb dX3_find_26 rfl (lv_at hl 2 rfl) ?_
      refine lv_aload_n hx hb dX3_find_27 rfl (lv_at hl 0 rfl) ?_
      refine va_get (D := D) (ci := 3) (v := .int (nI Wy)) (C := RX3) (T := TX3) (N := 9) hx hb hts (fun w h => List.mem_cons_of_mem _ (hiX3 w h)) hown hK hP 0 rfl rfl 1 (by decide) kf18 (fun _ h9 => h9) rfl dX3_find_28 ?_
      refine lv_iadd hx hb dX3_find_31 ?_
      refine kt_i (y := nI (ts_set S (p0) * Wy + Wy)) (nI_add _ _) ?_
      refine lv_icmp_ge (tgt := 55) hx hb dX3_find_32 (by decide) (fun c_32 => ?_) (fun c_32 => absurd (nI_le (by omega) (by omega)) c_32)
      refine lv_iconst (v := (-1)) hx hb dX3_find_55 (by decide) ?_
      exact kr_i (rfl) hx hb hr hlocks hP hK hD hS (by simp only [tf_find, if_neg hS0]; rw [← hinv]; rfl) dX3_find_56
    ·
      refine lv_iload hx hb dX3_find_24 (lv_at hl 4 rfl) ?_
      refine lv_iload_n hx hb dX3_find_26 rfl (lv_at hl 2 rfl) ?_
      refine lv_aload_n hx hb dX3_find_27 rfl (lv_at hl 0 rfl) ?_
      refine va_get (D := D) (ci := 3) (v := .int (nI Wy)) (C := RX3) (T := TX3) (N := 9) hx hb hts (fun w h => List.mem_cons_of_mem _ (hiX3 w h)) hown hK hP 0 rfl rfl 1 (by decide) kf18 (fun _ h9 => h9) rfl dX3_find_28 ?_
      refine lv_iadd hx hb dX3_find_31 ?_
      refine kt_i (y := nI (ts_set S (p0) * Wy + Wy)) (nI_add _ _) ?_
      refine lv_icmp_ge (tgt := 55) hx hb dX3_find_32 (by decide) (fun c_32 => absurd c_32 (nI_ge (by omega) (by omega))) (fun c_32 => ?_)
      refine lv_aload_n hx hb dX3_find_35 rfl (lv_at hl 0 rfl) ?_
      refine va_get (D := D) (ci := 3) (v := .ref (h1)) (C := RX3) (T := TX3) (N := 9) hx hb hts (fun w h => List.mem_cons_of_mem _ (hiX3 w h)) hown hK hP 0 rfl rfl 2 (by decide) kf21 (fun _ h9 => h9) rfl dX3_find_36 ?_
      refine lv_iload hx hb dX3_find_39 (lv_at hl 4 rfl) ?_
      refine ka_ild hx hb hK hP 1 0 rfl rfl (k := b) (rfl) (⟨by omega, by omega⟩) dX3_find_41 ?_
      refine lv_iload_n hx hb dX3_find_42 rfl (lv_at hl 3 rfl) ?_
      refine lv_icmp_ne (tgt := 49) hx hb dX3_find_43 (by decide) (fun c_43 => ?_) (fun c_43 => ?_)
      ·
        refine lv_iinc (v := nI (b + 1)) (lv' := [(4, .int (nI (b + 1))), (0, .ref (h0)), (1, .int (p0)), (2, .int (nI (ts_set S (p0) * Wy))), (3, .int (ts_tag sb (p0)))]) hx hb dX3_find_49 hl (k := 4) rfl (nI_1 b) (by decide) rfl (fun ls hl => ?_)
        refine lv_goto (tgt := 24) hx hb dX3_find_52 (by decide) ?_
        exact ih n _ _ _ _ _ rfl ⟨b + 1, rfl, rfl, by rw [← hinv]; simp only [tf_fo]; rw [if_neg c_43], by omega⟩ hP hD hS (lv_sub hl [1, 2, 3, 4, 0] rfl)
      ·
        refine lv_iload hx hb dX3_find_46 (lv_at hl 4 rfl) ?_
        exact kr_i (rfl) hx hb hr hlocks hP hK hD hS (by simp only [tf_find, if_neg hS0]; rw [← hinv]; simp only [tf_fo]; rw [if_pos c_43]; rfl) dX3_find_48
  ·
    have hS0 : S = 0 := by
      rcases Nat.eq_zero_or_pos S with q | q
      · exact q
      · exact absurd c_4 (nI_ne0 q (by omega))
    refine lv_iconst (v := (-1)) hx hb dX3_find_7 (by decide) ?_
    exact kr_i (rfl) hx hb hr hlocks hP hK hD hS (by simp only [tf_find, if_pos hS0]; rfl) dX3_find_8

set_option maxHeartbeats 4000000 in
set_option maxRecDepth 100000 in
/-- where a new entry goes -/
theorem c_X3_slotToFill (l : Launch) (D : va_G) (cI cJ cZ : ClassId) (sz : Nat) (h0 h1 h2 h3 h4 : Nat) (S Wy sb : Nat) (tg kd tt lu : Fn) (fl us : Int32) (p0 : Int32) (hS0 : S ≠ 0) (hS2 : S = 2 ^ sb) (hS16 : S ≤ 16) (hsb : sb ≤ 4) (hW : 0 < Wy) (hW4 : Wy ≤ 4) : KI l yX3_slotToFill wsX3_slotToFill ({ frames := 1, cells := 0, slots := 0, locals := 21 } : Room) D (kTy cI cJ cZ) [.ref (h0), .int (p0)] [(h0, .inr (3, [.int (nI S), .int (nI Wy), .ref (h1), .ref (h2), .ref (h3), .int (fl), .int (nI sb), .ref (h4), .int (us)])), (h1, .inl (cI, S * Wy, .inl (tg))), (h2, .inl (cI, S * Wy, .inl (kd))), (h3, .inl (cI, S * Wy, .inl (tt))), (h4, .inl (cI, S * Wy, .inl (lu)))] sz (wTab h0 h1 h2 h3 h4 cI S Wy sb (tg, kd, tt, lu, fl, us)) (nI (tf_slot S Wy (tg, kd, tt, lu, fl, us) p0)) 0 0 := by
  refine Met.ofW (cc := cX3_slotToFill) (maxL := 5) (ret := (some .int)) (by decide) rfl ?_
  intro p e s m args below meth c s₁ B hml hv
  obtain ⟨rfl, hsz, hP, hK, hD0⟩ := hv
  have hx := B.exec
  have hb := B.bytes
  have hr := B.returns
  have hts := atoms_spec (ws := wsX3_slotToFill) B.pre
  have hown : s.vm.findClass RX3 = some m.cls := findClass_of_methodNamed B.named
  have hlocks := B.notSynchronized
  have kf18 := hts (.fieldLink RX3 18 "TargetRows$Table" "ways" "I") (List.mem_cons_of_mem _ kw_64)
  have kf31 := hts (.fieldLink RX3 31 "TargetRows$Table" "lastUses" "[I") (List.mem_cons_of_mem _ kw_75)
  subst hsz
  have hD := hD0.self (sz := s.heap.size)
  generalize hAe : va_A [(h0, .inr (3, [.int (nI S), .int (nI Wy), .ref (h1), .ref (h2), .ref (h3), .int (fl), .int (nI sb), .ref (h4), .int (us)])), (h1, .inl (cI, S * Wy, .inl (tg))), (h2, .inl (cI, S * Wy, .inl (kd))), (h3, .inl (cI, S * Wy, .inl (tt))), (h4, .inl (cI, S * Wy, .inl (lu)))] s.heap.size = A at hD ⊢
  have hA : ∀ q : Nat, s.heap.size ≤ q → A q := fun q h => by rw [← hAe]; exact Or.inr h
  have hS : va_S A s.heap s.heap [] := va_S.rf
  have hP : va_P D vwCl [(h0, .inr (3, [.int (nI S), .int (nI Wy), .ref (h1), .ref (h2), .ref (h3), .int (fl), .int (nI sb), .ref (h4), .int (us)])), (h1, .inl (cI, S * Wy, .inl (tg))), (h2, .inl (cI, S * Wy, .inl (kd))), (h3, .inl (cI, S * Wy, .inl (tt))), (h4, .inl (cI, S * Wy, .inl (lu)))] s.heap := hP
  have hD : va_D A [(h0, .inr (3, [.int (nI S), .int (nI Wy), .ref (h1), .ref (h2), .ref (h3), .int (fl), .int (nI sb), .ref (h4), .int (us)])), (h1, .inl (cI, S * Wy, .inl (tg))), (h2, .inl (cI, S * Wy, .inl (kd))), (h3, .inl (cI, S * Wy, .inl (tt))), (h4, .inl (cI, S * Wy, .inl (lu)))] := hD
  have hl := lv_entry ([.ref (h0), .int (p0)]) (n := 5) (Nat.le_of_ble_eq_true rfl)
  rw [lg_entry_eq]
  generalize (lg_sl ([.ref (h0), .int (p0)]) ++ List.replicate (5 - (lg_sl ([.ref (h0), .int (p0)])).length) Slot.unset).toArray = ls at hl ⊢
  have hl : lv_has ls 5 [(0, .ref (h0)), (1, .int (p0))] := hl
  refine lv_aload_n hx hb dX3_slotToFill_0 rfl (lv_at hl 0 rfl) ?_
  refine lv_iload_n hx hb dX3_slotToFill_1 rfl (lv_at hl 1 rfl) ?_
  refine kc_i (wc := [(h0, .inr (3, [.int (nI S), .int (nI Wy), .ref (h1), .ref (h2), .ref (h3), .int (fl), .int (nI sb), .ref (h4), .int (us)])), (h1, .inl (cI, S * Wy, .inl (tg))), (h2, .inl (cI, S * Wy, .inl (kd))), (h3, .inl (cI, S * Wy, .inl (tt))), (h4, .inl (cI, S * Wy, .inl (lu)))]) (wr := []) [0, 1, 2, 3, 4] [] rfl rfl (by decide) (by decide) hP hD hS hA (va_runV (As := [.int (p0)]) (rest := []) ⟨hx, hb, hml, hown, hts⟩ (c_X3_firstSlotFor l D cI cJ cZ _ _ _ _ _ _ _ _ _ _ _ _ _ _ _ _ hS2 hsb) (cwV 1 hts (kw_V kw_203 kw_205 kw_0 kw_28 kw_206) rfl rfl rfl (by decide +kernel) ⟨Nat.le_of_ble_eq_true rfl, Nat.le_of_ble_eq_true rfl⟩) ⟨kP_blind, va_recv hK (hP.sub (ws' := [(h0, .inr (3, [.int (nI S), .int (nI Wy), .ref (h1), .ref (h2), .ref (h3), .int (fl), .int (nI sb), .ref (h4), .int (us)])), (h1, .inl (cI, S * Wy, .inl (tg))), (h2, .inl (cI, S * Wy, .inl (kd))), (h3, .inl (cI, S * Wy, .inl (tt))), (h4, .inl (cI, S * Wy, .inl (lu)))]) [0, 1, 2, 3, 4] rfl) (ci := 3) (q0 := 0) rfl rfl, kP_at (hP.sub [0, 1, 2, 3, 4] rfl) hK (hD.sub [0, 1, 2, 3, 4] (by decide) rfl)⟩ rfl rfl hl.1 rfl (lv_room (Nat.le_of_ble_eq_true rfl)) dX3_slotToFill_2 ⟨Nat.zero_le _, Nat.zero_le _⟩) (fun H locs hP hD hS => ?_)
  have hP := hP.sub (ws' := [(h0, .inr (3, [.int (nI S), .int (nI Wy), .ref (h1), .ref (h2), .ref (h3), .int (fl), .int (nI sb), .ref (h4), .int (us)])), (h1, .inl (cI, S * Wy, .inl (tg))), (h2, .inl (cI, S * Wy, .inl (kd))), (h3, .inl (cI, S * Wy, .inl (tt))), (h4, .inl (cI, S * Wy, .inl (lu)))]) [0, 1, 2, 3, 4] rfl
  have hD := hD.sub (ws' := [(h0, .inr (3, [.int (nI S), .int (nI Wy), .ref (h1), .ref (h2), .ref (h3), .int (fl), .int (nI sb), .ref (h4), .int (us)])), (h1, .inl (cI, S * Wy, .inl (tg))), (h2, .inl (cI, S * Wy, .inl (kd))), (h3, .inl (cI, S * Wy, .inl (tt))), (h4, .inl (cI, S * Wy, .inl (lu)))]) [0, 1, 2, 3, 4] (by decide) rfl
  refine lv_istore_n (lv' := [(2, .int (nI (ts_set S (p0) * Wy))), (0, .ref (h0)), (1, .int (p0))]) hx hb dX3_slotToFill_5 rfl hl (by decide) rfl (fun ls hl => ?_)
  refine lv_iload_n hx hb dX3_slotToFill_6 rfl (lv_at hl 0 rfl) ?_
  refine lv_istore_n (lv' := [(3, .int (nI (ts_set S (p0) * Wy))), (2, .int (nI (ts_set S (p0) * Wy))), (0, .ref (h0)), (1, .int (p0))]) hx hb dX3_slotToFill_7 rfl hl (by decide) rfl (fun ls hl => ?_)
  refine lv_iload_n hx hb dX3_slotToFill_8 rfl (lv_at hl 1 rfl) ?_
  refine lv_iconst (v := 1) hx hb dX3_slotToFill_9 (by decide) ?_
  refine lv_iadd hx hb dX3_slotToFill_10 ?_
  refine kt_i (y := nI (ts_set S (p0) * Wy + 1)) (nI_1 _) ?_
  refine lv_istore (lv' := [(4, .int (nI (ts_set S (p0) * Wy + 1))), (3, .int (nI (ts_set S (p0) * Wy))), (2, .int (nI (ts_set S (p0) * Wy))), (0, .ref (h0)), (1, .int (p0))]) hx hb dX3_slotToFill_11 hl (by decide) rfl (fun ls hl => ?_)
  have hmul := ts_in (S := S) (W := Wy) (j := Wy - 1) p0 (by omega) (by omega)
  have hSW := ts_SW hS16 hW4
  refine kloop (nL := 5) (I := fun n w lv => ∃ (sl : Nat) (od : Nat), w = [(h0, .inr (3, [.int (nI S), .int (nI Wy), .ref (h1), .ref (h2), .ref (h3), .int (fl), .int (nI sb), .ref (h4), .int (us)])), (h1, .inl (cI, S * Wy, .inl (tg))), (h2, .inl (cI, S * Wy, .inl (kd))), (h3, .inl (cI, S * Wy, .inl (tt))), (h4, .inl (cI, S * Wy, .inl (lu)))] ∧ lv = [(0, .ref (h0)), (1, .int (p0)), (2, .int (nI (ts_set S (p0) * Wy))), (3, .int (nI od)), (4, .int (nI sl))] ∧ tf_old lu sl n od = tf_old lu (ts_set S (p0) * Wy + 1) (Wy - 1) (ts_set S (p0) * Wy) ∧ sl + n = ts_set S (p0) * Wy + Wy ∧ ts_set S (p0) * Wy ≤ od ∧ od < sl) (fun n w lv H locs ls hI hP hD hS hl ih => ?_) (Wy - 1) _ _ _ _ _ ⟨ts_set S (p0) * Wy + 1, ts_set S (p0) * Wy, rfl, rfl, rfl, by omega, by omega, by omega⟩ hP hD hS (lv_sub hl [3, 4, 2, 1, 0] rfl)
  obtain ⟨sl, od, rfl, rfl, hinv, hbn, ho1, ho2⟩ := hI
  rcases n with _ | n
  ·
    refine lv_iload hx hb dX3_slotToFill_13 (lv_at hl 4 rfl) ?_
    refine lv_iload_n hx hb dX3_slotToFill_15 rfl (lv_at hl 2 rfl) ?_
    refine lv_aload_n hx hb dX3_slotToFill_16 rfl (lv_at hl 0 rfl) ?_
    refine va_get (D := D) (ci := 3) (v := .int (nI Wy)) (C := RX3) (T := TX3) (N := 9) hx hb hts (fun w h => List.mem_cons_of_mem _ (hiX3 w h)) hown hK hP 0 rfl rfl 1 (by decide) kf18 (fun _ h9 => h9) rfl dX3_slotToFill_17 ?_
    refine lv_iadd hx hb dX3_slotToFill_20 ?_
    refine kt_i (y := nI (ts_set S (p0) * Wy + Wy)) (nI_add _ _) ?_
    refine lv_icmp_ge (tgt := 49) hx hb dX3_slotToFill_21 (by decide) (fun c_21 => ?_) (fun c_21 => absurd (nI_le (by omega) (by omega)) c_21)
    refine lv_iload_n hx hb dX3_slotToFill_49 rfl (lv_at hl 3 rfl) ?_
    exact kr_i (rfl) hx hb hr hlocks hP hK hD hS (by simp only [tf_slot]; rw [← hinv]; rfl) dX3_slotToFill_50
  ·
    refine lv_iload hx hb dX3_slotToFill_13 (lv_at hl 4 rfl) ?_
    refine lv_iload_n hx hb dX3_slotToFill_15 rfl (lv_at hl 2 rfl) ?_
    refine lv_aload_n hx hb dX3_slotToFill_16 rfl (lv_at hl 0 rfl) ?_
    refine va_get (D := D) (ci := 3) (v := .int (nI Wy)) (C := RX3) (T := TX3) (N := 9) hx hb hts (fun w h => List.mem_cons_of_mem _ (hiX3 w h)) hown hK hP 0 rfl rfl 1 (by decide) kf18 (fun _ h9 => h9) rfl dX3_slotToFill_17 ?_
    refine lv_iadd hx hb dX3_slotToFill_20 ?_
    refine kt_i (y := nI (ts_set S (p0) * Wy + Wy)) (nI_add _ _) ?_
    refine lv_icmp_ge (tgt := 49) hx hb dX3_slotToFill_21 (by decide) (fun c_21 => absurd c_21 (nI_ge (by omega) (by omega))) (fun c_21 => ?_)
    refine lv_aload_n hx hb dX3_slotToFill_24 rfl (lv_at hl 0 rfl) ?_
    refine va_get (D := D) (ci := 3) (v := .ref (h4)) (C := RX3) (T := TX3) (N := 9) hx hb hts (fun w h => List.mem_cons_of_mem _ (hiX3 w h)) hown hK hP 0 rfl rfl 7 (by decide) kf31 (fun _ h9 => h9) rfl dX3_slotToFill_25 ?_
    refine lv_iload hx hb dX3_slotToFill_28 (lv_at hl 4 rfl) ?_
    refine ka_ild hx hb hK hP 4 0 rfl rfl (k := sl) (rfl) (⟨by omega, by omega⟩) dX3_slotToFill_30 ?_
    refine lv_aload_n hx hb dX3_slotToFill_31 rfl (lv_at hl 0 rfl) ?_
    refine va_get (D := D) (ci := 3) (v := .ref (h4)) (C := RX3) (T := TX3) (N := 9) hx hb hts (fun w h => List.mem_cons_of_mem _ (hiX3 w h)) hown hK hP 0 rfl rfl 7 (by decide) kf31 (fun _ h9 => h9) rfl dX3_slotToFill_32 ?_
    refine lv_iload_n hx hb dX3_slotToFill_35 rfl (lv_at hl 3 rfl) ?_
    refine ka_ild hx hb hK hP 4 0 rfl rfl (k := od) (rfl) (⟨by omega, by omega⟩) dX3_slotToFill_36 ?_
    refine lv_icmp_ge (tgt := 43) hx hb dX3_slotToFill_37 (by decide) (fun c_37 => ?_) (fun c_37 => ?_)
    ·
      refine lv_iinc (v := nI (sl + 1)) (lv' := [(4, .int (nI (sl + 1))), (0, .ref (h0)), (1, .int (p0)), (2, .int (nI (ts_set S (p0) * Wy))), (3, .int (nI od))]) hx hb dX3_slotToFill_43 hl (k := 4) rfl (nI_1 sl) (by decide) rfl (fun ls hl => ?_)
      refine lv_goto (tgt := 13) hx hb dX3_slotToFill_46 (by decide) ?_
      exact ih n _ _ _ _ _ rfl ⟨sl + 1, od, rfl, rfl, by rw [← hinv]; simp only [tf_old]; rw [if_neg (Int32.not_lt.mpr c_37)], by omega, by omega, by omega⟩ hP hD hS (lv_sub hl [1, 2, 3, 4, 0] rfl)
    ·
      refine lv_iload hx hb dX3_slotToFill_40 (lv_at hl 4 rfl) ?_
      refine lv_istore_n (lv' := [(3, .int (nI sl)), (0, .ref (h0)), (1, .int (p0)), (2, .int (nI (ts_set S (p0) * Wy))), (4, .int (nI sl))]) hx hb dX3_slotToFill_42 rfl hl (by decide) rfl (fun ls hl => ?_)
      refine lv_iinc (v := nI (sl + 1)) (lv' := [(4, .int (nI (sl + 1))), (3, .int (nI sl)), (0, .ref (h0)), (1, .int (p0)), (2, .int (nI (ts_set S (p0) * Wy)))]) hx hb dX3_slotToFill_43 hl (k := 4) rfl (nI_1 sl) (by decide) rfl (fun ls hl => ?_)
      refine lv_goto (tgt := 13) hx hb dX3_slotToFill_46 (by decide) ?_
      exact ih n _ _ _ _ _ rfl ⟨sl + 1, sl, rfl, rfl, by rw [← hinv]; simp only [tf_old]; rw [if_pos (Int32.not_le.mp c_37)], by omega, by omega, by omega⟩ hP hD hS (lv_sub hl [2, 3, 4, 1, 0] rfl)

set_option maxHeartbeats 4000000 in
set_option maxRecDepth 100000 in
/-- an update of the table -/
theorem c_X3_put (l : Launch) (D : va_G) (cI cJ cZ : ClassId) (sz : Nat) (h0 h1 h2 h3 h4 : Nat) (S Wy sb : Nat) (tg kd tt lu : Fn) (fl us : Int32) (p0 p1 p2 : Int32) (hSs : S = 0 ∨ S = 2 ^ sb) (hS16 : S ≤ 16) (hsb : sb ≤ 4) (hW : 0 < Wy) (hW4 : Wy ≤ 4) : KV l yX3_put wsX3_put ({ frames := 2, cells := 0, slots := 0, locals := 45 } : Room) D (kTy cI cJ cZ) [.ref (h0), .int (p0), .int (p1), .int (p2)] [(h0, .inr (3, [.int (nI S), .int (nI Wy), .ref (h1), .ref (h2), .ref (h3), .int (fl), .int (nI sb), .ref (h4), .int (us)])), (h1, .inl (cI, S * Wy, .inl (tg))), (h2, .inl (cI, S * Wy, .inl (kd))), (h3, .inl (cI, S * Wy, .inl (tt))), (h4, .inl (cI, S * Wy, .inl (lu)))] sz (wTab h0 h1 h2 h3 h4 cI S Wy sb (tf_put S Wy sb (tg, kd, tt, lu, fl, us) p0 p1 p2)) 0 0 := by
  refine Met.ofW (cc := cX3_put) (maxL := 5) (ret := none) (by decide) rfl ?_
  intro p e s m args below meth c s₁ B hml hv
  obtain ⟨rfl, hsz, hP, hK, hD0⟩ := hv
  have hx := B.exec
  have hb := B.bytes
  have hr := B.returns
  have hts := atoms_spec (ws := wsX3_put) B.pre
  have hown : s.vm.findClass RX3 = some m.cls := findClass_of_methodNamed B.named
  have hlocks := B.notSynchronized
  have kf15 := hts (.fieldLink RX3 15 "TargetRows$Table" "sets" "I") (List.mem_cons_of_mem _ kw_62)
  have kf21 := hts (.fieldLink RX3 21 "TargetRows$Table" "tags" "[I") (List.mem_cons_of_mem _ kw_66)
  have kf25 := hts (.fieldLink RX3 25 "TargetRows$Table" "kinds" "[I") (List.mem_cons_of_mem _ kw_68)
  have kf28 := hts (.fieldLink RX3 28 "TargetRows$Table" "targets" "[I") (List.mem_cons_of_mem _ kw_70)
  have kf31 := hts (.fieldLink RX3 31 "TargetRows$Table" "lastUses" "[I") (List.mem_cons_of_mem _ kw_75)
  have kf53 := hts (.fieldLink RX3 53 "TargetRows$Table" "filled" "I") (List.mem_cons_of_mem _ kw_72)
  have kf56 := hts (.fieldLink RX3 56 "TargetRows$Table" "uses" "I") (List.mem_cons_of_mem _ kw_76)
  subst hsz
  have hD := hD0.self (sz := s.heap.size)
  generalize hAe : va_A [(h0, .inr (3, [.int (nI S), .int (nI Wy), .ref (h1), .ref (h2), .ref (h3), .int (fl), .int (nI sb), .ref (h4), .int (us)])), (h1, .inl (cI, S * Wy, .inl (tg))), (h2, .inl (cI, S * Wy, .inl (kd))), (h3, .inl (cI, S * Wy, .inl (tt))), (h4, .inl (cI, S * Wy, .inl (lu)))] s.heap.size = A at hD ⊢
  have hA : ∀ q : Nat, s.heap.size ≤ q → A q := fun q h => by rw [← hAe]; exact Or.inr h
  have hS : va_S A s.heap s.heap [] := va_S.rf
  have hP : va_P D vwCl [(h0, .inr (3, [.int (nI S), .int (nI Wy), .ref (h1), .ref (h2), .ref (h3), .int (fl), .int (nI sb), .ref (h4), .int (us)])), (h1, .inl (cI, S * Wy, .inl (tg))), (h2, .inl (cI, S * Wy, .inl (kd))), (h3, .inl (cI, S * Wy, .inl (tt))), (h4, .inl (cI, S * Wy, .inl (lu)))] s.heap := hP
  have hD : va_D A [(h0, .inr (3, [.int (nI S), .int (nI Wy), .ref (h1), .ref (h2), .ref (h3), .int (fl), .int (nI sb), .ref (h4), .int (us)])), (h1, .inl (cI, S * Wy, .inl (tg))), (h2, .inl (cI, S * Wy, .inl (kd))), (h3, .inl (cI, S * Wy, .inl (tt))), (h4, .inl (cI, S * Wy, .inl (lu)))] := hD
  have hl := lv_entry ([.ref (h0), .int (p0), .int (p1), .int (p2)]) (n := 5) (Nat.le_of_ble_eq_true rfl)
  rw [lg_entry_eq]
  generalize (lg_sl ([.ref (h0), .int (p0), .int (p1), .int (p2)]) ++ List.replicate (5 - (lg_sl ([.ref (h0), .int (p0), .int (p1), .int (p2)])).length) Slot.unset).toArray = ls at hl ⊢
  have hl : lv_has ls 5 [(0, .ref (h0)), (1, .int (p0)), (2, .int (p1)), (3, .int (p2))] := hl
  refine lv_aload_n hx hb dX3_put_0 rfl (lv_at hl 0 rfl) ?_
  refine va_get (D := D) (ci := 3) (v := .int (nI S)) (C := RX3) (T := TX3) (N := 9) hx hb hts (fun w h => List.mem_cons_of_mem _ (hiX3 w h)) hown hK hP 0 rfl rfl 0 (by decide) kf15 (fun _ h9 => h9) rfl dX3_put_1 ?_
  refine lv_if_ne (tgt := 8) hx hb dX3_put_4 (by decide) (fun c_4 => ?_) (fun c_4 => ?_)
  ·
    have hS0 : S ≠ 0 := fun q => c_4 (by rw [q]; exact nI_0)
    have hS2 : S = 2 ^ sb := hSs.resolve_left hS0
    have hmul := ts_in (S := S) (W := Wy) (j := Wy - 1) p0 (by omega) (by omega)
    have hSW := ts_SW hS16 hW4
    refine lv_aload_n hx hb dX3_put_8 rfl (lv_at hl 0 rfl) ?_
    refine lv_iload_n hx hb dX3_put_9 rfl (lv_at hl 1 rfl) ?_
    refine kc_i (wc := [(h0, .inr (3, [.int (nI S), .int (nI Wy), .ref (h1), .ref (h2), .ref (h3), .int (fl), .int (nI sb), .ref (h4), .int (us)])), (h1, .inl (cI, S * Wy, .inl (tg))), (h2, .inl (cI, S * Wy, .inl (kd))), (h3, .inl (cI, S * Wy, .inl (tt))), (h4, .inl (cI, S * Wy, .inl (lu)))]) (wr := []) [0, 1, 2, 3, 4] [] rfl rfl (by decide) (by decide) hP hD hS hA (va_runV (As := [.int (p0)]) (rest := []) ⟨hx, hb, hml, hown, hts⟩ (c_X3_find l D cI cJ cZ _ _ _ _ _ _ _ _ _ _ _ _ _ _ _ _ hSs hS16 hsb hW hW4) (cwV 1 hts (kw_V kw_441 kw_200 kw_201 kw_28 kw_202) rfl rfl rfl (by decide +kernel) ⟨Nat.le_of_ble_eq_true rfl, Nat.le_of_ble_eq_true rfl⟩) ⟨kP_blind, va_recv hK (hP.sub (ws' := [(h0, .inr (3, [.int (nI S), .int (nI Wy), .ref (h1), .ref (h2), .ref (h3), .int (fl), .int (nI sb), .ref (h4), .int (us)])), (h1, .inl (cI, S * Wy, .inl (tg))), (h2, .inl (cI, S * Wy, .inl (kd))), (h3, .inl (cI, S * Wy, .inl (tt))), (h4, .inl (cI, S * Wy, .inl (lu)))]) [0, 1, 2, 3, 4] rfl) (ci := 3) (q0 := 0) rfl rfl, kP_at (hP.sub [0, 1, 2, 3, 4] rfl) hK (hD.sub [0, 1, 2, 3, 4] (by decide) rfl)⟩ rfl rfl hl.1 rfl (lv_room (Nat.le_of_ble_eq_true rfl)) dX3_put_10 ⟨Nat.zero_le _, Nat.zero_le _⟩) (fun H locs hP hD hS => ?_)
    have hP := hP.sub (ws' := [(h0, .inr (3, [.int (nI S), .int (nI Wy), .ref (h1), .ref (h2), .ref (h3), .int (fl), .int (nI sb), .ref (h4), .int (us)])), (h1, .inl (cI, S * Wy, .inl (tg))), (h2, .inl (cI, S * Wy, .inl (kd))), (h3, .inl (cI, S * Wy, .inl (tt))), (h4, .inl (cI, S * Wy, .inl (lu)))]) [0, 1, 2, 3, 4] rfl
    have hD := hD.sub (ws' := [(h0, .inr (3, [.int (nI S), .int (nI Wy), .ref (h1), .ref (h2), .ref (h3), .int (fl), .int (nI sb), .ref (h4), .int (us)])), (h1, .inl (cI, S * Wy, .inl (tg))), (h2, .inl (cI, S * Wy, .inl (kd))), (h3, .inl (cI, S * Wy, .inl (tt))), (h4, .inl (cI, S * Wy, .inl (lu)))]) [0, 1, 2, 3, 4] (by decide) rfl
    rcases hf : tf_find S Wy sb (tg, kd, tt, lu, fl, us) (p0) with _ | o
    ·
      refine kt_i (y := -1) (rfl) ?_
      refine lv_istore (lv' := [(4, .int (-1)), (0, .ref (h0)), (1, .int (p0)), (2, .int (p1)), (3, .int (p2))]) hx hb dX3_put_13 hl (by decide) rfl (fun ls hl => ?_)
      refine lv_iload hx hb dX3_put_15 (lv_at hl 0 rfl) ?_
      refine lv_iconst (v := (-1)) hx hb dX3_put_17 (by decide) ?_
      refine lv_icmp_ne (tgt := 61) hx hb dX3_put_18 (by decide) (fun c_18 => absurd rfl c_18) (fun c_18 => ?_)
      refine lv_aload_n hx hb dX3_put_21 rfl (lv_at hl 1 rfl) ?_
      refine lv_iload_n hx hb dX3_put_22 rfl (lv_at hl 2 rfl) ?_
      obtain ⟨o, eo⟩ : ∃ o, o = tf_slot S Wy (tg, kd, tt, lu, fl, us) (p0) := ⟨_, rfl⟩
      have ho : o < S * Wy := by rw [eo]; exact tf_slot_lt _ _ hS0 hW
      refine kc_i (wc := [(h0, .inr (3, [.int (nI S), .int (nI Wy), .ref (h1), .ref (h2), .ref (h3), .int (fl), .int (nI sb), .ref (h4), .int (us)])), (h1, .inl (cI, S * Wy, .inl (tg))), (h2, .inl (cI, S * Wy, .inl (kd))), (h3, .inl (cI, S * Wy, .inl (tt))), (h4, .inl (cI, S * Wy, .inl (lu)))]) (wr := []) [0, 1, 2, 3, 4] [] rfl rfl (by decide) (by decide) hP hD hS hA (va_runV (As := [.int (p0)]) (rest := []) ⟨hx, hb, hml, hown, hts⟩ (c_X3_slotToFill l D cI cJ cZ _ _ _ _ _ _ _ _ _ _ _ _ _ _ _ _ hS0 hS2 hS16 hsb hW hW4) (cwV 1 hts (kw_V kw_442 kw_444 kw_11 kw_28 kw_445) rfl rfl rfl (by decide +kernel) ⟨Nat.le_of_ble_eq_true rfl, Nat.le_of_ble_eq_true rfl⟩) ⟨kP_blind, va_recv hK (hP.sub (ws' := [(h0, .inr (3, [.int (nI S), .int (nI Wy), .ref (h1), .ref (h2), .ref (h3), .int (fl), .int (nI sb), .ref (h4), .int (us)])), (h1, .inl (cI, S * Wy, .inl (tg))), (h2, .inl (cI, S * Wy, .inl (kd))), (h3, .inl (cI, S * Wy, .inl (tt))), (h4, .inl (cI, S * Wy, .inl (lu)))]) [0, 1, 2, 3, 4] rfl) (ci := 3) (q0 := 0) rfl rfl, kP_at (hP.sub [0, 1, 2, 3, 4] rfl) hK (hD.sub [0, 1, 2, 3, 4] (by decide) rfl)⟩ rfl rfl hl.1 rfl (lv_room (Nat.le_of_ble_eq_true rfl)) dX3_put_23 ⟨Nat.zero_le _, Nat.zero_le _⟩) (fun H locs hP hD hS => ?_)
      have hP := hP.sub (ws' := [(h0, .inr (3, [.int (nI S), .int (nI Wy), .ref (h1), .ref (h2), .ref (h3), .int (fl), .int (nI sb), .ref (h4), .int (us)])), (h1, .inl (cI, S * Wy, .inl (tg))), (h2, .inl (cI, S * Wy, .inl (kd))), (h3, .inl (cI, S * Wy, .inl (tt))), (h4, .inl (cI, S * Wy, .inl (lu)))]) [0, 1, 2, 3, 4] rfl
      have hD := hD.sub (ws' := [(h0, .inr (3, [.int (nI S), .int (nI Wy), .ref (h1), .ref (h2), .ref (h3), .int (fl), .int (nI sb), .ref (h4), .int (us)])), (h1, .inl (cI, S * Wy, .inl (tg))), (h2, .inl (cI, S * Wy, .inl (kd))), (h3, .inl (cI, S * Wy, .inl (tt))), (h4, .inl (cI, S * Wy, .inl (lu)))]) [0, 1, 2, 3, 4] (by decide) rfl
      refine kt_i (y := nI o) (congrArg nI eo.symm) ?_
      refine lv_istore (lv' := [(4, .int (nI o)), (0, .ref (h0)), (1, .int (p0)), (2, .int (p1)), (3, .int (p2))]) hx hb dX3_put_26 hl (by decide) rfl (fun ls hl => ?_)
      refine lv_aload_n hx hb dX3_put_28 rfl (lv_at hl 1 rfl) ?_
      refine va_get (D := D) (ci := 3) (v := .ref (h1)) (C := RX3) (T := TX3) (N := 9) hx hb hts (fun w h => List.mem_cons_of_mem _ (hiX3 w h)) hown hK hP 0 rfl rfl 2 (by decide) kf21 (fun _ h9 => h9) rfl dX3_put_29 ?_
      refine lv_iload hx hb dX3_put_32 (lv_at hl 0 rfl) ?_
      refine ka_ild hx hb hK hP 1 0 rfl rfl (k := o) (rfl) (⟨ho, by omega⟩) dX3_put_34 ?_
      refine lv_iconst (v := (-1)) hx hb dX3_put_35 (by decide) ?_
      refine lv_icmp_ne (tgt := 49) hx hb dX3_put_36 (by decide) (fun c_36 => ?_) (fun c_36 => ?_)
      ·
        refine lv_aload_n hx hb dX3_put_49 rfl (lv_at hl 1 rfl) ?_
        refine va_get (D := D) (ci := 3) (v := .ref (h1)) (C := RX3) (T := TX3) (N := 9) hx hb hts (fun w h => List.mem_cons_of_mem _ (hiX3 w h)) hown hK hP 0 rfl rfl 2 (by decide) kf21 (fun _ h9 => h9) rfl dX3_put_50 ?_
        refine lv_iload hx hb dX3_put_53 (lv_at hl 0 rfl) ?_
        refine lv_aload_n hx hb dX3_put_55 rfl (lv_at hl 1 rfl) ?_
        refine lv_iload_n hx hb dX3_put_56 rfl (lv_at hl 2 rfl) ?_
        refine kc_i (wc := [(h0, .inr (3, [.int (nI S), .int (nI Wy), .ref (h1), .ref (h2), .ref (h3), .int (fl), .int (nI sb), .ref (h4), .int (us)])), (h1, .inl (cI, S * Wy, .inl (tg))), (h2, .inl (cI, S * Wy, .inl (kd))), (h3, .inl (cI, S * Wy, .inl (tt))), (h4, .inl (cI, S * Wy, .inl (lu)))]) (wr := []) [0, 1, 2, 3, 4] [] rfl rfl (by decide) (by decide) hP hD hS hA (va_runV (As := [.int (p0)]) (rest := [.int (nI o), .ref (h1)]) ⟨hx, hb, hml, hown, hts⟩ (c_X3_tagOf l D cI cJ cZ _ _ _ _ _ _ _ _ _ _ _ _ _ _ _ _) (cwV 1 hts (kw_V kw_207 kw_209 kw_1 kw_28 kw_210) rfl rfl rfl (by decide +kernel) ⟨Nat.le_of_ble_eq_true rfl, Nat.le_of_ble_eq_true rfl⟩) ⟨kP_blind, va_recv hK (hP.sub (ws' := [(h0, .inr (3, [.int (nI S), .int (nI Wy), .ref (h1), .ref (h2), .ref (h3), .int (fl), .int (nI sb), .ref (h4), .int (us)])), (h1, .inl (cI, S * Wy, .inl (tg))), (h2, .inl (cI, S * Wy, .inl (kd))), (h3, .inl (cI, S * Wy, .inl (tt))), (h4, .inl (cI, S * Wy, .inl (lu)))]) [0, 1, 2, 3, 4] rfl) (ci := 3) (q0 := 0) rfl rfl, kP_at (hP.sub [0, 1, 2, 3, 4] rfl) hK (hD.sub [0, 1, 2, 3, 4] (by decide) rfl)⟩ rfl rfl hl.1 rfl (lv_room (Nat.le_of_ble_eq_true rfl)) dX3_put_57 ⟨Nat.zero_le _, Nat.zero_le _⟩) (fun H locs hP hD hS => ?_)
        have hP := hP.sub (ws' := [(h0, .inr (3, [.int (nI S), .int (nI Wy), .ref (h1), .ref (h2), .ref (h3), .int (fl), .int (nI sb), .ref (h4), .int (us)])), (h1, .inl (cI, S * Wy, .inl (tg))), (h2, .inl (cI, S * Wy, .inl (kd))), (h3, .inl (cI, S * Wy, .inl (tt))), (h4, .inl (cI, S * Wy, .inl (lu)))]) [0, 1, 2, 3, 4] rfl
        have hD := hD.sub (ws' := [(h0, .inr (3, [.int (nI S), .int (nI Wy), .ref (h1), .ref (h2), .ref (h3), .int (fl), .int (nI sb), .ref (h4), .int (us)])), (h1, .inl (cI, S * Wy, .inl (tg))), (h2, .inl (cI, S * Wy, .inl (kd))), (h3, .inl (cI, S * Wy, .inl (tt))), (h4, .inl (cI, S * Wy, .inl (lu)))]) [0, 1, 2, 3, 4] (by decide) rfl
        refine ka_ist hx hb hK hP hD hS 1 0 rfl rfl (k := o) (rfl) (⟨ho, by omega⟩) dX3_put_60 (fun H locs hP hD hS => ?_)
        have hP : va_P D vwCl [(h0, .inr (3, [.int (nI S), .int (nI Wy), .ref (h1), .ref (h2), .ref (h3), .int (fl), .int (nI sb), .ref (h4), .int (us)])), (h1, .inl (cI, S * Wy, .inl (upd (tg) (o) (ts_tag sb (p0))))), (h2, .inl (cI, S * Wy, .inl (kd))), (h3, .inl (cI, S * Wy, .inl (tt))), (h4, .inl (cI, S * Wy, .inl (lu)))] H := hP
        have hD : va_D A [(h0, .inr (3, [.int (nI S), .int (nI Wy), .ref (h1), .ref (h2), .ref (h3), .int (fl), .int (nI sb), .ref (h4), .int (us)])), (h1, .inl (cI, S * Wy, .inl (upd (tg) (o) (ts_tag sb (p0))))), (h2, .inl (cI, S * Wy, .inl (kd))), (h3, .inl (cI, S * Wy, .inl (tt))), (h4, .inl (cI, S * Wy, .inl (lu)))] := hD
        refine lv_aload_n hx hb dX3_put_61 rfl (lv_at hl 1 rfl) ?_
        refine va_get (D := D) (ci := 3) (v := .ref (h2)) (C := RX3) (T := TX3) (N := 9) hx hb hts (fun w h => List.mem_cons_of_mem _ (hiX3 w h)) hown hK hP 0 rfl rfl 3 (by decide) kf25 (fun _ h9 => h9) rfl dX3_put_62 ?_
        refine lv_iload hx hb dX3_put_65 (lv_at hl 0 rfl) ?_
        refine lv_iload_n hx hb dX3_put_67 rfl (lv_at hl 3 rfl) ?_
        refine ka_ist hx hb hK hP hD hS 2 0 rfl rfl (k := o) (rfl) (⟨ho, by omega⟩) dX3_put_68 (fun H locs hP hD hS => ?_)
        have hP : va_P D vwCl [(h0, .inr (3, [.int (nI S), .int (nI Wy), .ref (h1), .ref (h2), .ref (h3), .int (fl), .int (nI sb), .ref (h4), .int (us)])), (h1, .inl (cI, S * Wy, .inl (upd (tg) (o) (ts_tag sb (p0))))), (h2, .inl (cI, S * Wy, .inl (upd (kd) (o) (p1)))), (h3, .inl (cI, S * Wy, .inl (tt))), (h4, .inl (cI, S * Wy, .inl (lu)))] H := hP
        have hD : va_D A [(h0, .inr (3, [.int (nI S), .int (nI Wy), .ref (h1), .ref (h2), .ref (h3), .int (fl), .int (nI sb), .ref (h4), .int (us)])), (h1, .inl (cI, S * Wy, .inl (upd (tg) (o) (ts_tag sb (p0))))), (h2, .inl (cI, S * Wy, .inl (upd (kd) (o) (p1)))), (h3, .inl (cI, S * Wy, .inl (tt))), (h4, .inl (cI, S * Wy, .inl (lu)))] := hD
        refine lv_aload_n hx hb dX3_put_69 rfl (lv_at hl 1 rfl) ?_
        refine va_get (D := D) (ci := 3) (v := .ref (h3)) (C := RX3) (T := TX3) (N := 9) hx hb hts (fun w h => List.mem_cons_of_mem _ (hiX3 w h)) hown hK hP 0 rfl rfl 4 (by decide) kf28 (fun _ h9 => h9) rfl dX3_put_70 ?_
        refine lv_iload hx hb dX3_put_73 (lv_at hl 0 rfl) ?_
        refine lv_iload_n hx hb dX3_put_75 rfl (lv_at hl 4 rfl) ?_
        refine ka_ist hx hb hK hP hD hS 3 0 rfl rfl (k := o) (rfl) (⟨ho, by omega⟩) dX3_put_76 (fun H locs hP hD hS => ?_)
        have hP : va_P D vwCl [(h0, .inr (3, [.int (nI S), .int (nI Wy), .ref (h1), .ref (h2), .ref (h3), .int (fl), .int (nI sb), .ref (h4), .int (us)])), (h1, .inl (cI, S * Wy, .inl (upd (tg) (o) (ts_tag sb (p0))))), (h2, .inl (cI, S * Wy, .inl (upd (kd) (o) (p1)))), (h3, .inl (cI, S * Wy, .inl (upd (tt) (o) (p2)))), (h4, .inl (cI, S * Wy, .inl (lu)))] H := hP
        have hD : va_D A [(h0, .inr (3, [.int (nI S), .int (nI Wy), .ref (h1), .ref (h2), .ref (h3), .int (fl), .int (nI sb), .ref (h4), .int (us)])), (h1, .inl (cI, S * Wy, .inl (upd (tg) (o) (ts_tag sb (p0))))), (h2, .inl (cI, S * Wy, .inl (upd (kd) (o) (p1)))), (h3, .inl (cI, S * Wy, .inl (upd (tt) (o) (p2)))), (h4, .inl (cI, S * Wy, .inl (lu)))] := hD
        refine lv_aload_n hx hb dX3_put_77 rfl (lv_at hl 1 rfl) ?_
        refine lv_dup hx hb dX3_put_78 rfl ?_
        refine va_get (D := D) (ci := 3) (v := .int (us)) (C := RX3) (T := TX3) (N := 9) hx hb hts (fun w h => List.mem_cons_of_mem _ (hiX3 w h)) hown hK hP 0 rfl rfl 8 (by decide) kf56 (fun _ h9 => h9) rfl dX3_put_79 ?_
        refine lv_iconst (v := 1) hx hb dX3_put_82 (by decide) ?_
        refine lv_iadd hx hb dX3_put_83 ?_
        refine va_put (D := D) (ci := 3) (v := .int ((us) + (1))) (ty := .int) (C := RX3) (T := TX3) (N := 9) hx hb hts (fun w h => List.mem_cons_of_mem _ (hiX3 w h)) tyX3 tyX3_ok nmX3 hown hK hP hD hS 0 rfl rfl 8 (by decide) kf56 (fun _ h9 => h9) rfl (by decide +kernel) rfl rfl (Nat.le_of_ble_eq_true rfl) dX3_put_84 (fun H locs hP hD hS => ?_)
        have hP : va_P D vwCl [(h0, .inr (3, [.int (nI S), .int (nI Wy), .ref (h1), .ref (h2), .ref (h3), .int (fl), .int (nI sb), .ref (h4), .int ((us) + (1))])), (h1, .inl (cI, S * Wy, .inl (upd (tg) (o) (ts_tag sb (p0))))), (h2, .inl (cI, S * Wy, .inl (upd (kd) (o) (p1)))), (h3, .inl (cI, S * Wy, .inl (upd (tt) (o) (p2)))), (h4, .inl (cI, S * Wy, .inl (lu)))] H := hP
        have hD : va_D A [(h0, .inr (3, [.int (nI S), .int (nI Wy), .ref (h1), .ref (h2), .ref (h3), .int (fl), .int (nI sb), .ref (h4), .int ((us) + (1))])), (h1, .inl (cI, S * Wy, .inl (upd (tg) (o) (ts_tag sb (p0))))), (h2, .inl (cI, S * Wy, .inl (upd (kd) (o) (p1)))), (h3, .inl (cI, S * Wy, .inl (upd (tt) (o) (p2)))), (h4, .inl (cI, S * Wy, .inl (lu)))] := hD
        refine lv_aload_n hx hb dX3_put_87 rfl (lv_at hl 1 rfl) ?_
        refine va_get (D := D) (ci := 3) (v := .ref (h4)) (C := RX3) (T := TX3) (N := 9) hx hb hts (fun w h => List.mem_cons_of_mem _ (hiX3 w h)) hown hK hP 0 rfl rfl 7 (by decide) kf31 (fun _ h9 => h9) rfl dX3_put_88 ?_
        refine lv_iload hx hb dX3_put_91 (lv_at hl 0 rfl) ?_
        refine lv_aload_n hx hb dX3_put_93 rfl (lv_at hl 1 rfl) ?_
        refine va_get (D := D) (ci := 3) (v := .int ((us) + (1))) (C := RX3) (T := TX3) (N := 9) hx hb hts (fun w h => List.mem_cons_of_mem _ (hiX3 w h)) hown hK hP 0 rfl rfl 8 (by decide) kf56 (fun _ h9 => h9) rfl dX3_put_94 ?_
        refine ka_ist hx hb hK hP hD hS 4 0 rfl rfl (k := o) (rfl) (⟨ho, by omega⟩) dX3_put_97 (fun H locs hP hD hS => ?_)
        have hP : va_P D vwCl [(h0, .inr (3, [.int (nI S), .int (nI Wy), .ref (h1), .ref (h2), .ref (h3), .int (fl), .int (nI sb), .ref (h4), .int ((us) + (1))])), (h1, .inl (cI, S * Wy, .inl (upd (tg) (o) (ts_tag sb (p0))))), (h2, .inl (cI, S * Wy, .inl (upd (kd) (o) (p1)))), (h3, .inl (cI, S * Wy, .inl (upd (tt) (o) (p2)))), (h4, .inl (cI, S * Wy, .inl (upd (lu) (o) ((us) + (1)))))] H := hP
        have hD : va_D A [(h0, .inr (3, [.int (nI S), .int (nI Wy), .ref (h1), .ref (h2), .ref (h3), .int (fl), .int (nI sb), .ref (h4), .int ((us) + (1))])), (h1, .inl (cI, S * Wy, .inl (upd (tg) (o) (ts_tag sb (p0))))), (h2, .inl (cI, S * Wy, .inl (upd (kd) (o) (p1)))), (h3, .inl (cI, S * Wy, .inl (upd (tt) (o) (p2)))), (h4, .inl (cI, S * Wy, .inl (upd (lu) (o) ((us) + (1)))))] := hD
        exact kr_v (congrArg (wTab h0 h1 h2 h3 h4 cI S Wy sb ) (show ((upd (tg) (o) (ts_tag sb (p0)), upd (kd) (o) (p1), upd (tt) (o) (p2), upd (lu) (o) ((us) + (1)), fl, (us) + (1)) : Tb) = tf_put S Wy sb (tg, kd, tt, lu, fl, us) p0 p1 p2 from by simp only [tf_put, if_neg hS0, hf, ← eo, if_neg c_36])) hx hb hr hlocks hP hK hD hS trivial dX3_put_98
      ·
        refine lv_aload_n hx hb dX3_put_39 rfl (lv_at hl 1 rfl) ?_
        refine lv_dup hx hb dX3_put_40 rfl ?_
        refine va_get (D := D) (ci := 3) (v := .int (fl)) (C := RX3) (T := TX3) (N := 9) hx hb hts (fun w h => List.mem_cons_of_mem _ (hiX3 w h)) hown hK hP 0 rfl rfl 5 (by decide) kf53 (fun _ h9 => h9) rfl dX3_put_41 ?_
        refine lv_iconst (v := 1) hx hb dX3_put_44 (by decide) ?_
        refine lv_iadd hx hb dX3_put_45 ?_
        refine va_put (D := D) (ci := 3) (v := .int ((fl) + (1))) (ty := .int) (C := RX3) (T := TX3) (N := 9) hx hb hts (fun w h => List.mem_cons_of_mem _ (hiX3 w h)) tyX3 tyX3_ok nmX3 hown hK hP hD hS 0 rfl rfl 5 (by decide) kf53 (fun _ h9 => h9) rfl (by decide +kernel) rfl rfl (Nat.le_of_ble_eq_true rfl) dX3_put_46 (fun H locs hP hD hS => ?_)
        have hP : va_P D vwCl [(h0, .inr (3, [.int (nI S), .int (nI Wy), .ref (h1), .ref (h2), .ref (h3), .int ((fl) + (1)), .int (nI sb), .ref (h4), .int (us)])), (h1, .inl (cI, S * Wy, .inl (tg))), (h2, .inl (cI, S * Wy, .inl (kd))), (h3, .inl (cI, S * Wy, .inl (tt))), (h4, .inl (cI, S * Wy, .inl (lu)))] H := hP
        have hD : va_D A [(h0, .inr (3, [.int (nI S), .int (nI Wy), .ref (h1), .ref (h2), .ref (h3), .int ((fl) + (1)), .int (nI sb), .ref (h4), .int (us)])), (h1, .inl (cI, S * Wy, .inl (tg))), (h2, .inl (cI, S * Wy, .inl (kd))), (h3, .inl (cI, S * Wy, .inl (tt))), (h4, .inl (cI, S * Wy, .inl (lu)))] := hD
        refine lv_aload_n hx hb dX3_put_49 rfl (lv_at hl 1 rfl) ?_
        refine va_get (D := D) (ci := 3) (v := .ref (h1)) (C := RX3) (T := TX3) (N := 9) hx hb hts (fun w h => List.mem_cons_of_mem _ (hiX3 w h)) hown hK hP 0 rfl rfl 2 (by decide) kf21 (fun _ h9 => h9) rfl dX3_put_50 ?_
        refine lv_iload hx hb dX3_put_53 (lv_at hl 0 rfl) ?_
        refine lv_aload_n hx hb dX3_put_55 rfl (lv_at hl 1 rfl) ?_
        refine lv_iload_n hx hb dX3_put_56 rfl (lv_at hl 2 rfl) ?_
        refine kc_i (wc := [(h0, .inr (3, [.int (nI S), .int (nI Wy), .ref (h1), .ref (h2), .ref (h3), .int ((fl) + (1)), .int (nI sb), .ref (h4), .int (us)])), (h1, .inl (cI, S * Wy, .inl (tg))), (h2, .inl (cI, S * Wy, .inl (kd))), (h3, .inl (cI, S * Wy, .inl (tt))), (h4, .inl (cI, S * Wy, .inl (lu)))]) (wr := []) [0, 1, 2, 3, 4] [] rfl rfl (by decide) (by decide) hP hD hS hA (va_runV (As := [.int (p0)]) (rest := [.int (nI o), .ref (h1)]) ⟨hx, hb, hml, hown, hts⟩ (c_X3_tagOf l D cI cJ cZ _ _ _ _ _ _ _ _ _ _ _ _ _ _ _ _) (cwV 1 hts (kw_V kw_207 kw_209 kw_1 kw_28 kw_210) rfl rfl rfl (by decide +kernel) ⟨Nat.le_of_ble_eq_true rfl, Nat.le_of_ble_eq_true rfl⟩) ⟨kP_blind, va_recv hK (hP.sub (ws' := [(h0, .inr (3, [.int (nI S), .int (nI Wy), .ref (h1), .ref (h2), .ref (h3), .int ((fl) + (1)), .int (nI sb), .ref (h4), .int (us)])), (h1, .inl (cI, S * Wy, .inl (tg))), (h2, .inl (cI, S * Wy, .inl (kd))), (h3, .inl (cI, S * Wy, .inl (tt))), (h4, .inl (cI, S * Wy, .inl (lu)))]) [0, 1, 2, 3, 4] rfl) (ci := 3) (q0 := 0) rfl rfl, kP_at (hP.sub [0, 1, 2, 3, 4] rfl) hK (hD.sub [0, 1, 2, 3, 4] (by decide) rfl)⟩ rfl rfl hl.1 rfl (lv_room (Nat.le_of_ble_eq_true rfl)) dX3_put_57 ⟨Nat.zero_le _, Nat.zero_le _⟩) (fun H locs hP hD hS => ?_)
        have hP := hP.sub (ws' := [(h0, .inr (3, [.int (nI S), .int (nI Wy), .ref (h1), .ref (h2), .ref (h3), .int ((fl) + (1)), .int (nI sb), .ref (h4), .int (us)])), (h1, .inl (cI, S * Wy, .inl (tg))), (h2, .inl (cI, S * Wy, .inl (kd))), (h3, .inl (cI, S * Wy, .inl (tt))), (h4, .inl (cI, S * Wy, .inl (lu)))]) [0, 1, 2, 3, 4] rfl
        have hD := hD.sub (ws' := [(h0, .inr (3, [.int (nI S), .int (nI Wy), .ref (h1), .ref (h2), .ref (h3), .int ((fl) + (1)), .int (nI sb), .ref (h4), .int (us)])), (h1, .inl (cI, S * Wy, .inl (tg))), (h2, .inl (cI, S * Wy, .inl (kd))), (h3, .inl (cI, S * Wy, .inl (tt))), (h4, .inl (cI, S * Wy, .inl (lu)))]) [0, 1, 2, 3, 4] (by decide) rfl
        refine ka_ist hx hb hK hP hD hS 1 0 rfl rfl (k := o) (rfl) (⟨ho, by omega⟩) dX3_put_60 (fun H locs hP hD hS => ?_)
        have hP : va_P D vwCl [(h0, .inr (3, [.int (nI S), .int (nI Wy), .ref (h1), .ref (h2), .ref (h3), .int ((fl) + (1)), .int (nI sb), .ref (h4), .int (us)])), (h1, .inl (cI, S * Wy, .inl (upd (tg) (o) (ts_tag sb (p0))))), (h2, .inl (cI, S * Wy, .inl (kd))), (h3, .inl (cI, S * Wy, .inl (tt))), (h4, .inl (cI, S * Wy, .inl (lu)))] H := hP
        have hD : va_D A [(h0, .inr (3, [.int (nI S), .int (nI Wy), .ref (h1), .ref (h2), .ref (h3), .int ((fl) + (1)), .int (nI sb), .ref (h4), .int (us)])), (h1, .inl (cI, S * Wy, .inl (upd (tg) (o) (ts_tag sb (p0))))), (h2, .inl (cI, S * Wy, .inl (kd))), (h3, .inl (cI, S * Wy, .inl (tt))), (h4, .inl (cI, S * Wy, .inl (lu)))] := hD
        refine lv_aload_n hx hb dX3_put_61 rfl (lv_at hl 1 rfl) ?_
        refine va_get (D := D) (ci := 3) (v := .ref (h2)) (C := RX3) (T := TX3) (N := 9) hx hb hts (fun w h => List.mem_cons_of_mem _ (hiX3 w h)) hown hK hP 0 rfl rfl 3 (by decide) kf25 (fun _ h9 => h9) rfl dX3_put_62 ?_
        refine lv_iload hx hb dX3_put_65 (lv_at hl 0 rfl) ?_
        refine lv_iload_n hx hb dX3_put_67 rfl (lv_at hl 3 rfl) ?_
        refine ka_ist hx hb hK hP hD hS 2 0 rfl rfl (k := o) (rfl) (⟨ho, by omega⟩) dX3_put_68 (fun H locs hP hD hS => ?_)
        have hP : va_P D vwCl [(h0, .inr (3, [.int (nI S), .int (nI Wy), .ref (h1), .ref (h2), .ref (h3), .int ((fl) + (1)), .int (nI sb), .ref (h4), .int (us)])), (h1, .inl (cI, S * Wy, .inl (upd (tg) (o) (ts_tag sb (p0))))), (h2, .inl (cI, S * Wy, .inl (upd (kd) (o) (p1)))), (h3, .inl (cI, S * Wy, .inl (tt))), (h4, .inl (cI, S * Wy, .inl (lu)))] H := hP
        have hD : va_D A [(h0, .inr (3, [.int (nI S), .int (nI Wy), .ref (h1), .ref (h2), .ref (h3), .int ((fl) + (1)), .int (nI sb), .ref (h4), .int (us)])), (h1, .inl (cI, S * Wy, .inl (upd (tg) (o) (ts_tag sb (p0))))), (h2, .inl (cI, S * Wy, .inl (upd (kd) (o) (p1)))), (h3, .inl (cI, S * Wy, .inl (tt))), (h4, .inl (cI, S * Wy, .inl (lu)))] := hD
        refine lv_aload_n hx hb dX3_put_69 rfl (lv_at hl 1 rfl) ?_
        refine va_get (D := D) (ci := 3) (v := .ref (h3)) (C := RX3) (T := TX3) (N := 9) hx hb hts (fun w h => List.mem_cons_of_mem _ (hiX3 w h)) hown hK hP 0 rfl rfl 4 (by decide) kf28 (fun _ h9 => h9) rfl dX3_put_70 ?_
        refine lv_iload hx hb dX3_put_73 (lv_at hl 0 rfl) ?_
        refine lv_iload_n hx hb dX3_put_75 rfl (lv_at hl 4 rfl) ?_
        refine ka_ist hx hb hK hP hD hS 3 0 rfl rfl (k := o) (rfl) (⟨ho, by omega⟩) dX3_put_76 (fun H locs hP hD hS => ?_)
        have hP : va_P D vwCl [(h0, .inr (3, [.int (nI S), .int (nI Wy), .ref (h1), .ref (h2), .ref (h3), .int ((fl) + (1)), .int (nI sb), .ref (h4), .int (us)])), (h1, .inl (cI, S * Wy, .inl (upd (tg) (o) (ts_tag sb (p0))))), (h2, .inl (cI, S * Wy, .inl (upd (kd) (o) (p1)))), (h3, .inl (cI, S * Wy, .inl (upd (tt) (o) (p2)))), (h4, .inl (cI, S * Wy, .inl (lu)))] H := hP
        have hD : va_D A [(h0, .inr (3, [.int (nI S), .int (nI Wy), .ref (h1), .ref (h2), .ref (h3), .int ((fl) + (1)), .int (nI sb), .ref (h4), .int (us)])), (h1, .inl (cI, S * Wy, .inl (upd (tg) (o) (ts_tag sb (p0))))), (h2, .inl (cI, S * Wy, .inl (upd (kd) (o) (p1)))), (h3, .inl (cI, S * Wy, .inl (upd (tt) (o) (p2)))), (h4, .inl (cI, S * Wy, .inl (lu)))] := hD
        refine lv_aload_n hx hb dX3_put_77 rfl (lv_at hl 1 rfl) ?_
        refine lv_dup hx hb dX3_put_78 rfl ?_
        refine va_get (D := D) (ci := 3) (v := .int (us)) (C := RX3) (T := TX3) (N := 9) hx hb hts (fun w h => List.mem_cons_of_mem _ (hiX3 w h)) hown hK hP 0 rfl rfl 8 (by decide) kf56 (fun _ h9 => h9) rfl dX3_put_79 ?_
        refine lv_iconst (v := 1) hx hb dX3_put_82 (by decide) ?_
        refine lv_iadd hx hb dX3_put_83 ?_
        refine va_put (D := D) (ci := 3) (v := .int ((us) + (1))) (ty := .int) (C := RX3) (T := TX3) (N := 9) hx hb hts (fun w h => List.mem_cons_of_mem _ (hiX3 w h)) tyX3 tyX3_ok nmX3 hown hK hP hD hS 0 rfl rfl 8 (by decide) kf56 (fun _ h9 => h9) rfl (by decide +kernel) rfl rfl (Nat.le_of_ble_eq_true rfl) dX3_put_84 (fun H locs hP hD hS => ?_)
        have hP : va_P D vwCl [(h0, .inr (3, [.int (nI S), .int (nI Wy), .ref (h1), .ref (h2), .ref (h3), .int ((fl) + (1)), .int (nI sb), .ref (h4), .int ((us) + (1))])), (h1, .inl (cI, S * Wy, .inl (upd (tg) (o) (ts_tag sb (p0))))), (h2, .inl (cI, S * Wy, .inl (upd (kd) (o) (p1)))), (h3, .inl (cI, S * Wy, .inl (upd (tt) (o) (p2)))), (h4, .inl (cI, S * Wy, .inl (lu)))] H := hP
        have hD : va_D A [(h0, .inr (3, [.int (nI S), .int (nI Wy), .ref (h1), .ref (h2), .ref (h3), .int ((fl) + (1)), .int (nI sb), .ref (h4), .int ((us) + (1))])), (h1, .inl (cI, S * Wy, .inl (upd (tg) (o) (ts_tag sb (p0))))), (h2, .inl (cI, S * Wy, .inl (upd (kd) (o) (p1)))), (h3, .inl (cI, S * Wy, .inl (upd (tt) (o) (p2)))), (h4, .inl (cI, S * Wy, .inl (lu)))] := hD
        refine lv_aload_n hx hb dX3_put_87 rfl (lv_at hl 1 rfl) ?_
        refine va_get (D := D) (ci := 3) (v := .ref (h4)) (C := RX3) (T := TX3) (N := 9) hx hb hts (fun w h => List.mem_cons_of_mem _ (hiX3 w h)) hown hK hP 0 rfl rfl 7 (by decide) kf31 (fun _ h9 => h9) rfl dX3_put_88 ?_
        refine lv_iload hx hb dX3_put_91 (lv_at hl 0 rfl) ?_
        refine lv_aload_n hx hb dX3_put_93 rfl (lv_at hl 1 rfl) ?_
        refine va_get (D := D) (ci := 3) (v := .int ((us) + (1))) (C := RX3) (T := TX3) (N := 9) hx hb hts (fun w h => List.mem_cons_of_mem _ (hiX3 w h)) hown hK hP 0 rfl rfl 8 (by decide) kf56 (fun _ h9 => h9) rfl dX3_put_94 ?_
        refine ka_ist hx hb hK hP hD hS 4 0 rfl rfl (k := o) (rfl) (⟨ho, by omega⟩) dX3_put_97 (fun H locs hP hD hS => ?_)
        have hP : va_P D vwCl [(h0, .inr (3, [.int (nI S), .int (nI Wy), .ref (h1), .ref (h2), .ref (h3), .int ((fl) + (1)), .int (nI sb), .ref (h4), .int ((us) + (1))])), (h1, .inl (cI, S * Wy, .inl (upd (tg) (o) (ts_tag sb (p0))))), (h2, .inl (cI, S * Wy, .inl (upd (kd) (o) (p1)))), (h3, .inl (cI, S * Wy, .inl (upd (tt) (o) (p2)))), (h4, .inl (cI, S * Wy, .inl (upd (lu) (o) ((us) + (1)))))] H := hP
        have hD : va_D A [(h0, .inr (3, [.int (nI S), .int (nI Wy), .ref (h1), .ref (h2), .ref (h3), .int ((fl) + (1)), .int (nI sb), .ref (h4), .int ((us) + (1))])), (h1, .inl (cI, S * Wy, .inl (upd (tg) (o) (ts_tag sb (p0))))), (h2, .inl (cI, S * Wy, .inl (upd (kd) (o) (p1)))), (h3, .inl (cI, S * Wy, .inl (upd (tt) (o) (p2)))), (h4, .inl (cI, S * Wy, .inl (upd (lu) (o) ((us) + (1)))))] := hD
        exact kr_v (congrArg (wTab h0 h1 h2 h3 h4 cI S Wy sb ) (show ((upd (tg) (o) (ts_tag sb (p0)), upd (kd) (o) (p1), upd (tt) (o) (p2), upd (lu) (o) ((us) + (1)), (fl) + (1), (us) + (1)) : Tb) = tf_put S Wy sb (tg, kd, tt, lu, fl, us) p0 p1 p2 from by simp only [tf_put, if_neg hS0, hf, ← eo, if_pos c_36])) hx hb hr hlocks hP hK hD hS trivial dX3_put_98
    ·
      have ho : o < S * Wy := (tf_find_lt hf).2.1
      refine kt_i (y := nI o) (rfl) ?_
      refine lv_istore (lv' := [(4, .int (nI o)), (0, .ref (h0)), (1, .int (p0)), (2, .int (p1)), (3, .int (p2))]) hx hb dX3_put_13 hl (by decide) rfl (fun ls hl => ?_)
      refine lv_iload hx hb dX3_put_15 (lv_at hl 0 rfl) ?_
      refine lv_iconst (v := (-1)) hx hb dX3_put_17 (by decide) ?_
      refine lv_icmp_ne (tgt := 61) hx hb dX3_put_18 (by decide) (fun c_18 => ?_) (fun c_18 => absurd c_18 (nI_nm1 (by omega)))
      refine lv_aload_n hx hb dX3_put_61 rfl (lv_at hl 1 rfl) ?_
      refine va_get (D := D) (ci := 3) (v := .ref (h2)) (C := RX3) (T := TX3) (N := 9) hx hb hts (fun w h => List.mem_cons_of_mem _ (hiX3 w h)) hown hK hP 0 rfl rfl 3 (by decide) kf25 (fun _ h9 => h9) rfl dX3_put_62 ?_
      refine lv_iload hx hb dX3_put_65 (lv_at hl 0 rfl) ?_
      refine lv_iload_n hx hb dX3_put_67 rfl (lv_at hl 3 rfl) ?_
      refine ka_ist hx hb hK hP hD hS 2 0 rfl rfl (k := o) (rfl) (⟨ho, by omega⟩) dX3_put_68 (fun H locs hP hD hS => ?_)
      have hP : va_P D vwCl [(h0, .inr (3, [.int (nI S), .int (nI Wy), .ref (h1), .ref (h2), .ref (h3), .int (fl), .int (nI sb), .ref (h4), .int (us)])), (h1, .inl (cI, S * Wy, .inl (tg))), (h2, .inl (cI, S * Wy, .inl (upd (kd) (o) (p1)))), (h3, .inl (cI, S * Wy, .inl (tt))), (h4, .inl (cI, S * Wy, .inl (lu)))] H := hP
      have hD : va_D A [(h0, .inr (3, [.int (nI S), .int (nI Wy), .ref (h1), .ref (h2), .ref (h3), .int (fl), .int (nI sb), .ref (h4), .int (us)])), (h1, .inl (cI, S * Wy, .inl (tg))), (h2, .inl (cI, S * Wy, .inl (upd (kd) (o) (p1)))), (h3, .inl (cI, S * Wy, .inl (tt))), (h4, .inl (cI, S * Wy, .inl (lu)))] := hD
      refine lv_aload_n hx hb dX3_put_69 rfl (lv_at hl 1 rfl) ?_
      refine va_get (D := D) (ci := 3) (v := .ref (h3)) (C := RX3) (T := TX3) (N := 9) hx hb hts (fun w h => List.mem_cons_of_mem _ (hiX3 w h)) hown hK hP 0 rfl rfl 4 (by decide) kf28 (fun _ h9 => h9) rfl dX3_put_70 ?_
      refine lv_iload hx hb dX3_put_73 (lv_at hl 0 rfl) ?_
      refine lv_iload_n hx hb dX3_put_75 rfl (lv_at hl 4 rfl) ?_
      refine ka_ist hx hb hK hP hD hS 3 0 rfl rfl (k := o) (rfl) (⟨ho, by omega⟩) dX3_put_76 (fun H locs hP hD hS => ?_)
      have hP : va_P D vwCl [(h0, .inr (3, [.int (nI S), .int (nI Wy), .ref (h1), .ref (h2), .ref (h3), .int (fl), .int (nI sb), .ref (h4), .int (us)])), (h1, .inl (cI, S * Wy, .inl (tg))), (h2, .inl (cI, S * Wy, .inl (upd (kd) (o) (p1)))), (h3, .inl (cI, S * Wy, .inl (upd (tt) (o) (p2)))), (h4, .inl (cI, S * Wy, .inl (lu)))] H := hP
      have hD : va_D A [(h0, .inr (3, [.int (nI S), .int (nI Wy), .ref (h1), .ref (h2), .ref (h3), .int (fl), .int (nI sb), .ref (h4), .int (us)])), (h1, .inl (cI, S * Wy, .inl (tg))), (h2, .inl (cI, S * Wy, .inl (upd (kd) (o) (p1)))), (h3, .inl (cI, S * Wy, .inl (upd (tt) (o) (p2)))), (h4, .inl (cI, S * Wy, .inl (lu)))] := hD
      refine lv_aload_n hx hb dX3_put_77 rfl (lv_at hl 1 rfl) ?_
      refine lv_dup hx hb dX3_put_78 rfl ?_
      refine va_get (D := D) (ci := 3) (v := .int (us)) (C := RX3) (T := TX3) (N := 9) hx hb hts (fun w h => List.mem_cons_of_mem _ (hiX3 w h)) hown hK hP 0 rfl rfl 8 (by decide) kf56 (fun _ h9 => h9) rfl dX3_put_79 ?_
      refine lv_iconst (v := 1) hx hb dX3_put_82 (by decide) ?_
      refine lv_iadd hx hb dX3_put_83 ?_
      refine va_put (D := D) (ci := 3) (v := .int ((us) + (1))) (ty := .int) (C := RX3) (T := TX3) (N := 9) hx hb hts (fun w h => List.mem_cons_of_mem _ (hiX3 w h)) tyX3 tyX3_ok nmX3 hown hK hP hD hS 0 rfl rfl 8 (by decide) kf56 (fun _ h9 => h9) rfl (by decide +kernel) rfl rfl (Nat.le_of_ble_eq_true rfl) dX3_put_84 (fun H locs hP hD hS => ?_)
      have hP : va_P D vwCl [(h0, .inr (3, [.int (nI S), .int (nI Wy), .ref (h1), .ref (h2), .ref (h3), .int (fl), .int (nI sb), .ref (h4), .int ((us) + (1))])), (h1, .inl (cI, S * Wy, .inl (tg))), (h2, .inl (cI, S * Wy, .inl (upd (kd) (o) (p1)))), (h3, .inl (cI, S * Wy, .inl (upd (tt) (o) (p2)))), (h4, .inl (cI, S * Wy, .inl (lu)))] H := hP
      have hD : va_D A [(h0, .inr (3, [.int (nI S), .int (nI Wy), .ref (h1), .ref (h2), .ref (h3), .int (fl), .int (nI sb), .ref (h4), .int ((us) + (1))])), (h1, .inl (cI, S * Wy, .inl (tg))), (h2, .inl (cI, S * Wy, .inl (upd (kd) (o) (p1)))), (h3, .inl (cI, S * Wy, .inl (upd (tt) (o) (p2)))), (h4, .inl (cI, S * Wy, .inl (lu)))] := hD
      refine lv_aload_n hx hb dX3_put_87 rfl (lv_at hl 1 rfl) ?_
      refine va_get (D := D) (ci := 3) (v := .ref (h4)) (C := RX3) (T := TX3) (N := 9) hx hb hts (fun w h => List.mem_cons_of_mem _ (hiX3 w h)) hown hK hP 0 rfl rfl 7 (by decide) kf31 (fun _ h9 => h9) rfl dX3_put_88 ?_
      refine lv_iload hx hb dX3_put_91 (lv_at hl 0 rfl) ?_
      refine lv_aload_n hx hb dX3_put_93 rfl (lv_at hl 1 rfl) ?_
      refine va_get (D := D) (ci := 3) (v := .int ((us) + (1))) (C := RX3) (T := TX3) (N := 9) hx hb hts (fun w h => List.mem_cons_of_mem _ (hiX3 w h)) hown hK hP 0 rfl rfl 8 (by decide) kf56 (fun _ h9 => h9) rfl dX3_put_94 ?_
      refine ka_ist hx hb hK hP hD hS 4 0 rfl rfl (k := o) (rfl) (⟨ho, by omega⟩) dX3_put_97 (fun H locs hP hD hS => ?_)
      have hP : va_P D vwCl [(h0, .inr (3, [.int (nI S), .int (nI Wy), .ref (h1), .ref (h2), .ref (h3), .int (fl), .int (nI sb), .ref (h4), .int ((us) + (1))])), (h1, .inl (cI, S * Wy, .inl (tg))), (h2, .inl (cI, S * Wy, .inl (upd (kd) (o) (p1)))), (h3, .inl (cI, S * Wy, .inl (upd (tt) (o) (p2)))), (h4, .inl (cI, S * Wy, .inl (upd (lu) (o) ((us) + (1)))))] H := hP
      have hD : va_D A [(h0, .inr (3, [.int (nI S), .int (nI Wy), .ref (h1), .ref (h2), .ref (h3), .int (fl), .int (nI sb), .ref (h4), .int ((us) + (1))])), (h1, .inl (cI, S * Wy, .inl (tg))), (h2, .inl (cI, S * Wy, .inl (upd (kd) (o) (p1)))), (h3, .inl (cI, S * Wy, .inl (upd (tt) (o) (p2)))), (h4, .inl (cI, S * Wy, .inl (upd (lu) (o) ((us) + (1)))))] := hD
      exact kr_v (congrArg (wTab h0 h1 h2 h3 h4 cI S Wy sb ) (show ((tg, upd (kd) (o) (p1), upd (tt) (o) (p2), upd (lu) (o) ((us) + (1)), fl, (us) + (1)) : Tb) = tf_put S Wy sb (tg, kd, tt, lu, fl, us) p0 p1 p2 from by simp only [tf_put, if_neg hS0, hf])) hx hb hr hlocks hP hK hD hS trivial dX3_put_98
  ·
    have hS0 : S = 0 := by
      rcases Nat.eq_zero_or_pos S with q | q
      · exact q
      · exact absurd c_4 (nI_ne0 q (by omega))
    exact kr_v (congrArg (wTab h0 h1 h2 h3 h4 cI S Wy sb ) (show ((tg, kd, tt, lu, fl, us) : Tb) = tf_put S Wy sb (tg, kd, tt, lu, fl, us) p0 p1 p2 from by simp only [tf_put, if_pos hS0])) hx hb hr hlocks hP hK hD hS trivial dX3_put_7
end
section
set_option maxHeartbeats 4000000 in
set_option maxRecDepth 100000 in
/-- the tag of a row -/
theorem c_X0_tagOf (l : Launch) (D : va_G) (cI cJ cZ : ClassId) (sz : Nat) (p0 : Int32) : KI l yX0_tagOf wsX0_tagOf ({ frames := 0, cells := 0, slots := 0, locals := 0 } : Room) D (kTy cI cJ cZ) [.int (p0)] [] sz ([]) (hf_tag p0) 0 0 := by
  refine Met.ofW (cc := cX0_tagOf) (maxL := 1) (ret := (some .int)) (by decide) rfl ?_
  intro p e s m args below meth c s₁ B hml hv
  obtain ⟨rfl, hsz, hP, hK, hD0⟩ := hv
  have hx := B.exec
  have hb := B.bytes
  have hr := B.returns
  have hts := atoms_spec (ws := wsX0_tagOf) B.pre
  have hown : s.vm.findClass RX0 = some m.cls := findClass_of_methodNamed B.named
  have hlocks := B.notSynchronized
  subst hsz
  have hD := hD0.self (sz := s.heap.size)
  generalize hAe : va_A [] s.heap.size = A at hD ⊢
  have hA : ∀ q : Nat, s.heap.size ≤ q → A q := fun q h => by rw [← hAe]; exact Or.inr h
  have hS : va_S A s.heap s.heap [] := va_S.rf
  have hP : va_P D vwCl [] s.heap := hP
  have hD : va_D A [] := hD
  have hl := lv_entry ([.int (p0)]) (n := 1) (Nat.le_of_ble_eq_true rfl)
  rw [lg_entry_eq]
  generalize (lg_sl ([.int (p0)]) ++ List.replicate (1 - (lg_sl ([.int (p0)])).length) Slot.unset).toArray = ls at hl ⊢
  have hl : lv_has ls 1 [(0, .int (p0))] := hl
  refine lv_iload_n hx hb dX0_tagOf_0 rfl (lv_at hl 0 rfl) ?_
  refine lv_bipush (v := 8) hx hb dX0_tagOf_1 (by decide) ?_
  refine lv_iushr (v := k_ush (p0) (8)) hx hb dX0_tagOf_3 rfl ?_
  refine lv_sipush (v := 255) hx hb dX0_tagOf_4 (by decide) ?_
  refine lv_iand hx hb dX0_tagOf_7 ?_
  exact kr_i (rfl) hx hb hr hlocks hP hK hD hS (rfl) dX0_tagOf_8

set_option maxHeartbeats 4000000 in
set_option maxRecDepth 100000 in
/-- the row of a place -/
theorem c_X0_indexFor (l : Launch) (D : va_G) (cI cJ cZ : ClassId) (sz : Nat) (h0 h1 h2 : Nat) (hg hq : Fn) (hh : Int32) (p0 : Int32) : KI l yX0_indexFor wsX0_indexFor ({ frames := 0, cells := 0, slots := 0, locals := 0 } : Room) D (kTy cI cJ cZ) [.ref (h0), .int (p0)] [(h0, .inr (0, [.ref (h1), .ref (h2), .int (hh)])), (h1, .inl (cI, 64, .inl (hg))), (h2, .inl (cI, 64, .inl (hq)))] sz (wHis h0 h1 h2 cI (hg, hq, hh)) (nI (hf_ix hh p0)) 0 0 := by
  refine Met.ofW (cc := cX0_indexFor) (maxL := 3) (ret := (some .int)) (by decide) rfl ?_
  intro p e s m args below meth c s₁ B hml hv
  obtain ⟨rfl, hsz, hP, hK, hD0⟩ := hv
  have hx := B.exec
  have hb := B.bytes
  have hr := B.returns
  have hts := atoms_spec (ws := wsX0_indexFor) B.pre
  have hown : s.vm.findClass RX0 = some m.cls := findClass_of_methodNamed B.named
  have hlocks := B.notSynchronized
  have kf31 := hts (.fieldLink RX0 31 "TargetRows$HistoryRows" "history" "I") (List.mem_cons_of_mem _ kw_108)
  subst hsz
  have hD := hD0.self (sz := s.heap.size)
  generalize hAe : va_A [(h0, .inr (0, [.ref (h1), .ref (h2), .int (hh)])), (h1, .inl (cI, 64, .inl (hg))), (h2, .inl (cI, 64, .inl (hq)))] s.heap.size = A at hD ⊢
  have hA : ∀ q : Nat, s.heap.size ≤ q → A q := fun q h => by rw [← hAe]; exact Or.inr h
  have hS : va_S A s.heap s.heap [] := va_S.rf
  have hP : va_P D vwCl [(h0, .inr (0, [.ref (h1), .ref (h2), .int (hh)])), (h1, .inl (cI, 64, .inl (hg))), (h2, .inl (cI, 64, .inl (hq)))] s.heap := hP
  have hD : va_D A [(h0, .inr (0, [.ref (h1), .ref (h2), .int (hh)])), (h1, .inl (cI, 64, .inl (hg))), (h2, .inl (cI, 64, .inl (hq)))] := hD
  have hl := lv_entry ([.ref (h0), .int (p0)]) (n := 3) (Nat.le_of_ble_eq_true rfl)
  rw [lg_entry_eq]
  generalize (lg_sl ([.ref (h0), .int (p0)]) ++ List.replicate (3 - (lg_sl ([.ref (h0), .int (p0)])).length) Slot.unset).toArray = ls at hl ⊢
  have hl : lv_has ls 3 [(0, .ref (h0)), (1, .int (p0))] := hl
  refine lv_aload_n hx hb dX0_indexFor_0 rfl (lv_at hl 0 rfl) ?_
  refine va_get (D := D) (ci := 0) (v := .int (hh)) (C := RX0) (T := TX0) (N := 3) hx hb hts (fun w h => List.mem_cons_of_mem _ (hiX0 w h)) hown hK hP 0 rfl rfl 2 (by decide) kf31 (fun _ h9 => h9) rfl dX0_indexFor_1 ?_
  refine lv_aload_n hx hb dX0_indexFor_4 rfl (lv_at hl 0 rfl) ?_
  refine va_get (D := D) (ci := 0) (v := .int (hh)) (C := RX0) (T := TX0) (N := 3) hx hb hts (fun w h => List.mem_cons_of_mem _ (hiX0 w h)) hown hK hP 0 rfl rfl 2 (by decide) kf31 (fun _ h9 => h9) rfl dX0_indexFor_5 ?_
  refine lv_bipush (v := 6) hx hb dX0_indexFor_8 (by decide) ?_
  refine lv_iushr (v := k_ush (hh) (6)) hx hb dX0_indexFor_10 rfl ?_
  refine lv_ixor hx hb dX0_indexFor_11 ?_
  refine lv_aload_n hx hb dX0_indexFor_12 rfl (lv_at hl 0 rfl) ?_
  refine va_get (D := D) (ci := 0) (v := .int (hh)) (C := RX0) (T := TX0) (N := 3) hx hb hts (fun w h => List.mem_cons_of_mem _ (hiX0 w h)) hown hK hP 0 rfl rfl 2 (by decide) kf31 (fun _ h9 => h9) rfl dX0_indexFor_13 ?_
  refine lv_bipush (v := 12) hx hb dX0_indexFor_16 (by decide) ?_
  refine lv_iushr (v := k_ush (hh) (12)) hx hb dX0_indexFor_18 rfl ?_
  refine lv_ixor hx hb dX0_indexFor_19 ?_
  refine lv_aload_n hx hb dX0_indexFor_20 rfl (lv_at hl 0 rfl) ?_
  refine va_get (D := D) (ci := 0) (v := .int (hh)) (C := RX0) (T := TX0) (N := 3) hx hb hts (fun w h => List.mem_cons_of_mem _ (hiX0 w h)) hown hK hP 0 rfl rfl 2 (by decide) kf31 (fun _ h9 => h9) rfl dX0_indexFor_21 ?_
  refine lv_bipush (v := 18) hx hb dX0_indexFor_24 (by decide) ?_
  refine lv_iushr (v := k_ush (hh) (18)) hx hb dX0_indexFor_26 rfl ?_
  refine lv_ixor hx hb dX0_indexFor_27 ?_
  refine lv_istore_n (lv' := [(2, .int ((((hh) ^^^ (k_ush (hh) (6))) ^^^ (k_ush (hh) (12))) ^^^ (k_ush (hh) (18)))), (0, .ref (h0)), (1, .int (p0))]) hx hb dX0_indexFor_28 rfl hl (by decide) rfl (fun ls hl => ?_)
  refine lv_iload_n hx hb dX0_indexFor_29 rfl (lv_at hl 2 rfl) ?_
  refine lv_iconst (v := 2) hx hb dX0_indexFor_30 (by decide) ?_
  refine lv_iushr (v := k_ush (p0) (2)) hx hb dX0_indexFor_31 rfl ?_
  refine lv_iload_n hx hb dX0_indexFor_32 rfl (lv_at hl 0 rfl) ?_
  refine lv_ixor hx hb dX0_indexFor_33 ?_
  refine lv_bipush (v := 63) hx hb dX0_indexFor_34 (by decide) ?_
  refine lv_iand hx hb dX0_indexFor_36 ?_
  refine kt_i (y := nI (hf_ix hh p0)) (hf_lem hh p0) ?_
  exact kr_i (rfl) hx hb hr hlocks hP hK hD hS (rfl) dX0_indexFor_37

set_option maxHeartbeats 4000000 in
set_option maxRecDepth 100000 in
/-- has the row the tag of a place -/
theorem c_X0_knows (l : Launch) (D : va_G) (cI cJ cZ : ClassId) (sz : Nat) (h0 h1 h2 : Nat) (hg hq : Fn) (hh : Int32) (p0 : Int32) : KI l yX0_knows wsX0_knows ({ frames := 1, cells := 0, slots := 0, locals := 22 } : Room) D (kTy cI cJ cZ) [.ref (h0), .int (p0)] [(h0, .inr (0, [.ref (h1), .ref (h2), .int (hh)])), (h1, .inl (cI, 64, .inl (hg))), (h2, .inl (cI, 64, .inl (hq)))] sz (wHis h0 h1 h2 cI (hg, hq, hh)) (hf_knows (hg, hq, hh) p0) 0 0 := by
  refine Met.ofW (cc := cX0_knows) (maxL := 2) (ret := (some .boolean)) (by decide) rfl ?_
  intro p e s m args below meth c s₁ B hml hv
  obtain ⟨rfl, hsz, hP, hK, hD0⟩ := hv
  have hx := B.exec
  have hb := B.bytes
  have hr := B.returns
  have hts := atoms_spec (ws := wsX0_knows) B.pre
  have hown : s.vm.findClass RX0 = some m.cls := findClass_of_methodNamed B.named
  have hlocks := B.notSynchronized
  have kf9 := hts (.fieldLink RX0 9 "TargetRows$HistoryRows" "tags" "[I") (List.mem_cons_of_mem _ kw_104)
  subst hsz
  have hD := hD0.self (sz := s.heap.size)
  generalize hAe : va_A [(h0, .inr (0, [.ref (h1), .ref (h2), .int (hh)])), (h1, .inl (cI, 64, .inl (hg))), (h2, .inl (cI, 64, .inl (hq)))] s.heap.size = A at hD ⊢
  have hA : ∀ q : Nat, s.heap.size ≤ q → A q := fun q h => by rw [← hAe]; exact Or.inr h
  have hS : va_S A s.heap s.heap [] := va_S.rf
  have hP : va_P D vwCl [(h0, .inr (0, [.ref (h1), .ref (h2), .int (hh)])), (h1, .inl (cI, 64, .inl (hg))), (h2, .inl (cI, 64, .inl (hq)))] s.heap := hP
  have hD : va_D A [(h0, .inr (0, [.ref (h1), .ref (h2), .int (hh)])), (h1, .inl (cI, 64, .inl (hg))), (h2, .inl (cI, 64, .inl (hq)))] := hD
  have hl := lv_entry ([.ref (h0), .int (p0)]) (n := 2) (Nat.le_of_ble_eq_true rfl)
  rw [lg_entry_eq]
  generalize (lg_sl ([.ref (h0), .int (p0)]) ++ List.replicate (2 - (lg_sl ([.ref (h0), .int (p0)])).length) Slot.unset).toArray = ls at hl ⊢
  have hl : lv_has ls 2 [(0, .ref (h0)), (1, .int (p0))] := hl
  refine lv_aload_n hx hb dX0_knows_0 rfl (lv_at hl 0 rfl) ?_
  refine va_get (D := D) (ci := 0) (v := .ref (h1)) (C := RX0) (T := TX0) (N := 3) hx hb hts (fun w h => List.mem_cons_of_mem _ (hiX0 w h)) hown hK hP 0 rfl rfl 0 (by decide) kf9 (fun _ h9 => h9) rfl dX0_knows_1 ?_
  refine lv_aload_n hx hb dX0_knows_4 rfl (lv_at hl 0 rfl) ?_
  refine lv_iload_n hx hb dX0_knows_5 rfl (lv_at hl 1 rfl) ?_
  refine kc_i (wc := [(h0, .inr (0, [.ref (h1), .ref (h2), .int (hh)])), (h1, .inl (cI, 64, .inl (hg))), (h2, .inl (cI, 64, .inl (hq)))]) (wr := []) [0, 1, 2] [] rfl rfl (by decide) (by decide) hP hD hS hA (va_runV (As := [.int (p0)]) (rest := [.ref (h1)]) ⟨hx, hb, hml, hown, hts⟩ (c_X0_indexFor l D cI cJ cZ _ _ _ _ _ _ _ _) (cwV 1 hts (kw_V kw_226 kw_228 kw_3 kw_30 kw_229) rfl rfl rfl (by decide +kernel) ⟨Nat.le_of_ble_eq_true rfl, Nat.le_of_ble_eq_true rfl⟩) ⟨kP_blind, va_recv hK (hP.sub (ws' := [(h0, .inr (0, [.ref (h1), .ref (h2), .int (hh)])), (h1, .inl (cI, 64, .inl (hg))), (h2, .inl (cI, 64, .inl (hq)))]) [0, 1, 2] rfl) (ci := 0) (q0 := 0) rfl rfl, kP_at (hP.sub [0, 1, 2] rfl) hK (hD.sub [0, 1, 2] (by decide) rfl)⟩ rfl rfl hl.1 rfl (lv_room (Nat.le_of_ble_eq_true rfl)) dX0_knows_6 ⟨Nat.zero_le _, Nat.zero_le _⟩) (fun H locs hP hD hS => ?_)
  have hP := hP.sub (ws' := [(h0, .inr (0, [.ref (h1), .ref (h2), .int (hh)])), (h1, .inl (cI, 64, .inl (hg))), (h2, .inl (cI, 64, .inl (hq)))]) [0, 1, 2] rfl
  have hD := hD.sub (ws' := [(h0, .inr (0, [.ref (h1), .ref (h2), .int (hh)])), (h1, .inl (cI, 64, .inl (hg))), (h2, .inl (cI, 64, .inl (hq)))]) [0, 1, 2] (by decide) rfl
  refine ka_ild hx hb hK hP 1 0 rfl rfl (k := hf_ix (hh) (p0)) (rfl) (⟨hf_ix_lt _ _, by decide⟩) dX0_knows_9 ?_
  refine lv_iload_n hx hb dX0_knows_10 rfl (lv_at hl 1 rfl) ?_
  refine kc_i (wc := []) (wr := [(h0, .inr (0, [.ref (h1), .ref (h2), .int (hh)])), (h1, .inl (cI, 64, .inl (hg))), (h2, .inl (cI, 64, .inl (hq)))]) [] [0, 1, 2] rfl rfl (by decide) (by decide) hP hD hS hA (va_runS (As := [.int (p0)]) (rest := [.int ((hg) (hf_ix (hh) (p0)))]) ⟨hx, hb, hml, hown, hts⟩ (c_X0_tagOf l D cI cJ cZ _ _) (va_cwS 1 hts (kw_S kw_230 kw_231 kw_30 kw_232) rfl rfl rfl (by decide +kernel) ⟨Nat.le_of_ble_eq_true rfl, Nat.le_of_ble_eq_true rfl⟩) ⟨kP_blind, kP_at (hP.sub [] rfl) hK (hD.sub [] (by decide) rfl)⟩ rfl rfl hl.1 rfl (lv_room (Nat.le_of_ble_eq_true rfl)) dX0_knows_11 ⟨Nat.zero_le _, Nat.zero_le _⟩) (fun H locs hP hD hS => ?_)
  have hP := hP.sub (ws' := [(h0, .inr (0, [.ref (h1), .ref (h2), .int (hh)])), (h1, .inl (cI, 64, .inl (hg))), (h2, .inl (cI, 64, .inl (hq)))]) [0, 1, 2] rfl
  have hD := hD.sub (ws' := [(h0, .inr (0, [.ref (h1), .ref (h2), .int (hh)])), (h1, .inl (cI, 64, .inl (hg))), (h2, .inl (cI, 64, .inl (hq)))]) [0, 1, 2] (by decide) rfl
  refine lv_icmp_ne (tgt := 21) hx hb dX0_knows_14 (by decide) (fun c_14 => ?_) (fun c_14 => ?_)
  ·
    refine lv_iconst (v := 0) hx hb dX0_knows_21 (by decide) ?_
    exact kr_z (rfl) hx hb hr hlocks hP hK hD hS (rfl) ((if_neg c_14).symm) dX0_knows_22
  ·
    refine lv_iconst (v := 1) hx hb dX0_knows_17 (by decide) ?_
    refine lv_goto (tgt := 22) hx hb dX0_knows_18 (by decide) ?_
    exact kr_z (rfl) hx hb hr hlocks hP hK hD hS (rfl) ((if_pos c_14).symm) dX0_knows_22

set_option maxHeartbeats 4000000 in
set_option maxRecDepth 100000 in
/-- the target of the row -/
theorem c_X0_targetFor (l : Launch) (D : va_G) (cI cJ cZ : ClassId) (sz : Nat) (h0 h1 h2 : Nat) (hg hq : Fn) (hh : Int32) (p0 : Int32) : KI l yX0_targetFor wsX0_targetFor ({ frames := 1, cells := 0, slots := 0, locals := 22 } : Room) D (kTy cI cJ cZ) [.ref (h0), .int (p0)] [(h0, .inr (0, [.ref (h1), .ref (h2), .int (hh)])), (h1, .inl (cI, 64, .inl (hg))), (h2, .inl (cI, 64, .inl (hq)))] sz (wHis h0 h1 h2 cI (hg, hq, hh)) (hq (hf_ix hh p0)) 0 0 := by
  refine Met.ofW (cc := cX0_targetFor) (maxL := 2) (ret := (some .int)) (by decide) rfl ?_
  intro p e s m args below meth c s₁ B hml hv
  obtain ⟨rfl, hsz, hP, hK, hD0⟩ := hv
  have hx := B.exec
  have hb := B.bytes
  have hr := B.returns
  have hts := atoms_spec (ws := wsX0_targetFor) B.pre
  have hown : s.vm.findClass RX0 = some m.cls := findClass_of_methodNamed B.named
  have hlocks := B.notSynchronized
  have kf15 := hts (.fieldLink RX0 15 "TargetRows$HistoryRows" "targets" "[I") (List.mem_cons_of_mem _ kw_106)
  subst hsz
  have hD := hD0.self (sz := s.heap.size)
  generalize hAe : va_A [(h0, .inr (0, [.ref (h1), .ref (h2), .int (hh)])), (h1, .inl (cI, 64, .inl (hg))), (h2, .inl (cI, 64, .inl (hq)))] s.heap.size = A at hD ⊢
  have hA : ∀ q : Nat, s.heap.size ≤ q → A q := fun q h => by rw [← hAe]; exact Or.inr h
  have hS : va_S A s.heap s.heap [] := va_S.rf
  have hP : va_P D vwCl [(h0, .inr (0, [.ref (h1), .ref (h2), .int (hh)])), (h1, .inl (cI, 64, .inl (hg))), (h2, .inl (cI, 64, .inl (hq)))] s.heap := hP
  have hD : va_D A [(h0, .inr (0, [.ref (h1), .ref (h2), .int (hh)])), (h1, .inl (cI, 64, .inl (hg))), (h2, .inl (cI, 64, .inl (hq)))] := hD
  have hl := lv_entry ([.ref (h0), .int (p0)]) (n := 2) (Nat.le_of_ble_eq_true rfl)
  rw [lg_entry_eq]
  generalize (lg_sl ([.ref (h0), .int (p0)]) ++ List.replicate (2 - (lg_sl ([.ref (h0), .int (p0)])).length) Slot.unset).toArray = ls at hl ⊢
  have hl : lv_has ls 2 [(0, .ref (h0)), (1, .int (p0))] := hl
  refine lv_aload_n hx hb dX0_targetFor_0 rfl (lv_at hl 0 rfl) ?_
  refine va_get (D := D) (ci := 0) (v := .ref (h2)) (C := RX0) (T := TX0) (N := 3) hx hb hts (fun w h => List.mem_cons_of_mem _ (hiX0 w h)) hown hK hP 0 rfl rfl 1 (by decide) kf15 (fun _ h9 => h9) rfl dX0_targetFor_1 ?_
  refine lv_aload_n hx hb dX0_targetFor_4 rfl (lv_at hl 0 rfl) ?_
  refine lv_iload_n hx hb dX0_targetFor_5 rfl (lv_at hl 1 rfl) ?_
  refine kc_i (wc := [(h0, .inr (0, [.ref (h1), .ref (h2), .int (hh)])), (h1, .inl (cI, 64, .inl (hg))), (h2, .inl (cI, 64, .inl (hq)))]) (wr := []) [0, 1, 2] [] rfl rfl (by decide) (by decide) hP hD hS hA (va_runV (As := [.int (p0)]) (rest := [.ref (h2)]) ⟨hx, hb, hml, hown, hts⟩ (c_X0_indexFor l D cI cJ cZ _ _ _ _ _ _ _ _) (cwV 1 hts (kw_V kw_226 kw_228 kw_3 kw_30 kw_229) rfl rfl rfl (by decide +kernel) ⟨Nat.le_of_ble_eq_true rfl, Nat.le_of_ble_eq_true rfl⟩) ⟨kP_blind, va_recv hK (hP.sub (ws' := [(h0, .inr (0, [.ref (h1), .ref (h2), .int (hh)])), (h1, .inl (cI, 64, .inl (hg))), (h2, .inl (cI, 64, .inl (hq)))]) [0, 1, 2] rfl) (ci := 0) (q0 := 0) rfl rfl, kP_at (hP.sub [0, 1, 2] rfl) hK (hD.sub [0, 1, 2] (by decide) rfl)⟩ rfl rfl hl.1 rfl (lv_room (Nat.le_of_ble_eq_true rfl)) dX0_targetFor_6 ⟨Nat.zero_le _, Nat.zero_le _⟩) (fun H locs hP hD hS => ?_)
  have hP := hP.sub (ws' := [(h0, .inr (0, [.ref (h1), .ref (h2), .int (hh)])), (h1, .inl (cI, 64, .inl (hg))), (h2, .inl (cI, 64, .inl (hq)))]) [0, 1, 2] rfl
  have hD := hD.sub (ws' := [(h0, .inr (0, [.ref (h1), .ref (h2), .int (hh)])), (h1, .inl (cI, 64, .inl (hg))), (h2, .inl (cI, 64, .inl (hq)))]) [0, 1, 2] (by decide) rfl
  refine ka_ild hx hb hK hP 2 0 rfl rfl (k := hf_ix (hh) (p0)) (rfl) (⟨hf_ix_lt _ _, by decide⟩) dX0_targetFor_9 ?_
  exact kr_i (rfl) hx hb hr hlocks hP hK hD hS (rfl) dX0_targetFor_10

set_option maxHeartbeats 4000000 in
set_option maxRecDepth 100000 in
/-- the row gets tag and target -/
theorem c_X0_put (l : Launch) (D : va_G) (cI cJ cZ : ClassId) (sz : Nat) (h0 h1 h2 : Nat) (hg hq : Fn) (hh : Int32) (p0 p1 : Int32) : KV l yX0_put wsX0_put ({ frames := 1, cells := 0, slots := 0, locals := 22 } : Room) D (kTy cI cJ cZ) [.ref (h0), .int (p0), .int (p1)] [(h0, .inr (0, [.ref (h1), .ref (h2), .int (hh)])), (h1, .inl (cI, 64, .inl (hg))), (h2, .inl (cI, 64, .inl (hq)))] sz (wHis h0 h1 h2 cI (hf_put (hg, hq, hh) p0 p1)) 0 0 := by
  refine Met.ofW (cc := cX0_put) (maxL := 4) (ret := none) (by decide) rfl ?_
  intro p e s m args below meth c s₁ B hml hv
  obtain ⟨rfl, hsz, hP, hK, hD0⟩ := hv
  have hx := B.exec
  have hb := B.bytes
  have hr := B.returns
  have hts := atoms_spec (ws := wsX0_put) B.pre
  have hown : s.vm.findClass RX0 = some m.cls := findClass_of_methodNamed B.named
  have hlocks := B.notSynchronized
  have kf15 := hts (.fieldLink RX0 15 "TargetRows$HistoryRows" "targets" "[I") (List.mem_cons_of_mem _ kw_106)
  have kf9 := hts (.fieldLink RX0 9 "TargetRows$HistoryRows" "tags" "[I") (List.mem_cons_of_mem _ kw_104)
  subst hsz
  have hD := hD0.self (sz := s.heap.size)
  generalize hAe : va_A [(h0, .inr (0, [.ref (h1), .ref (h2), .int (hh)])), (h1, .inl (cI, 64, .inl (hg))), (h2, .inl (cI, 64, .inl (hq)))] s.heap.size = A at hD ⊢
  have hA : ∀ q : Nat, s.heap.size ≤ q → A q := fun q h => by rw [← hAe]; exact Or.inr h
  have hS : va_S A s.heap s.heap [] := va_S.rf
  have hP : va_P D vwCl [(h0, .inr (0, [.ref (h1), .ref (h2), .int (hh)])), (h1, .inl (cI, 64, .inl (hg))), (h2, .inl (cI, 64, .inl (hq)))] s.heap := hP
  have hD : va_D A [(h0, .inr (0, [.ref (h1), .ref (h2), .int (hh)])), (h1, .inl (cI, 64, .inl (hg))), (h2, .inl (cI, 64, .inl (hq)))] := hD
  have hl := lv_entry ([.ref (h0), .int (p0), .int (p1)]) (n := 4) (Nat.le_of_ble_eq_true rfl)
  rw [lg_entry_eq]
  generalize (lg_sl ([.ref (h0), .int (p0), .int (p1)]) ++ List.replicate (4 - (lg_sl ([.ref (h0), .int (p0), .int (p1)])).length) Slot.unset).toArray = ls at hl ⊢
  have hl : lv_has ls 4 [(0, .ref (h0)), (1, .int (p0)), (2, .int (p1))] := hl
  refine lv_aload_n hx hb dX0_put_0 rfl (lv_at hl 0 rfl) ?_
  refine lv_iload_n hx hb dX0_put_1 rfl (lv_at hl 1 rfl) ?_
  refine kc_i (wc := [(h0, .inr (0, [.ref (h1), .ref (h2), .int (hh)])), (h1, .inl (cI, 64, .inl (hg))), (h2, .inl (cI, 64, .inl (hq)))]) (wr := []) [0, 1, 2] [] rfl rfl (by decide) (by decide) hP hD hS hA (va_runV (As := [.int (p0)]) (rest := []) ⟨hx, hb, hml, hown, hts⟩ (c_X0_indexFor l D cI cJ cZ _ _ _ _ _ _ _ _) (cwV 1 hts (kw_V kw_226 kw_228 kw_3 kw_30 kw_229) rfl rfl rfl (by decide +kernel) ⟨Nat.le_of_ble_eq_true rfl, Nat.le_of_ble_eq_true rfl⟩) ⟨kP_blind, va_recv hK (hP.sub (ws' := [(h0, .inr (0, [.ref (h1), .ref (h2), .int (hh)])), (h1, .inl (cI, 64, .inl (hg))), (h2, .inl (cI, 64, .inl (hq)))]) [0, 1, 2] rfl) (ci := 0) (q0 := 0) rfl rfl, kP_at (hP.sub [0, 1, 2] rfl) hK (hD.sub [0, 1, 2] (by decide) rfl)⟩ rfl rfl hl.1 rfl (lv_room (Nat.le_of_ble_eq_true rfl)) dX0_put_2 ⟨Nat.zero_le _, Nat.zero_le _⟩) (fun H locs hP hD hS => ?_)
  have hP := hP.sub (ws' := [(h0, .inr (0, [.ref (h1), .ref (h2), .int (hh)])), (h1, .inl (cI, 64, .inl (hg))), (h2, .inl (cI, 64, .inl (hq)))]) [0, 1, 2] rfl
  have hD := hD.sub (ws' := [(h0, .inr (0, [.ref (h1), .ref (h2), .int (hh)])), (h1, .inl (cI, 64, .inl (hg))), (h2, .inl (cI, 64, .inl (hq)))]) [0, 1, 2] (by decide) rfl
  refine lv_istore_n (lv' := [(3, .int (nI (hf_ix (hh) (p0)))), (0, .ref (h0)), (1, .int (p0)), (2, .int (p1))]) hx hb dX0_put_5 rfl hl (by decide) rfl (fun ls hl => ?_)
  refine lv_aload_n hx hb dX0_put_6 rfl (lv_at hl 1 rfl) ?_
  refine va_get (D := D) (ci := 0) (v := .ref (h1)) (C := RX0) (T := TX0) (N := 3) hx hb hts (fun w h => List.mem_cons_of_mem _ (hiX0 w h)) hown hK hP 0 rfl rfl 0 (by decide) kf9 (fun _ h9 => h9) rfl dX0_put_7 ?_
  refine lv_iload_n hx hb dX0_put_10 rfl (lv_at hl 0 rfl) ?_
  refine lv_iload_n hx hb dX0_put_11 rfl (lv_at hl 2 rfl) ?_
  refine kc_i (wc := []) (wr := [(h0, .inr (0, [.ref (h1), .ref (h2), .int (hh)])), (h1, .inl (cI, 64, .inl (hg))), (h2, .inl (cI, 64, .inl (hq)))]) [] [0, 1, 2] rfl rfl (by decide) (by decide) hP hD hS hA (va_runS (As := [.int (p0)]) (rest := [.int (nI (hf_ix (hh) (p0))), .ref (h1)]) ⟨hx, hb, hml, hown, hts⟩ (c_X0_tagOf l D cI cJ cZ _ _) (va_cwS 1 hts (kw_S kw_230 kw_231 kw_30 kw_232) rfl rfl rfl (by decide +kernel) ⟨Nat.le_of_ble_eq_true rfl, Nat.le_of_ble_eq_true rfl⟩) ⟨kP_blind, kP_at (hP.sub [] rfl) hK (hD.sub [] (by decide) rfl)⟩ rfl rfl hl.1 rfl (lv_room (Nat.le_of_ble_eq_true rfl)) dX0_put_12 ⟨Nat.zero_le _, Nat.zero_le _⟩) (fun H locs hP hD hS => ?_)
  have hP := hP.sub (ws' := [(h0, .inr (0, [.ref (h1), .ref (h2), .int (hh)])), (h1, .inl (cI, 64, .inl (hg))), (h2, .inl (cI, 64, .inl (hq)))]) [0, 1, 2] rfl
  have hD := hD.sub (ws' := [(h0, .inr (0, [.ref (h1), .ref (h2), .int (hh)])), (h1, .inl (cI, 64, .inl (hg))), (h2, .inl (cI, 64, .inl (hq)))]) [0, 1, 2] (by decide) rfl
  refine ka_ist hx hb hK hP hD hS 1 0 rfl rfl (k := hf_ix (hh) (p0)) (rfl) (⟨hf_ix_lt _ _, by decide⟩) dX0_put_15 (fun H locs hP hD hS => ?_)
  have hP : va_P D vwCl [(h0, .inr (0, [.ref (h1), .ref (h2), .int (hh)])), (h1, .inl (cI, 64, .inl (upd (hg) (hf_ix (hh) (p0)) (hf_tag (p0))))), (h2, .inl (cI, 64, .inl (hq)))] H := hP
  have hD : va_D A [(h0, .inr (0, [.ref (h1), .ref (h2), .int (hh)])), (h1, .inl (cI, 64, .inl (upd (hg) (hf_ix (hh) (p0)) (hf_tag (p0))))), (h2, .inl (cI, 64, .inl (hq)))] := hD
  refine lv_aload_n hx hb dX0_put_16 rfl (lv_at hl 1 rfl) ?_
  refine va_get (D := D) (ci := 0) (v := .ref (h2)) (C := RX0) (T := TX0) (N := 3) hx hb hts (fun w h => List.mem_cons_of_mem _ (hiX0 w h)) hown hK hP 0 rfl rfl 1 (by decide) kf15 (fun _ h9 => h9) rfl dX0_put_17 ?_
  refine lv_iload_n hx hb dX0_put_20 rfl (lv_at hl 0 rfl) ?_
  refine lv_iload_n hx hb dX0_put_21 rfl (lv_at hl 3 rfl) ?_
  refine ka_ist hx hb hK hP hD hS 2 0 rfl rfl (k := hf_ix (hh) (p0)) (rfl) (⟨hf_ix_lt _ _, by decide⟩) dX0_put_22 (fun H locs hP hD hS => ?_)
  have hP : va_P D vwCl [(h0, .inr (0, [.ref (h1), .ref (h2), .int (hh)])), (h1, .inl (cI, 64, .inl (upd (hg) (hf_ix (hh) (p0)) (hf_tag (p0))))), (h2, .inl (cI, 64, .inl (upd (hq) (hf_ix (hh) (p0)) (p1))))] H := hP
  have hD : va_D A [(h0, .inr (0, [.ref (h1), .ref (h2), .int (hh)])), (h1, .inl (cI, 64, .inl (upd (hg) (hf_ix (hh) (p0)) (hf_tag (p0))))), (h2, .inl (cI, 64, .inl (upd (hq) (hf_ix (hh) (p0)) (p1))))] := hD
  exact kr_v (rfl) hx hb hr hlocks hP hK hD hS trivial dX0_put_23

set_option maxHeartbeats 4000000 in
set_option maxRecDepth 100000 in
/-- the history goes on -/
theorem c_X0_remember (l : Launch) (D : va_G) (cI cJ cZ : ClassId) (sz : Nat) (h0 h1 h2 : Nat) (hg hq : Fn) (hh : Int32) (p0 : Int32) : KV l yX0_remember wsX0_remember ({ frames := 0, cells := 0, slots := 0, locals := 0 } : Room) D (kTy cI cJ cZ) [.ref (h0), .int (p0)] [(h0, .inr (0, [.ref (h1), .ref (h2), .int (hh)])), (h1, .inl (cI, 64, .inl (hg))), (h2, .inl (cI, 64, .inl (hq)))] sz (wHis h0 h1 h2 cI (hf_rem (hg, hq, hh) p0)) 0 0 := by
  refine Met.ofW (cc := cX0_remember) (maxL := 2) (ret := none) (by decide) rfl ?_
  intro p e s m args below meth c s₁ B hml hv
  obtain ⟨rfl, hsz, hP, hK, hD0⟩ := hv
  have hx := B.exec
  have hb := B.bytes
  have hr := B.returns
  have hts := atoms_spec (ws := wsX0_remember) B.pre
  have hown : s.vm.findClass RX0 = some m.cls := findClass_of_methodNamed B.named
  have hlocks := B.notSynchronized
  have kc35 := hts (.constant RX0 35 (16777215)) (List.mem_cons_of_mem _ kw_454)
  have kf31 := hts (.fieldLink RX0 31 "TargetRows$HistoryRows" "history" "I") (List.mem_cons_of_mem _ kw_108)
  subst hsz
  have hD := hD0.self (sz := s.heap.size)
  generalize hAe : va_A [(h0, .inr (0, [.ref (h1), .ref (h2), .int (hh)])), (h1, .inl (cI, 64, .inl (hg))), (h2, .inl (cI, 64, .inl (hq)))] s.heap.size = A at hD ⊢
  have hA : ∀ q : Nat, s.heap.size ≤ q → A q := fun q h => by rw [← hAe]; exact Or.inr h
  have hS : va_S A s.heap s.heap [] := va_S.rf
  have hP : va_P D vwCl [(h0, .inr (0, [.ref (h1), .ref (h2), .int (hh)])), (h1, .inl (cI, 64, .inl (hg))), (h2, .inl (cI, 64, .inl (hq)))] s.heap := hP
  have hD : va_D A [(h0, .inr (0, [.ref (h1), .ref (h2), .int (hh)])), (h1, .inl (cI, 64, .inl (hg))), (h2, .inl (cI, 64, .inl (hq)))] := hD
  have hl := lv_entry ([.ref (h0), .int (p0)]) (n := 2) (Nat.le_of_ble_eq_true rfl)
  rw [lg_entry_eq]
  generalize (lg_sl ([.ref (h0), .int (p0)]) ++ List.replicate (2 - (lg_sl ([.ref (h0), .int (p0)])).length) Slot.unset).toArray = ls at hl ⊢
  have hl : lv_has ls 2 [(0, .ref (h0)), (1, .int (p0))] := hl
  refine lv_aload_n hx hb dX0_remember_0 rfl (lv_at hl 0 rfl) ?_
  refine lv_aload_n hx hb dX0_remember_1 rfl (lv_at hl 0 rfl) ?_
  refine va_get (D := D) (ci := 0) (v := .int (hh)) (C := RX0) (T := TX0) (N := 3) hx hb hts (fun w h => List.mem_cons_of_mem _ (hiX0 w h)) hown hK hP 0 rfl rfl 2 (by decide) kf31 (fun _ h9 => h9) rfl dX0_remember_2 ?_
  refine lv_iconst (v := 3) hx hb dX0_remember_5 (by decide) ?_
  refine lv_ishl hx hb dX0_remember_6 ?_
  refine lv_iload_n hx hb dX0_remember_7 rfl (lv_at hl 1 rfl) ?_
  refine lv_iconst (v := 2) hx hb dX0_remember_8 (by decide) ?_
  refine lv_iushr (v := k_ush (p0) (2)) hx hb dX0_remember_9 rfl ?_
  refine lv_ixor hx hb dX0_remember_10 ?_
  refine lv_ldc (v := 16777215) hx hb hown kc35 dX0_remember_11 ?_
  refine lv_iand hx hb dX0_remember_13 ?_
  refine va_put (D := D) (ci := 0) (v := .int ((((hh) <<< ((3) &&& 31)) ^^^ (k_ush (p0) (2))) &&& (16777215))) (ty := .int) (C := RX0) (T := TX0) (N := 3) hx hb hts (fun w h => List.mem_cons_of_mem _ (hiX0 w h)) tyX0 tyX0_ok nmX0 hown hK hP hD hS 0 rfl rfl 2 (by decide) kf31 (fun _ h9 => h9) rfl (by decide +kernel) rfl rfl (Nat.le_of_ble_eq_true rfl) dX0_remember_14 (fun H locs hP hD hS => ?_)
  have hP : va_P D vwCl [(h0, .inr (0, [.ref (h1), .ref (h2), .int ((((hh) <<< ((3) &&& 31)) ^^^ (k_ush (p0) (2))) &&& (16777215))])), (h1, .inl (cI, 64, .inl (hg))), (h2, .inl (cI, 64, .inl (hq)))] H := hP
  have hD : va_D A [(h0, .inr (0, [.ref (h1), .ref (h2), .int ((((hh) <<< ((3) &&& 31)) ^^^ (k_ush (p0) (2))) &&& (16777215))])), (h1, .inl (cI, 64, .inl (hg))), (h2, .inl (cI, 64, .inl (hq)))] := hD
  exact kr_v (rfl) hx hb hr hlocks hP hK hD hS trivial dX0_remember_17
end
section
set_option maxHeartbeats 4000000 in
set_option maxRecDepth 100000 in
/-- a place of the ring -/
theorem c_X2_fromTop (l : Launch) (D : va_G) (cI cJ cZ : ClassId) (sz : Nat) (h0 h1 : Nat) (L : Nat) (rp : Fn) (rd : Nat) (ro ru : Int32) (k0 : Nat) (hk : k0 < rd) (hd : rd ≤ L) (hL : L < 2 ^ 16) : KI l yX2_fromTop wsX2_fromTop ({ frames := 0, cells := 0, slots := 0, locals := 0 } : Room) D (kTy cI cJ cZ) [.ref (h0), .int (nI k0)] [(h0, .inr (2, [.int (nI L), .int (nI (rd)), .int (ro), .int (ru), .ref (h1)])), (h1, .inl (cI, L, .inl (rp)))] sz (wRet h0 h1 cI L (rp, rd, ro, ru)) (rf_top (rp, rd, ro, ru) k0) 0 0 := by
  refine Met.ofW (cc := cX2_fromTop) (maxL := 2) (ret := (some .int)) (by decide) rfl ?_
  intro p e s m args below meth c s₁ B hml hv
  obtain ⟨rfl, hsz, hP, hK, hD0⟩ := hv
  have hx := B.exec
  have hb := B.bytes
  have hr := B.returns
  have hts := atoms_spec (ws := wsX2_fromTop) B.pre
  have hown : s.vm.findClass RX2 = some m.cls := findClass_of_methodNamed B.named
  have hlocks := B.notSynchronized
  have kf13 := hts (.fieldLink RX2 13 "TargetRows$Returns" "places" "[I") (List.mem_cons_of_mem _ kw_132)
  have kf17 := hts (.fieldLink RX2 17 "TargetRows$Returns" "depth" "I") (List.mem_cons_of_mem _ kw_125)
  subst hsz
  have hD := hD0.self (sz := s.heap.size)
  generalize hAe : va_A [(h0, .inr (2, [.int (nI L), .int (nI (rd)), .int (ro), .int (ru), .ref (h1)])), (h1, .inl (cI, L, .inl (rp)))] s.heap.size = A at hD ⊢
  have hA : ∀ q : Nat, s.heap.size ≤ q → A q := fun q h => by rw [← hAe]; exact Or.inr h
  have hS : va_S A s.heap s.heap [] := va_S.rf
  have hP : va_P D vwCl [(h0, .inr (2, [.int (nI L), .int (nI (rd)), .int (ro), .int (ru), .ref (h1)])), (h1, .inl (cI, L, .inl (rp)))] s.heap := hP
  have hD : va_D A [(h0, .inr (2, [.int (nI L), .int (nI (rd)), .int (ro), .int (ru), .ref (h1)])), (h1, .inl (cI, L, .inl (rp)))] := hD
  have hl := lv_entry ([.ref (h0), .int (nI k0)]) (n := 2) (Nat.le_of_ble_eq_true rfl)
  rw [lg_entry_eq]
  generalize (lg_sl ([.ref (h0), .int (nI k0)]) ++ List.replicate (2 - (lg_sl ([.ref (h0), .int (nI k0)])).length) Slot.unset).toArray = ls at hl ⊢
  have hl : lv_has ls 2 [(0, .ref (h0)), (1, .int (nI k0))] := hl
  refine lv_aload_n hx hb dX2_fromTop_0 rfl (lv_at hl 0 rfl) ?_
  refine va_get (D := D) (ci := 2) (v := .ref (h1)) (C := RX2) (T := TX2) (N := 5) hx hb hts (fun w h => List.mem_cons_of_mem _ (hiX2 w h)) hown hK hP 0 rfl rfl 4 (by decide) kf13 (fun _ h9 => h9) rfl dX2_fromTop_1 ?_
  refine lv_aload_n hx hb dX2_fromTop_4 rfl (lv_at hl 0 rfl) ?_
  refine va_get (D := D) (ci := 2) (v := .int (nI (rd))) (C := RX2) (T := TX2) (N := 5) hx hb hts (fun w h => List.mem_cons_of_mem _ (hiX2 w h)) hown hK hP 0 rfl rfl 1 (by decide) kf17 (fun _ h9 => h9) rfl dX2_fromTop_5 ?_
  refine lv_iconst (v := 1) hx hb dX2_fromTop_8 (by decide) ?_
  refine lv_isub hx hb dX2_fromTop_9 ?_
  refine kt_i (y := nI (rd - 1)) (pk_sub (b := 1) (by omega)) ?_
  refine lv_iload_n hx hb dX2_fromTop_10 rfl (lv_at hl 1 rfl) ?_
  refine lv_isub hx hb dX2_fromTop_11 ?_
  refine kt_i (y := nI (rd - 1 - k0)) (pk_sub (by omega)) ?_
  refine ka_ild hx hb hK hP 1 0 rfl rfl (k := rd - 1 - k0) (rfl) (⟨by omega, by omega⟩) dX2_fromTop_12 ?_
  exact kr_i (rfl) hx hb hr hlocks hP hK hD hS (rfl) dX2_fromTop_13

set_option maxHeartbeats 4000000 in
set_option maxRecDepth 100000 in
/-- the lowest place is lost -/
theorem c_X2_loseLowest (l : Launch) (D : va_G) (cI cJ cZ : ClassId) (sz : Nat) (h0 h1 : Nat) (L : Nat) (rp : Fn) (rd : Nat) (ro ru : Int32) (hd : rd ≤ L) (hL : L < 2 ^ 16) : KV l yX2_loseLowest wsX2_loseLowest ({ frames := 1, cells := 0, slots := 0, locals := 18 } : Room) D (kTy cI cJ cZ) [.ref (h0)] [(h0, .inr (2, [.int (nI L), .int (nI (rd)), .int (ro), .int (ru), .ref (h1)])), (h1, .inl (cI, L, .inl (rp)))] sz (wRet h0 h1 cI L (rf_lose (rp, rd, ro, ru))) 0 0 := by
  refine Met.ofW (cc := cX2_loseLowest) (maxL := 1) (ret := none) (by decide) rfl ?_
  intro p e s m args below meth c s₁ B hml hv
  obtain ⟨rfl, hsz, hP, hK, hD0⟩ := hv
  have hx := B.exec
  have hb := B.bytes
  have hr := B.returns
  have hts := atoms_spec (ws := wsX2_loseLowest) B.pre
  have hown : s.vm.findClass RX2 = some m.cls := findClass_of_methodNamed B.named
  have hlocks := B.notSynchronized
  have ai := hts (.initialized "java/lang/System") (List.mem_cons_of_mem _ kw_38)
  have al := hts (.methodLink RX2 29 arraycopyName) (List.mem_cons_of_mem _ kw_249)
  have an := hts (.native arraycopyName) (List.mem_cons_of_mem _ kw_251)
  have as_ := hts (.static arraycopyName) (List.mem_cons_of_mem _ kw_250)
  have kf13 := hts (.fieldLink RX2 13 "TargetRows$Returns" "places" "[I") (List.mem_cons_of_mem _ kw_132)
  have kf17 := hts (.fieldLink RX2 17 "TargetRows$Returns" "depth" "I") (List.mem_cons_of_mem _ kw_125)
  subst hsz
  have hD := hD0.self (sz := s.heap.size)
  generalize hAe : va_A [(h0, .inr (2, [.int (nI L), .int (nI (rd)), .int (ro), .int (ru), .ref (h1)])), (h1, .inl (cI, L, .inl (rp)))] s.heap.size = A at hD ⊢
  have hA : ∀ q : Nat, s.heap.size ≤ q → A q := fun q h => by rw [← hAe]; exact Or.inr h
  have hS : va_S A s.heap s.heap [] := va_S.rf
  have hP : va_P D vwCl [(h0, .inr (2, [.int (nI L), .int (nI (rd)), .int (ro), .int (ru), .ref (h1)])), (h1, .inl (cI, L, .inl (rp)))] s.heap := hP
  have hD : va_D A [(h0, .inr (2, [.int (nI L), .int (nI (rd)), .int (ro), .int (ru), .ref (h1)])), (h1, .inl (cI, L, .inl (rp)))] := hD
  have hl := lv_entry ([.ref (h0)]) (n := 1) (Nat.le_of_ble_eq_true rfl)
  rw [lg_entry_eq]
  generalize (lg_sl ([.ref (h0)]) ++ List.replicate (1 - (lg_sl ([.ref (h0)])).length) Slot.unset).toArray = ls at hl ⊢
  have hl : lv_has ls 1 [(0, .ref (h0))] := hl
  refine lv_aload_n hx hb dX2_loseLowest_0 rfl (lv_at hl 0 rfl) ?_
  refine va_get (D := D) (ci := 2) (v := .int (nI (rd))) (C := RX2) (T := TX2) (N := 5) hx hb hts (fun w h => List.mem_cons_of_mem _ (hiX2 w h)) hown hK hP 0 rfl rfl 1 (by decide) kf17 (fun _ h9 => h9) rfl dX2_loseLowest_1 ?_
  refine lv_if_le (tgt := 34) hx hb dX2_loseLowest_4 (by decide) (fun c_4 => ?_) (fun c_4 => ?_)
  ·
    have hd0 : rd = 0 := by
      rcases Nat.eq_zero_or_pos rd with q | q
      · exact q
      · exact absurd c_4 (nI_nle q (by omega))
    exact kr_v (congrArg (wRet h0 h1 cI L ) (show ((rp, rd, ro, ru) : Rs) = rf_lose (rp, rd, ro, ru) from by simp only [rf_lose, if_pos hd0])) hx hb hr hlocks hP hK hD hS trivial dX2_loseLowest_34
  ·
    have hd0 : rd ≠ 0 := fun q => c_4 (by rw [q]; decide)
    refine lv_aload_n hx hb dX2_loseLowest_7 rfl (lv_at hl 0 rfl) ?_
    refine lv_dup hx hb dX2_loseLowest_8 rfl ?_
    refine va_get (D := D) (ci := 2) (v := .int (nI (rd))) (C := RX2) (T := TX2) (N := 5) hx hb hts (fun w h => List.mem_cons_of_mem _ (hiX2 w h)) hown hK hP 0 rfl rfl 1 (by decide) kf17 (fun _ h9 => h9) rfl dX2_loseLowest_9 ?_
    refine lv_iconst (v := 1) hx hb dX2_loseLowest_12 (by decide) ?_
    refine lv_isub hx hb dX2_loseLowest_13 ?_
    refine kt_i (y := nI (rd - 1)) (pk_sub (b := 1) (by omega)) ?_
    refine va_put (D := D) (ci := 2) (v := .int (nI (rd - 1))) (ty := .int) (C := RX2) (T := TX2) (N := 5) hx hb hts (fun w h => List.mem_cons_of_mem _ (hiX2 w h)) tyX2 tyX2_ok nmX2 hown hK hP hD hS 0 rfl rfl 1 (by decide) kf17 (fun _ h9 => h9) rfl (by decide +kernel) rfl rfl (Nat.le_of_ble_eq_true rfl) dX2_loseLowest_14 (fun H locs hP hD hS => ?_)
    have hP : va_P D vwCl [(h0, .inr (2, [.int (nI L), .int (nI (rd - 1)), .int (ro), .int (ru), .ref (h1)])), (h1, .inl (cI, L, .inl (rp)))] H := hP
    have hD : va_D A [(h0, .inr (2, [.int (nI L), .int (nI (rd - 1)), .int (ro), .int (ru), .ref (h1)])), (h1, .inl (cI, L, .inl (rp)))] := hD
    refine lv_aload_n hx hb dX2_loseLowest_17 rfl (lv_at hl 0 rfl) ?_
    refine va_get (D := D) (ci := 2) (v := .ref (h1)) (C := RX2) (T := TX2) (N := 5) hx hb hts (fun w h => List.mem_cons_of_mem _ (hiX2 w h)) hown hK hP 0 rfl rfl 4 (by decide) kf13 (fun _ h9 => h9) rfl dX2_loseLowest_18 ?_
    refine lv_iconst (v := 1) hx hb dX2_loseLowest_21 (by decide) ?_
    refine lv_aload_n hx hb dX2_loseLowest_22 rfl (lv_at hl 0 rfl) ?_
    refine va_get (D := D) (ci := 2) (v := .ref (h1)) (C := RX2) (T := TX2) (N := 5) hx hb hts (fun w h => List.mem_cons_of_mem _ (hiX2 w h)) hown hK hP 0 rfl rfl 4 (by decide) kf13 (fun _ h9 => h9) rfl dX2_loseLowest_23 ?_
    refine lv_iconst (v := 0) hx hb dX2_loseLowest_26 (by decide) ?_
    refine lv_aload_n hx hb dX2_loseLowest_27 rfl (lv_at hl 0 rfl) ?_
    refine va_get (D := D) (ci := 2) (v := .int (nI (rd - 1))) (C := RX2) (T := TX2) (N := 5) hx hb hts (fun w h => List.mem_cons_of_mem _ (hiX2 w h)) hown hK hP 0 rfl rfl 1 (by decide) kf17 (fun _ h9 => h9) rfl dX2_loseLowest_28 ?_
    refine ka_cpy hx hb (by rw [hml]; exact hl.1.symm) hown al an as_ ai hK hP hD hS 1 1 0 0 rfl rfl rfl rfl (ks := 1) (kd := 0) (kn := rd - 1) (rfl) (rfl) (rfl) (⟨by omega, by omega⟩) (⟨by omega, by omega⟩) (Nat.le_of_ble_eq_true rfl) (Nat.le_of_ble_eq_true rfl) dX2_loseLowest_31 (fun H locs hP hD hS => ?_)
    have hP : va_P D vwCl [(h0, .inr (2, [.int (nI L), .int (nI (rd - 1)), .int (ro), .int (ru), .ref (h1)])), (h1, .inl (cI, L, .inl (va_cpy (rp) (rp) (1) (0) (rd - 1))))] H := hP
    have hD : va_D A [(h0, .inr (2, [.int (nI L), .int (nI (rd - 1)), .int (ro), .int (ru), .ref (h1)])), (h1, .inl (cI, L, .inl (va_cpy (rp) (rp) (1) (0) (rd - 1))))] := hD
    exact kr_v (congrArg (wRet h0 h1 cI L ) (show ((va_cpy (rp) (rp) (1) (0) (rd - 1), rd - 1, ro, ru) : Rs) = rf_lose (rp, rd, ro, ru) from by simp only [rf_lose, if_neg hd0])) hx hb hr hlocks hP hK hD hS trivial dX2_loseLowest_34

set_option maxHeartbeats 4000000 in
set_option maxRecDepth 100000 in
/-- pushed -/
theorem c_X2_push (l : Launch) (D : va_G) (cI cJ cZ : ClassId) (sz : Nat) (h0 h1 : Nat) (L : Nat) (rp : Fn) (rd : Nat) (ro ru : Int32) (p0 : Int32) (hd : rd ≤ L) (hL : L < 2 ^ 16) : KV l yX2_push wsX2_push ({ frames := 2, cells := 0, slots := 0, locals := 38 } : Room) D (kTy cI cJ cZ) [.ref (h0), .int (p0)] [(h0, .inr (2, [.int (nI L), .int (nI (rd)), .int (ro), .int (ru), .ref (h1)])), (h1, .inl (cI, L, .inl (rp)))] sz (wRet h0 h1 cI L (rf_push L (rp, rd, ro, ru) p0)) 0 0 := by
  refine Met.ofW (cc := cX2_push) (maxL := 2) (ret := none) (by decide) rfl ?_
  intro p e s m args below meth c s₁ B hml hv
  obtain ⟨rfl, hsz, hP, hK, hD0⟩ := hv
  have hx := B.exec
  have hb := B.bytes
  have hr := B.returns
  have hts := atoms_spec (ws := wsX2_push) B.pre
  have hown : s.vm.findClass RX2 = some m.cls := findClass_of_methodNamed B.named
  have hlocks := B.notSynchronized
  have kf13 := hts (.fieldLink RX2 13 "TargetRows$Returns" "places" "[I") (List.mem_cons_of_mem _ kw_132)
  have kf17 := hts (.fieldLink RX2 17 "TargetRows$Returns" "depth" "I") (List.mem_cons_of_mem _ kw_125)
  have kf20 := hts (.fieldLink RX2 20 "TargetRows$Returns" "overflows" "I") (List.mem_cons_of_mem _ kw_128)
  have kf7 := hts (.fieldLink RX2 7 "TargetRows$Returns" "limit" "I") (List.mem_cons_of_mem _ kw_123)
  subst hsz
  have hD := hD0.self (sz := s.heap.size)
  generalize hAe : va_A [(h0, .inr (2, [.int (nI L), .int (nI (rd)), .int (ro), .int (ru), .ref (h1)])), (h1, .inl (cI, L, .inl (rp)))] s.heap.size = A at hD ⊢
  have hA : ∀ q : Nat, s.heap.size ≤ q → A q := fun q h => by rw [← hAe]; exact Or.inr h
  have hS : va_S A s.heap s.heap [] := va_S.rf
  have hP : va_P D vwCl [(h0, .inr (2, [.int (nI L), .int (nI (rd)), .int (ro), .int (ru), .ref (h1)])), (h1, .inl (cI, L, .inl (rp)))] s.heap := hP
  have hD : va_D A [(h0, .inr (2, [.int (nI L), .int (nI (rd)), .int (ro), .int (ru), .ref (h1)])), (h1, .inl (cI, L, .inl (rp)))] := hD
  have hl := lv_entry ([.ref (h0), .int (p0)]) (n := 2) (Nat.le_of_ble_eq_true rfl)
  rw [lg_entry_eq]
  generalize (lg_sl ([.ref (h0), .int (p0)]) ++ List.replicate (2 - (lg_sl ([.ref (h0), .int (p0)])).length) Slot.unset).toArray = ls at hl ⊢
  have hl : lv_has ls 2 [(0, .ref (h0)), (1, .int (p0))] := hl
  refine lv_aload_n hx hb dX2_push_0 rfl (lv_at hl 0 rfl) ?_
  refine va_get (D := D) (ci := 2) (v := .int (nI (rd))) (C := RX2) (T := TX2) (N := 5) hx hb hts (fun w h => List.mem_cons_of_mem _ (hiX2 w h)) hown hK hP 0 rfl rfl 1 (by decide) kf17 (fun _ h9 => h9) rfl dX2_push_1 ?_
  refine lv_aload_n hx hb dX2_push_4 rfl (lv_at hl 0 rfl) ?_
  refine va_get (D := D) (ci := 2) (v := .int (nI L)) (C := RX2) (T := TX2) (N := 5) hx hb hts (fun w h => List.mem_cons_of_mem _ (hiX2 w h)) hown hK hP 0 rfl rfl 0 (by decide) kf7 (fun _ h9 => h9) rfl dX2_push_5 ?_
  refine lv_icmp_ne (tgt := 25) hx hb dX2_push_8 (by decide) (fun c_8 => ?_) (fun c_8 => ?_)
  ·
    have hne : rd ≠ L := fun q => c_8 (by rw [q])
    have hlt : rd < L := by omega
    refine lv_aload_n hx hb dX2_push_25 rfl (lv_at hl 0 rfl) ?_
    refine va_get (D := D) (ci := 2) (v := .int (nI (rd))) (C := RX2) (T := TX2) (N := 5) hx hb hts (fun w h => List.mem_cons_of_mem _ (hiX2 w h)) hown hK hP 0 rfl rfl 1 (by decide) kf17 (fun _ h9 => h9) rfl dX2_push_26 ?_
    refine lv_aload_n hx hb dX2_push_29 rfl (lv_at hl 0 rfl) ?_
    refine va_get (D := D) (ci := 2) (v := .int (nI L)) (C := RX2) (T := TX2) (N := 5) hx hb hts (fun w h => List.mem_cons_of_mem _ (hiX2 w h)) hown hK hP 0 rfl rfl 0 (by decide) kf7 (fun _ h9 => h9) rfl dX2_push_30 ?_
    refine lv_icmp_ge (tgt := 56) hx hb dX2_push_33 (by decide) (fun c_33 => absurd c_33 (nI_ge hlt (by omega))) (fun c_33 => ?_)
    refine lv_aload_n hx hb dX2_push_36 rfl (lv_at hl 0 rfl) ?_
    refine va_get (D := D) (ci := 2) (v := .ref (h1)) (C := RX2) (T := TX2) (N := 5) hx hb hts (fun w h => List.mem_cons_of_mem _ (hiX2 w h)) hown hK hP 0 rfl rfl 4 (by decide) kf13 (fun _ h9 => h9) rfl dX2_push_37 ?_
    refine lv_aload_n hx hb dX2_push_40 rfl (lv_at hl 0 rfl) ?_
    refine va_get (D := D) (ci := 2) (v := .int (nI (rd))) (C := RX2) (T := TX2) (N := 5) hx hb hts (fun w h => List.mem_cons_of_mem _ (hiX2 w h)) hown hK hP 0 rfl rfl 1 (by decide) kf17 (fun _ h9 => h9) rfl dX2_push_41 ?_
    refine lv_iload_n hx hb dX2_push_44 rfl (lv_at hl 1 rfl) ?_
    refine ka_ist hx hb hK hP hD hS 1 0 rfl rfl (k := rd) (rfl) (⟨hlt, by omega⟩) dX2_push_45 (fun H locs hP hD hS => ?_)
    have hP : va_P D vwCl [(h0, .inr (2, [.int (nI L), .int (nI (rd)), .int (ro), .int (ru), .ref (h1)])), (h1, .inl (cI, L, .inl (upd (rp) (rd) (p0))))] H := hP
    have hD : va_D A [(h0, .inr (2, [.int (nI L), .int (nI (rd)), .int (ro), .int (ru), .ref (h1)])), (h1, .inl (cI, L, .inl (upd (rp) (rd) (p0))))] := hD
    refine lv_aload_n hx hb dX2_push_46 rfl (lv_at hl 0 rfl) ?_
    refine lv_dup hx hb dX2_push_47 rfl ?_
    refine va_get (D := D) (ci := 2) (v := .int (nI (rd))) (C := RX2) (T := TX2) (N := 5) hx hb hts (fun w h => List.mem_cons_of_mem _ (hiX2 w h)) hown hK hP 0 rfl rfl 1 (by decide) kf17 (fun _ h9 => h9) rfl dX2_push_48 ?_
    refine lv_iconst (v := 1) hx hb dX2_push_51 (by decide) ?_
    refine lv_iadd hx hb dX2_push_52 ?_
    refine kt_i (y := nI (rd + 1)) (nI_1 _) ?_
    refine va_put (D := D) (ci := 2) (v := .int (nI (rd + 1))) (ty := .int) (C := RX2) (T := TX2) (N := 5) hx hb hts (fun w h => List.mem_cons_of_mem _ (hiX2 w h)) tyX2 tyX2_ok nmX2 hown hK hP hD hS 0 rfl rfl 1 (by decide) kf17 (fun _ h9 => h9) rfl (by decide +kernel) rfl rfl (Nat.le_of_ble_eq_true rfl) dX2_push_53 (fun H locs hP hD hS => ?_)
    have hP : va_P D vwCl [(h0, .inr (2, [.int (nI L), .int (nI (rd + 1)), .int (ro), .int (ru), .ref (h1)])), (h1, .inl (cI, L, .inl (upd (rp) (rd) (p0))))] H := hP
    have hD : va_D A [(h0, .inr (2, [.int (nI L), .int (nI (rd + 1)), .int (ro), .int (ru), .ref (h1)])), (h1, .inl (cI, L, .inl (upd (rp) (rd) (p0))))] := hD
    exact kr_v (congrArg (wRet h0 h1 cI L ) (show ((upd (rp) (rd) (p0), rd + 1, ro, ru) : Rs) = rf_push L (rp, rd, ro, ru) p0 from by simp only [rf_push, rf_pre, rf_add, if_neg hne, if_pos hlt])) hx hb hr hlocks hP hK hD hS trivial dX2_push_56
  ·
    have heq : rd = L := (nI_eq (by omega) (by omega)).mp c_8
    have hd1 : (rf_lose (rp, rd, (ro) + (1), ru)).2.1 ≤ L := Nat.le_trans (rf_lose_le _) hd
    refine lv_aload_n hx hb dX2_push_11 rfl (lv_at hl 0 rfl) ?_
    refine lv_dup hx hb dX2_push_12 rfl ?_
    refine va_get (D := D) (ci := 2) (v := .int (ro)) (C := RX2) (T := TX2) (N := 5) hx hb hts (fun w h => List.mem_cons_of_mem _ (hiX2 w h)) hown hK hP 0 rfl rfl 2 (by decide) kf20 (fun _ h9 => h9) rfl dX2_push_13 ?_
    refine lv_iconst (v := 1) hx hb dX2_push_16 (by decide) ?_
    refine lv_iadd hx hb dX2_push_17 ?_
    refine va_put (D := D) (ci := 2) (v := .int ((ro) + (1))) (ty := .int) (C := RX2) (T := TX2) (N := 5) hx hb hts (fun w h => List.mem_cons_of_mem _ (hiX2 w h)) tyX2 tyX2_ok nmX2 hown hK hP hD hS 0 rfl rfl 2 (by decide) kf20 (fun _ h9 => h9) rfl (by decide +kernel) rfl rfl (Nat.le_of_ble_eq_true rfl) dX2_push_18 (fun H locs hP hD hS => ?_)
    have hP : va_P D vwCl [(h0, .inr (2, [.int (nI L), .int (nI (rd)), .int ((ro) + (1)), .int (ru), .ref (h1)])), (h1, .inl (cI, L, .inl (rp)))] H := hP
    have hD : va_D A [(h0, .inr (2, [.int (nI L), .int (nI (rd)), .int ((ro) + (1)), .int (ru), .ref (h1)])), (h1, .inl (cI, L, .inl (rp)))] := hD
    refine lv_aload_n hx hb dX2_push_21 rfl (lv_at hl 0 rfl) ?_
    refine kc_v (wc := [(h0, .inr (2, [.int (nI L), .int (nI (rd)), .int ((ro) + (1)), .int (ru), .ref (h1)])), (h1, .inl (cI, L, .inl (rp)))]) (wr := []) [0, 1] [] rfl rfl (by decide) (by decide) hP hD hS hA (va_runV (As := []) (rest := []) ⟨hx, hb, hml, hown, hts⟩ (c_X2_loseLowest l D cI cJ cZ _ _ _ _ _ _ _ _ hd hL) (cwV 0 hts (kw_V kw_364 kw_366 kw_7 kw_31 kw_367) rfl rfl rfl (by decide +kernel) ⟨Nat.le_of_ble_eq_true rfl, Nat.le_of_ble_eq_true rfl⟩) ⟨kP_blind, va_recv hK (hP.sub (ws' := [(h0, .inr (2, [.int (nI L), .int (nI (rd)), .int ((ro) + (1)), .int (ru), .ref (h1)])), (h1, .inl (cI, L, .inl (rp)))]) [0, 1] rfl) (ci := 2) (q0 := 0) rfl rfl, kP_at (hP.sub [0, 1] rfl) hK (hD.sub [0, 1] (by decide) rfl)⟩ rfl rfl hl.1 rfl (lv_room (Nat.le_of_ble_eq_true rfl)) dX2_push_22 ⟨Nat.zero_le _, Nat.zero_le _⟩) (fun H locs hP hD hS => ?_)
    have hP := hP.sub (ws' := [(h0, .inr (2, [.int (nI L), .int (nI ((rf_lose (rp, rd, (ro) + (1), ru)).2.1)), .int ((rf_lose (rp, rd, (ro) + (1), ru)).2.2.1), .int ((rf_lose (rp, rd, (ro) + (1), ru)).2.2.2), .ref (h1)])), (h1, .inl (cI, L, .inl ((rf_lose (rp, rd, (ro) + (1), ru)).1)))]) [0, 1] rfl
    have hD := hD.sub (ws' := [(h0, .inr (2, [.int (nI L), .int (nI ((rf_lose (rp, rd, (ro) + (1), ru)).2.1)), .int ((rf_lose (rp, rd, (ro) + (1), ru)).2.2.1), .int ((rf_lose (rp, rd, (ro) + (1), ru)).2.2.2), .ref (h1)])), (h1, .inl (cI, L, .inl ((rf_lose (rp, rd, (ro) + (1), ru)).1)))]) [0, 1] (by decide) rfl
    refine lv_aload_n hx hb dX2_push_25 rfl (lv_at hl 0 rfl) ?_
    refine va_get (D := D) (ci := 2) (v := .int (nI ((rf_lose (rp, rd, (ro) + (1), ru)).2.1))) (C := RX2) (T := TX2) (N := 5) hx hb hts (fun w h => List.mem_cons_of_mem _ (hiX2 w h)) hown hK hP 0 rfl rfl 1 (by decide) kf17 (fun _ h9 => h9) rfl dX2_push_26 ?_
    refine lv_aload_n hx hb dX2_push_29 rfl (lv_at hl 0 rfl) ?_
    refine va_get (D := D) (ci := 2) (v := .int (nI L)) (C := RX2) (T := TX2) (N := 5) hx hb hts (fun w h => List.mem_cons_of_mem _ (hiX2 w h)) hown hK hP 0 rfl rfl 0 (by decide) kf7 (fun _ h9 => h9) rfl dX2_push_30 ?_
    refine lv_icmp_ge (tgt := 56) hx hb dX2_push_33 (by decide) (fun c_33 => ?_) (fun c_33 => ?_)
    ·
      have hge : ¬ ((rf_lose (rp, rd, (ro) + (1), ru)).2.1) < L := fun q => absurd c_33 (nI_ge q (by omega))
      exact kr_v (congrArg (wRet h0 h1 cI L ) (show (((rf_lose (rp, rd, (ro) + (1), ru)).1, (rf_lose (rp, rd, (ro) + (1), ru)).2.1, (rf_lose (rp, rd, (ro) + (1), ru)).2.2.1, (rf_lose (rp, rd, (ro) + (1), ru)).2.2.2) : Rs) = rf_push L (rp, rd, ro, ru) p0 from by simp only [rf_push, rf_pre, rf_add, if_pos heq, if_neg hge])) hx hb hr hlocks hP hK hD hS trivial dX2_push_56
    ·
      have hlt : ((rf_lose (rp, rd, (ro) + (1), ru)).2.1) < L := Nat.lt_of_not_le (fun q => c_33 (nI_le q (by omega)))
      refine lv_aload_n hx hb dX2_push_36 rfl (lv_at hl 0 rfl) ?_
      refine va_get (D := D) (ci := 2) (v := .ref (h1)) (C := RX2) (T := TX2) (N := 5) hx hb hts (fun w h => List.mem_cons_of_mem _ (hiX2 w h)) hown hK hP 0 rfl rfl 4 (by decide) kf13 (fun _ h9 => h9) rfl dX2_push_37 ?_
      refine lv_aload_n hx hb dX2_push_40 rfl (lv_at hl 0 rfl) ?_
      refine va_get (D := D) (ci := 2) (v := .int (nI ((rf_lose (rp, rd, (ro) + (1), ru)).2.1))) (C := RX2) (T := TX2) (N := 5) hx hb hts (fun w h => List.mem_cons_of_mem _ (hiX2 w h)) hown hK hP 0 rfl rfl 1 (by decide) kf17 (fun _ h9 => h9) rfl dX2_push_41 ?_
      refine lv_iload_n hx hb dX2_push_44 rfl (lv_at hl 1 rfl) ?_
      refine ka_ist hx hb hK hP hD hS 1 0 rfl rfl (k := (rf_lose (rp, rd, (ro) + (1), ru)).2.1) (rfl) (⟨hlt, by omega⟩) dX2_push_45 (fun H locs hP hD hS => ?_)
      have hP : va_P D vwCl [(h0, .inr (2, [.int (nI L), .int (nI ((rf_lose (rp, rd, (ro) + (1), ru)).2.1)), .int ((rf_lose (rp, rd, (ro) + (1), ru)).2.2.1), .int ((rf_lose (rp, rd, (ro) + (1), ru)).2.2.2), .ref (h1)])), (h1, .inl (cI, L, .inl (upd ((rf_lose (rp, rd, (ro) + (1), ru)).1) ((rf_lose (rp, rd, (ro) + (1), ru)).2.1) (p0))))] H := hP
      have hD : va_D A [(h0, .inr (2, [.int (nI L), .int (nI ((rf_lose (rp, rd, (ro) + (1), ru)).2.1)), .int ((rf_lose (rp, rd, (ro) + (1), ru)).2.2.1), .int ((rf_lose (rp, rd, (ro) + (1), ru)).2.2.2), .ref (h1)])), (h1, .inl (cI, L, .inl (upd ((rf_lose (rp, rd, (ro) + (1), ru)).1) ((rf_lose (rp, rd, (ro) + (1), ru)).2.1) (p0))))] := hD
      refine lv_aload_n hx hb dX2_push_46 rfl (lv_at hl 0 rfl) ?_
      refine lv_dup hx hb dX2_push_47 rfl ?_
      refine va_get (D := D) (ci := 2) (v := .int (nI ((rf_lose (rp, rd, (ro) + (1), ru)).2.1))) (C := RX2) (T := TX2) (N := 5) hx hb hts (fun w h => List.mem_cons_of_mem _ (hiX2 w h)) hown hK hP 0 rfl rfl 1 (by decide) kf17 (fun _ h9 => h9) rfl dX2_push_48 ?_
      refine lv_iconst (v := 1) hx hb dX2_push_51 (by decide) ?_
      refine lv_iadd hx hb dX2_push_52 ?_
      refine kt_i (y := nI ((rf_lose (rp, rd, (ro) + (1), ru)).2.1 + 1)) (nI_1 _) ?_
      refine va_put (D := D) (ci := 2) (v := .int (nI ((rf_lose (rp, rd, (ro) + (1), ru)).2.1 + 1))) (ty := .int) (C := RX2) (T := TX2) (N := 5) hx hb hts (fun w h => List.mem_cons_of_mem _ (hiX2 w h)) tyX2 tyX2_ok nmX2 hown hK hP hD hS 0 rfl rfl 1 (by decide) kf17 (fun _ h9 => h9) rfl (by decide +kernel) rfl rfl (Nat.le_of_ble_eq_true rfl) dX2_push_53 (fun H locs hP hD hS => ?_)
      have hP : va_P D vwCl [(h0, .inr (2, [.int (nI L), .int (nI ((rf_lose (rp, rd, (ro) + (1), ru)).2.1 + 1)), .int ((rf_lose (rp, rd, (ro) + (1), ru)).2.2.1), .int ((rf_lose (rp, rd, (ro) + (1), ru)).2.2.2), .ref (h1)])), (h1, .inl (cI, L, .inl (upd ((rf_lose (rp, rd, (ro) + (1), ru)).1) ((rf_lose (rp, rd, (ro) + (1), ru)).2.1) (p0))))] H := hP
      have hD : va_D A [(h0, .inr (2, [.int (nI L), .int (nI ((rf_lose (rp, rd, (ro) + (1), ru)).2.1 + 1)), .int ((rf_lose (rp, rd, (ro) + (1), ru)).2.2.1), .int ((rf_lose (rp, rd, (ro) + (1), ru)).2.2.2), .ref (h1)])), (h1, .inl (cI, L, .inl (upd ((rf_lose (rp, rd, (ro) + (1), ru)).1) ((rf_lose (rp, rd, (ro) + (1), ru)).2.1) (p0))))] := hD
      exact kr_v (congrArg (wRet h0 h1 cI L ) (show ((upd ((rf_lose (rp, rd, (ro) + (1), ru)).1) ((rf_lose (rp, rd, (ro) + (1), ru)).2.1) (p0), (rf_lose (rp, rd, (ro) + (1), ru)).2.1 + 1, (rf_lose (rp, rd, (ro) + (1), ru)).2.2.1, (rf_lose (rp, rd, (ro) + (1), ru)).2.2.2) : Rs) = rf_push L (rp, rd, ro, ru) p0 from by simp only [rf_push, rf_pre, rf_add, if_pos heq, if_pos hlt])) hx hb hr hlocks hP hK hD hS trivial dX2_push_56

set_option maxHeartbeats 4000000 in
set_option maxRecDepth 100000 in
/-- popped -/
theorem c_X2_pop (l : Launch) (D : va_G) (cI cJ cZ : ClassId) (sz : Nat) (h0 h1 : Nat) (L : Nat) (rp : Fn) (rd : Nat) (ro ru : Int32) (hd : rd ≤ L) (hL : L < 2 ^ 16) : KV l yX2_pop wsX2_pop ({ frames := 0, cells := 0, slots := 0, locals := 0 } : Room) D (kTy cI cJ cZ) [.ref (h0)] [(h0, .inr (2, [.int (nI L), .int (nI (rd)), .int (ro), .int (ru), .ref (h1)])), (h1, .inl (cI, L, .inl (rp)))] sz (wRet h0 h1 cI L (rf_pop (rp, rd, ro, ru))) 0 0 := by
  refine Met.ofW (cc := cX2_pop) (maxL := 1) (ret := none) (by decide) rfl ?_
  intro p e s m args below meth c s₁ B hml hv
  obtain ⟨rfl, hsz, hP, hK, hD0⟩ := hv
  have hx := B.exec
  have hb := B.bytes
  have hr := B.returns
  have hts := atoms_spec (ws := wsX2_pop) B.pre
  have hown : s.vm.findClass RX2 = some m.cls := findClass_of_methodNamed B.named
  have hlocks := B.notSynchronized
  have kf17 := hts (.fieldLink RX2 17 "TargetRows$Returns" "depth" "I") (List.mem_cons_of_mem _ kw_125)
  have kf26 := hts (.fieldLink RX2 26 "TargetRows$Returns" "underflows" "I") (List.mem_cons_of_mem _ kw_130)
  subst hsz
  have hD := hD0.self (sz := s.heap.size)
  generalize hAe : va_A [(h0, .inr (2, [.int (nI L), .int (nI (rd)), .int (ro), .int (ru), .ref (h1)])), (h1, .inl (cI, L, .inl (rp)))] s.heap.size = A at hD ⊢
  have hA : ∀ q : Nat, s.heap.size ≤ q → A q := fun q h => by rw [← hAe]; exact Or.inr h
  have hS : va_S A s.heap s.heap [] := va_S.rf
  have hP : va_P D vwCl [(h0, .inr (2, [.int (nI L), .int (nI (rd)), .int (ro), .int (ru), .ref (h1)])), (h1, .inl (cI, L, .inl (rp)))] s.heap := hP
  have hD : va_D A [(h0, .inr (2, [.int (nI L), .int (nI (rd)), .int (ro), .int (ru), .ref (h1)])), (h1, .inl (cI, L, .inl (rp)))] := hD
  have hl := lv_entry ([.ref (h0)]) (n := 1) (Nat.le_of_ble_eq_true rfl)
  rw [lg_entry_eq]
  generalize (lg_sl ([.ref (h0)]) ++ List.replicate (1 - (lg_sl ([.ref (h0)])).length) Slot.unset).toArray = ls at hl ⊢
  have hl : lv_has ls 1 [(0, .ref (h0))] := hl
  refine lv_aload_n hx hb dX2_pop_0 rfl (lv_at hl 0 rfl) ?_
  refine va_get (D := D) (ci := 2) (v := .int (nI (rd))) (C := RX2) (T := TX2) (N := 5) hx hb hts (fun w h => List.mem_cons_of_mem _ (hiX2 w h)) hown hK hP 0 rfl rfl 1 (by decide) kf17 (fun _ h9 => h9) rfl dX2_pop_1 ?_
  refine lv_if_ne (tgt := 20) hx hb dX2_pop_4 (by decide) (fun c_4 => ?_) (fun c_4 => ?_)
  ·
    have hd0 : rd ≠ 0 := fun q => c_4 (by rw [q]; exact nI_0)
    refine lv_aload_n hx hb dX2_pop_20 rfl (lv_at hl 0 rfl) ?_
    refine lv_dup hx hb dX2_pop_21 rfl ?_
    refine va_get (D := D) (ci := 2) (v := .int (nI (rd))) (C := RX2) (T := TX2) (N := 5) hx hb hts (fun w h => List.mem_cons_of_mem _ (hiX2 w h)) hown hK hP 0 rfl rfl 1 (by decide) kf17 (fun _ h9 => h9) rfl dX2_pop_22 ?_
    refine lv_iconst (v := 1) hx hb dX2_pop_25 (by decide) ?_
    refine lv_isub hx hb dX2_pop_26 ?_
    refine kt_i (y := nI (rd - 1)) (pk_sub (b := 1) (by omega)) ?_
    refine va_put (D := D) (ci := 2) (v := .int (nI (rd - 1))) (ty := .int) (C := RX2) (T := TX2) (N := 5) hx hb hts (fun w h => List.mem_cons_of_mem _ (hiX2 w h)) tyX2 tyX2_ok nmX2 hown hK hP hD hS 0 rfl rfl 1 (by decide) kf17 (fun _ h9 => h9) rfl (by decide +kernel) rfl rfl (Nat.le_of_ble_eq_true rfl) dX2_pop_27 (fun H locs hP hD hS => ?_)
    have hP : va_P D vwCl [(h0, .inr (2, [.int (nI L), .int (nI (rd - 1)), .int (ro), .int (ru), .ref (h1)])), (h1, .inl (cI, L, .inl (rp)))] H := hP
    have hD : va_D A [(h0, .inr (2, [.int (nI L), .int (nI (rd - 1)), .int (ro), .int (ru), .ref (h1)])), (h1, .inl (cI, L, .inl (rp)))] := hD
    exact kr_v (congrArg (wRet h0 h1 cI L ) (show ((rp, rd - 1, ro, ru) : Rs) = rf_pop (rp, rd, ro, ru) from by simp only [rf_pop, if_neg hd0])) hx hb hr hlocks hP hK hD hS trivial dX2_pop_30
  ·
    have hd0 : rd = 0 := by
      rcases Nat.eq_zero_or_pos rd with q | q
      · exact q
      · exact absurd c_4 (nI_ne0 q (by omega))
    refine lv_aload_n hx hb dX2_pop_7 rfl (lv_at hl 0 rfl) ?_
    refine lv_dup hx hb dX2_pop_8 rfl ?_
    refine va_get (D := D) (ci := 2) (v := .int (ru)) (C := RX2) (T := TX2) (N := 5) hx hb hts (fun w h => List.mem_cons_of_mem _ (hiX2 w h)) hown hK hP 0 rfl rfl 3 (by decide) kf26 (fun _ h9 => h9) rfl dX2_pop_9 ?_
    refine lv_iconst (v := 1) hx hb dX2_pop_12 (by decide) ?_
    refine lv_iadd hx hb dX2_pop_13 ?_
    refine va_put (D := D) (ci := 2) (v := .int ((ru) + (1))) (ty := .int) (C := RX2) (T := TX2) (N := 5) hx hb hts (fun w h => List.mem_cons_of_mem _ (hiX2 w h)) tyX2 tyX2_ok nmX2 hown hK hP hD hS 0 rfl rfl 3 (by decide) kf26 (fun _ h9 => h9) rfl (by decide +kernel) rfl rfl (Nat.le_of_ble_eq_true rfl) dX2_pop_14 (fun H locs hP hD hS => ?_)
    have hP : va_P D vwCl [(h0, .inr (2, [.int (nI L), .int (nI (rd)), .int (ro), .int ((ru) + (1)), .ref (h1)])), (h1, .inl (cI, L, .inl (rp)))] H := hP
    have hD : va_D A [(h0, .inr (2, [.int (nI L), .int (nI (rd)), .int (ro), .int ((ru) + (1)), .ref (h1)])), (h1, .inl (cI, L, .inl (rp)))] := hD
    refine lv_goto (tgt := 30) hx hb dX2_pop_17 (by decide) ?_
    exact kr_v (congrArg (wRet h0 h1 cI L ) (show ((rp, rd, ro, (ru) + (1)) : Rs) = rf_pop (rp, rd, ro, ru) from by simp only [rf_pop, if_pos hd0])) hx hb hr hlocks hP hK hD hS trivial dX2_pop_30

set_option maxHeartbeats 4000000 in
set_option maxRecDepth 100000 in
/-- the ring into a store -/
theorem c_X2_copyTo (l : Launch) (D : va_G) (cI cJ cZ : ClassId) (sz : Nat) (h0 h1 : Nat) (L : Nat) (rp : Fn) (rd : Nat) (ro ru : Int32) (ax sn : Nat) (sg : Fn) (k0 : Nat) (hd : rd ≤ L) (hL : L < 2 ^ 16) (hk : k0 + rd ≤ sn) (hn : sn < 2 ^ 20) : KV l yX2_copyTo wsX2_copyTo ({ frames := 1, cells := 0, slots := 0, locals := 18 } : Room) D (kTy cI cJ cZ) [.ref (h0), .ref (ax), .int (nI k0)] [(h0, .inr (2, [.int (nI L), .int (nI (rd)), .int (ro), .int (ru), .ref (h1)])), (h1, .inl (cI, L, .inl (rp))), (ax, .inl (cI, sn, .inl (sg)))] sz (wRet h0 h1 cI L (rp, rd, ro, ru) ++ [(ax, .inl (cI, sn, .inl (va_cpy rp sg 0 k0 rd)))]) 0 0 := by
  refine Met.ofW (cc := cX2_copyTo) (maxL := 3) (ret := none) (by decide) rfl ?_
  intro p e s m args below meth c s₁ B hml hv
  obtain ⟨rfl, hsz, hP, hK, hD0⟩ := hv
  have hx := B.exec
  have hb := B.bytes
  have hr := B.returns
  have hts := atoms_spec (ws := wsX2_copyTo) B.pre
  have hown : s.vm.findClass RX2 = some m.cls := findClass_of_methodNamed B.named
  have hlocks := B.notSynchronized
  have ai := hts (.initialized "java/lang/System") (List.mem_cons_of_mem _ kw_38)
  have al := hts (.methodLink RX2 29 arraycopyName) (List.mem_cons_of_mem _ kw_249)
  have an := hts (.native arraycopyName) (List.mem_cons_of_mem _ kw_251)
  have as_ := hts (.static arraycopyName) (List.mem_cons_of_mem _ kw_250)
  have kf13 := hts (.fieldLink RX2 13 "TargetRows$Returns" "places" "[I") (List.mem_cons_of_mem _ kw_132)
  have kf17 := hts (.fieldLink RX2 17 "TargetRows$Returns" "depth" "I") (List.mem_cons_of_mem _ kw_125)
  subst hsz
  have hD := hD0.self (sz := s.heap.size)
  generalize hAe : va_A [(h0, .inr (2, [.int (nI L), .int (nI (rd)), .int (ro), .int (ru), .ref (h1)])), (h1, .inl (cI, L, .inl (rp))), (ax, .inl (cI, sn, .inl (sg)))] s.heap.size = A at hD ⊢
  have hA : ∀ q : Nat, s.heap.size ≤ q → A q := fun q h => by rw [← hAe]; exact Or.inr h
  have hS : va_S A s.heap s.heap [] := va_S.rf
  have hP : va_P D vwCl [(h0, .inr (2, [.int (nI L), .int (nI (rd)), .int (ro), .int (ru), .ref (h1)])), (h1, .inl (cI, L, .inl (rp))), (ax, .inl (cI, sn, .inl (sg)))] s.heap := hP
  have hD : va_D A [(h0, .inr (2, [.int (nI L), .int (nI (rd)), .int (ro), .int (ru), .ref (h1)])), (h1, .inl (cI, L, .inl (rp))), (ax, .inl (cI, sn, .inl (sg)))] := hD
  have hl := lv_entry ([.ref (h0), .ref (ax), .int (nI k0)]) (n := 3) (Nat.le_of_ble_eq_true rfl)
  rw [lg_entry_eq]
  generalize (lg_sl ([.ref (h0), .ref (ax), .int (nI k0)]) ++ List.replicate (3 - (lg_sl ([.ref (h0), .ref (ax), .int (nI k0)])).length) Slot.unset).toArray = ls at hl ⊢
  have hl : lv_has ls 3 [(0, .ref (h0)), (1, .ref (ax)), (2, .int (nI k0))] := hl
  refine lv_aload_n hx hb dX2_copyTo_0 rfl (lv_at hl 0 rfl) ?_
  refine va_get (D := D) (ci := 2) (v := .ref (h1)) (C := RX2) (T := TX2) (N := 5) hx hb hts (fun w h => List.mem_cons_of_mem _ (hiX2 w h)) hown hK hP 0 rfl rfl 4 (by decide) kf13 (fun _ h9 => h9) rfl dX2_copyTo_1 ?_
  refine lv_iconst (v := 0) hx hb dX2_copyTo_4 (by decide) ?_
  refine lv_aload_n hx hb dX2_copyTo_5 rfl (lv_at hl 1 rfl) ?_
  refine lv_iload_n hx hb dX2_copyTo_6 rfl (lv_at hl 2 rfl) ?_
  refine lv_aload_n hx hb dX2_copyTo_7 rfl (lv_at hl 0 rfl) ?_
  refine va_get (D := D) (ci := 2) (v := .int (nI (rd))) (C := RX2) (T := TX2) (N := 5) hx hb hts (fun w h => List.mem_cons_of_mem _ (hiX2 w h)) hown hK hP 0 rfl rfl 1 (by decide) kf17 (fun _ h9 => h9) rfl dX2_copyTo_8 ?_
  refine ka_cpy hx hb (by rw [hml]; exact hl.1.symm) hown al an as_ ai hK hP hD hS 1 2 0 0 rfl rfl rfl rfl (ks := 0) (kd := k0) (kn := rd) (rfl) (rfl) (rfl) (⟨by omega, by omega⟩) (⟨hk, by omega⟩) (Nat.le_of_ble_eq_true rfl) (Nat.le_of_ble_eq_true rfl) dX2_copyTo_11 (fun H locs hP hD hS => ?_)
  have hP : va_P D vwCl [(h0, .inr (2, [.int (nI L), .int (nI (rd)), .int (ro), .int (ru), .ref (h1)])), (h1, .inl (cI, L, .inl (rp))), (ax, .inl (cI, sn, .inl (va_cpy (rp) (sg) (0) (k0) (rd))))] H := hP
  have hD : va_D A [(h0, .inr (2, [.int (nI L), .int (nI (rd)), .int (ro), .int (ru), .ref (h1)])), (h1, .inl (cI, L, .inl (rp))), (ax, .inl (cI, sn, .inl (va_cpy (rp) (sg) (0) (k0) (rd))))] := hD
  exact kr_v (rfl) hx hb hr hlocks hP hK hD hS trivial dX2_copyTo_14

set_option maxHeartbeats 4000000 in
set_option maxRecDepth 100000 in
/-- the ring out of a store -/
theorem c_X2_copyFrom (l : Launch) (D : va_G) (cI cJ cZ : ClassId) (sz : Nat) (h0 h1 : Nat) (L : Nat) (rp : Fn) (rd : Nat) (ro ru : Int32) (ax sn : Nat) (sg : Fn) (k0 d0 : Nat) (hd0 : d0 ≤ L) (hL : L < 2 ^ 16) (hk : k0 + d0 ≤ sn) (hn : sn < 2 ^ 20) : KV l yX2_copyFrom wsX2_copyFrom ({ frames := 1, cells := 0, slots := 0, locals := 18 } : Room) D (kTy cI cJ cZ) [.ref (h0), .ref (ax), .int (nI k0), .int (nI d0)] [(h0, .inr (2, [.int (nI L), .int (nI (rd)), .int (ro), .int (ru), .ref (h1)])), (h1, .inl (cI, L, .inl (rp))), (ax, .inl (cI, sn, .inl (sg)))] sz (wRet h0 h1 cI L (va_cpy sg rp k0 0 d0, d0, ro, ru) ++ [(ax, .inl (cI, sn, .inl sg))]) 0 0 := by
  refine Met.ofW (cc := cX2_copyFrom) (maxL := 4) (ret := none) (by decide) rfl ?_
  intro p e s m args below meth c s₁ B hml hv
  obtain ⟨rfl, hsz, hP, hK, hD0⟩ := hv
  have hx := B.exec
  have hb := B.bytes
  have hr := B.returns
  have hts := atoms_spec (ws := wsX2_copyFrom) B.pre
  have hown : s.vm.findClass RX2 = some m.cls := findClass_of_methodNamed B.named
  have hlocks := B.notSynchronized
  have ai := hts (.initialized "java/lang/System") (List.mem_cons_of_mem _ kw_38)
  have al := hts (.methodLink RX2 29 arraycopyName) (List.mem_cons_of_mem _ kw_249)
  have an := hts (.native arraycopyName) (List.mem_cons_of_mem _ kw_251)
  have as_ := hts (.static arraycopyName) (List.mem_cons_of_mem _ kw_250)
  have kf13 := hts (.fieldLink RX2 13 "TargetRows$Returns" "places" "[I") (List.mem_cons_of_mem _ kw_132)
  have kf17 := hts (.fieldLink RX2 17 "TargetRows$Returns" "depth" "I") (List.mem_cons_of_mem _ kw_125)
  subst hsz
  have hD := hD0.self (sz := s.heap.size)
  generalize hAe : va_A [(h0, .inr (2, [.int (nI L), .int (nI (rd)), .int (ro), .int (ru), .ref (h1)])), (h1, .inl (cI, L, .inl (rp))), (ax, .inl (cI, sn, .inl (sg)))] s.heap.size = A at hD ⊢
  have hA : ∀ q : Nat, s.heap.size ≤ q → A q := fun q h => by rw [← hAe]; exact Or.inr h
  have hS : va_S A s.heap s.heap [] := va_S.rf
  have hP : va_P D vwCl [(h0, .inr (2, [.int (nI L), .int (nI (rd)), .int (ro), .int (ru), .ref (h1)])), (h1, .inl (cI, L, .inl (rp))), (ax, .inl (cI, sn, .inl (sg)))] s.heap := hP
  have hD : va_D A [(h0, .inr (2, [.int (nI L), .int (nI (rd)), .int (ro), .int (ru), .ref (h1)])), (h1, .inl (cI, L, .inl (rp))), (ax, .inl (cI, sn, .inl (sg)))] := hD
  have hl := lv_entry ([.ref (h0), .ref (ax), .int (nI k0), .int (nI d0)]) (n := 4) (Nat.le_of_ble_eq_true rfl)
  rw [lg_entry_eq]
  generalize (lg_sl ([.ref (h0), .ref (ax), .int (nI k0), .int (nI d0)]) ++ List.replicate (4 - (lg_sl ([.ref (h0), .ref (ax), .int (nI k0), .int (nI d0)])).length) Slot.unset).toArray = ls at hl ⊢
  have hl : lv_has ls 4 [(0, .ref (h0)), (1, .ref (ax)), (2, .int (nI k0)), (3, .int (nI d0))] := hl
  refine lv_aload_n hx hb dX2_copyFrom_0 rfl (lv_at hl 1 rfl) ?_
  refine lv_iload_n hx hb dX2_copyFrom_1 rfl (lv_at hl 2 rfl) ?_
  refine lv_aload_n hx hb dX2_copyFrom_2 rfl (lv_at hl 0 rfl) ?_
  refine va_get (D := D) (ci := 2) (v := .ref (h1)) (C := RX2) (T := TX2) (N := 5) hx hb hts (fun w h => List.mem_cons_of_mem _ (hiX2 w h)) hown hK hP 0 rfl rfl 4 (by decide) kf13 (fun _ h9 => h9) rfl dX2_copyFrom_3 ?_
  refine lv_iconst (v := 0) hx hb dX2_copyFrom_6 (by decide) ?_
  refine lv_iload_n hx hb dX2_copyFrom_7 rfl (lv_at hl 3 rfl) ?_
  refine ka_cpy hx hb (by rw [hml]; exact hl.1.symm) hown al an as_ ai hK hP hD hS 2 1 0 0 rfl rfl rfl rfl (ks := k0) (kd := 0) (kn := d0) (rfl) (rfl) (rfl) (⟨hk, by omega⟩) (⟨by omega, by omega⟩) (Nat.le_of_ble_eq_true rfl) (Nat.le_of_ble_eq_true rfl) dX2_copyFrom_8 (fun H locs hP hD hS => ?_)
  have hP : va_P D vwCl [(h0, .inr (2, [.int (nI L), .int (nI (rd)), .int (ro), .int (ru), .ref (h1)])), (h1, .inl (cI, L, .inl (va_cpy (sg) (rp) (k0) (0) (d0)))), (ax, .inl (cI, sn, .inl (sg)))] H := hP
  have hD : va_D A [(h0, .inr (2, [.int (nI L), .int (nI (rd)), .int (ro), .int (ru), .ref (h1)])), (h1, .inl (cI, L, .inl (va_cpy (sg) (rp) (k0) (0) (d0)))), (ax, .inl (cI, sn, .inl (sg)))] := hD
  refine lv_aload_n hx hb dX2_copyFrom_11 rfl (lv_at hl 0 rfl) ?_
  refine lv_iload_n hx hb dX2_copyFrom_12 rfl (lv_at hl 3 rfl) ?_
  refine va_put (D := D) (ci := 2) (v := .int (nI d0)) (ty := .int) (C := RX2) (T := TX2) (N := 5) hx hb hts (fun w h => List.mem_cons_of_mem _ (hiX2 w h)) tyX2 tyX2_ok nmX2 hown hK hP hD hS 0 rfl rfl 1 (by decide) kf17 (fun _ h9 => h9) rfl (by decide +kernel) rfl rfl (Nat.le_of_ble_eq_true rfl) dX2_copyFrom_13 (fun H locs hP hD hS => ?_)
  have hP : va_P D vwCl [(h0, .inr (2, [.int (nI L), .int (nI d0), .int (ro), .int (ru), .ref (h1)])), (h1, .inl (cI, L, .inl (va_cpy (sg) (rp) (k0) (0) (d0)))), (ax, .inl (cI, sn, .inl (sg)))] H := hP
  have hD : va_D A [(h0, .inr (2, [.int (nI L), .int (nI d0), .int (ro), .int (ru), .ref (h1)])), (h1, .inl (cI, L, .inl (va_cpy (sg) (rp) (k0) (0) (d0)))), (ax, .inl (cI, sn, .inl (sg)))] := hD
  exact kr_v (rfl) hx hb hr hlocks hP hK hD hS trivial dX2_copyFrom_16
end
section
set_option maxHeartbeats 4000000 in
set_option maxRecDepth 100000 in
/-- the index of a place -/
theorem c_X1_indexOf (l : Launch) (D : va_G) (cI cJ cZ : ClassId) (sz : Nat) (h0 h1 h2 h3 h4 : Nat) (L : Nat) (qp qt qd qr : Fn) (qs qf : Nat) (k0 : Nat) (hk : k0 ≤ 16) (hf : qf < 16) (hL : L < 2 ^ 10) : KI l yX1_indexOf wsX1_indexOf ({ frames := 0, cells := 0, slots := 0, locals := 0 } : Room) D (kTy cI cJ cZ) [.ref (h0), .int (nI k0)] [(h0, .inr (1, [.int (nI (qs)), .int (nI (qf)), .int (nI L), .ref (h1), .ref (h2), .ref (h3), .ref (h4)])), (h1, .inl (cI, 16, .inl (qp))), (h2, .inl (cI, 16, .inl (qt))), (h3, .inl (cI, 16, .inl (qd))), (h4, .inl (cI, 16 * L, .inl (qr)))] sz (wQue h0 h1 h2 h3 h4 cI L (qp, qt, qd, qr, qs, qf)) (nI (qf_ix (qp, qt, qd, qr, qs, qf) k0)) 0 0 := by
  refine Met.ofW (cc := cX1_indexOf) (maxL := 2) (ret := (some .int)) (by decide) rfl ?_
  intro p e s m args below meth c s₁ B hml hv
  obtain ⟨rfl, hsz, hP, hK, hD0⟩ := hv
  have hx := B.exec
  have hb := B.bytes
  have hr := B.returns
  have hts := atoms_spec (ws := wsX1_indexOf) B.pre
  have hown : s.vm.findClass RX1 = some m.cls := findClass_of_methodNamed B.named
  have hlocks := B.notSynchronized
  have kf44 := hts (.fieldLink RX1 44 "TargetRows$Queue" "first" "I") (List.mem_cons_of_mem _ kw_152)
  subst hsz
  have hD := hD0.self (sz := s.heap.size)
  generalize hAe : va_A [(h0, .inr (1, [.int (nI (qs)), .int (nI (qf)), .int (nI L), .ref (h1), .ref (h2), .ref (h3), .ref (h4)])), (h1, .inl (cI, 16, .inl (qp))), (h2, .inl (cI, 16, .inl (qt))), (h3, .inl (cI, 16, .inl (qd))), (h4, .inl (cI, 16 * L, .inl (qr)))] s.heap.size = A at hD ⊢
  have hA : ∀ q : Nat, s.heap.size ≤ q → A q := fun q h => by rw [← hAe]; exact Or.inr h
  have hS : va_S A s.heap s.heap [] := va_S.rf
  have hP : va_P D vwCl [(h0, .inr (1, [.int (nI (qs)), .int (nI (qf)), .int (nI L), .ref (h1), .ref (h2), .ref (h3), .ref (h4)])), (h1, .inl (cI, 16, .inl (qp))), (h2, .inl (cI, 16, .inl (qt))), (h3, .inl (cI, 16, .inl (qd))), (h4, .inl (cI, 16 * L, .inl (qr)))] s.heap := hP
  have hD : va_D A [(h0, .inr (1, [.int (nI (qs)), .int (nI (qf)), .int (nI L), .ref (h1), .ref (h2), .ref (h3), .ref (h4)])), (h1, .inl (cI, 16, .inl (qp))), (h2, .inl (cI, 16, .inl (qt))), (h3, .inl (cI, 16, .inl (qd))), (h4, .inl (cI, 16 * L, .inl (qr)))] := hD
  have hl := lv_entry ([.ref (h0), .int (nI k0)]) (n := 2) (Nat.le_of_ble_eq_true rfl)
  rw [lg_entry_eq]
  generalize (lg_sl ([.ref (h0), .int (nI k0)]) ++ List.replicate (2 - (lg_sl ([.ref (h0), .int (nI k0)])).length) Slot.unset).toArray = ls at hl ⊢
  have hl : lv_has ls 2 [(0, .ref (h0)), (1, .int (nI k0))] := hl
  refine lv_aload_n hx hb dX1_indexOf_0 rfl (lv_at hl 0 rfl) ?_
  refine va_get (D := D) (ci := 1) (v := .int (nI (qf))) (C := RX1) (T := TX1) (N := 7) hx hb hts (fun w h => List.mem_cons_of_mem _ (hiX1 w h)) hown hK hP 0 rfl rfl 1 (by decide) kf44 (fun _ h9 => h9) rfl dX1_indexOf_1 ?_
  refine lv_iload_n hx hb dX1_indexOf_4 rfl (lv_at hl 1 rfl) ?_
  refine lv_iadd hx hb dX1_indexOf_5 ?_
  refine lv_bipush (v := 15) hx hb dX1_indexOf_6 (by decide) ?_
  refine lv_iand hx hb dX1_indexOf_8 ?_
  refine kt_i (y := nI (qf_ix (qp, qt, qd, qr, qs, qf) k0)) (qf_lem qf k0 (by omega) (by omega)) ?_
  exact kr_i (rfl) hx hb hr hlocks hP hK hD hS (rfl) dX1_indexOf_9

set_option maxHeartbeats 4000000 in
set_option maxRecDepth 100000 in
/-- placeAt -/
theorem c_X1_placeAt (l : Launch) (D : va_G) (cI cJ cZ : ClassId) (sz : Nat) (h0 h1 h2 h3 h4 : Nat) (L : Nat) (qp qt qd qr : Fn) (qs qf : Nat) (k0 : Nat) (hk : k0 ≤ 16) (hf : qf < 16) (hL : L < 2 ^ 10) : KI l yX1_placeAt wsX1_placeAt ({ frames := 1, cells := 0, slots := 0, locals := 21 } : Room) D (kTy cI cJ cZ) [.ref (h0), .int (nI k0)] [(h0, .inr (1, [.int (nI (qs)), .int (nI (qf)), .int (nI L), .ref (h1), .ref (h2), .ref (h3), .ref (h4)])), (h1, .inl (cI, 16, .inl (qp))), (h2, .inl (cI, 16, .inl (qt))), (h3, .inl (cI, 16, .inl (qd))), (h4, .inl (cI, 16 * L, .inl (qr)))] sz (wQue h0 h1 h2 h3 h4 cI L (qp, qt, qd, qr, qs, qf)) (qp (qf_ix (qp, qt, qd, qr, qs, qf) k0)) 0 0 := by
  refine Met.ofW (cc := cX1_placeAt) (maxL := 2) (ret := (some .int)) (by decide) rfl ?_
  intro p e s m args below meth c s₁ B hml hv
  obtain ⟨rfl, hsz, hP, hK, hD0⟩ := hv
  have hx := B.exec
  have hb := B.bytes
  have hr := B.returns
  have hts := atoms_spec (ws := wsX1_placeAt) B.pre
  have hown : s.vm.findClass RX1 = some m.cls := findClass_of_methodNamed B.named
  have hlocks := B.notSynchronized
  have kf15 := hts (.fieldLink RX1 15 "TargetRows$Queue" "places" "[I") (List.mem_cons_of_mem _ kw_154)
  subst hsz
  have hD := hD0.self (sz := s.heap.size)
  generalize hAe : va_A [(h0, .inr (1, [.int (nI (qs)), .int (nI (qf)), .int (nI L), .ref (h1), .ref (h2), .ref (h3), .ref (h4)])), (h1, .inl (cI, 16, .inl (qp))), (h2, .inl (cI, 16, .inl (qt))), (h3, .inl (cI, 16, .inl (qd))), (h4, .inl (cI, 16 * L, .inl (qr)))] s.heap.size = A at hD ⊢
  have hA : ∀ q : Nat, s.heap.size ≤ q → A q := fun q h => by rw [← hAe]; exact Or.inr h
  have hS : va_S A s.heap s.heap [] := va_S.rf
  have hP : va_P D vwCl [(h0, .inr (1, [.int (nI (qs)), .int (nI (qf)), .int (nI L), .ref (h1), .ref (h2), .ref (h3), .ref (h4)])), (h1, .inl (cI, 16, .inl (qp))), (h2, .inl (cI, 16, .inl (qt))), (h3, .inl (cI, 16, .inl (qd))), (h4, .inl (cI, 16 * L, .inl (qr)))] s.heap := hP
  have hD : va_D A [(h0, .inr (1, [.int (nI (qs)), .int (nI (qf)), .int (nI L), .ref (h1), .ref (h2), .ref (h3), .ref (h4)])), (h1, .inl (cI, 16, .inl (qp))), (h2, .inl (cI, 16, .inl (qt))), (h3, .inl (cI, 16, .inl (qd))), (h4, .inl (cI, 16 * L, .inl (qr)))] := hD
  have hl := lv_entry ([.ref (h0), .int (nI k0)]) (n := 2) (Nat.le_of_ble_eq_true rfl)
  rw [lg_entry_eq]
  generalize (lg_sl ([.ref (h0), .int (nI k0)]) ++ List.replicate (2 - (lg_sl ([.ref (h0), .int (nI k0)])).length) Slot.unset).toArray = ls at hl ⊢
  have hl : lv_has ls 2 [(0, .ref (h0)), (1, .int (nI k0))] := hl
  refine lv_aload_n hx hb dX1_placeAt_0 rfl (lv_at hl 0 rfl) ?_
  refine va_get (D := D) (ci := 1) (v := .ref (h1)) (C := RX1) (T := TX1) (N := 7) hx hb hts (fun w h => List.mem_cons_of_mem _ (hiX1 w h)) hown hK hP 0 rfl rfl 3 (by decide) kf15 (fun _ h9 => h9) rfl dX1_placeAt_1 ?_
  refine lv_aload_n hx hb dX1_placeAt_4 rfl (lv_at hl 0 rfl) ?_
  refine lv_iload_n hx hb dX1_placeAt_5 rfl (lv_at hl 1 rfl) ?_
  refine kc_i (wc := [(h0, .inr (1, [.int (nI (qs)), .int (nI (qf)), .int (nI L), .ref (h1), .ref (h2), .ref (h3), .ref (h4)])), (h1, .inl (cI, 16, .inl (qp))), (h2, .inl (cI, 16, .inl (qt))), (h3, .inl (cI, 16, .inl (qd))), (h4, .inl (cI, 16 * L, .inl (qr)))]) (wr := []) [0, 1, 2, 3, 4] [] rfl rfl (by decide) (by decide) hP hD hS hA (va_runV (As := [.int (nI k0)]) (rest := [.ref (h1)]) ⟨hx, hb, hml, hown, hts⟩ (c_X1_indexOf l D cI cJ cZ _ _ _ _ _ _ _ _ _ _ _ _ _ _ hk hf hL) (cwV 1 hts (kw_V kw_348 kw_350 kw_5 kw_32 kw_351) rfl rfl rfl (by decide +kernel) ⟨Nat.le_of_ble_eq_true rfl, Nat.le_of_ble_eq_true rfl⟩) ⟨kP_blind, va_recv hK (hP.sub (ws' := [(h0, .inr (1, [.int (nI (qs)), .int (nI (qf)), .int (nI L), .ref (h1), .ref (h2), .ref (h3), .ref (h4)])), (h1, .inl (cI, 16, .inl (qp))), (h2, .inl (cI, 16, .inl (qt))), (h3, .inl (cI, 16, .inl (qd))), (h4, .inl (cI, 16 * L, .inl (qr)))]) [0, 1, 2, 3, 4] rfl) (ci := 1) (q0 := 0) rfl rfl, kP_at (hP.sub [0, 1, 2, 3, 4] rfl) hK (hD.sub [0, 1, 2, 3, 4] (by decide) rfl)⟩ rfl rfl hl.1 rfl (lv_room (Nat.le_of_ble_eq_true rfl)) dX1_placeAt_6 ⟨Nat.zero_le _, Nat.zero_le _⟩) (fun H locs hP hD hS => ?_)
  have hP := hP.sub (ws' := [(h0, .inr (1, [.int (nI (qs)), .int (nI (qf)), .int (nI L), .ref (h1), .ref (h2), .ref (h3), .ref (h4)])), (h1, .inl (cI, 16, .inl (qp))), (h2, .inl (cI, 16, .inl (qt))), (h3, .inl (cI, 16, .inl (qd))), (h4, .inl (cI, 16 * L, .inl (qr)))]) [0, 1, 2, 3, 4] rfl
  have hD := hD.sub (ws' := [(h0, .inr (1, [.int (nI (qs)), .int (nI (qf)), .int (nI L), .ref (h1), .ref (h2), .ref (h3), .ref (h4)])), (h1, .inl (cI, 16, .inl (qp))), (h2, .inl (cI, 16, .inl (qt))), (h3, .inl (cI, 16, .inl (qd))), (h4, .inl (cI, 16 * L, .inl (qr)))]) [0, 1, 2, 3, 4] (by decide) rfl
  refine ka_ild hx hb hK hP 1 0 rfl rfl (k := qf_ix (qp, qt, qd, qr, qs, qf) (k0)) (rfl) (⟨qf_ix_lt _ _, by decide⟩) dX1_placeAt_9 ?_
  exact kr_i (rfl) hx hb hr hlocks hP hK hD hS (rfl) dX1_placeAt_10

set_option maxHeartbeats 4000000 in
set_option maxRecDepth 100000 in
/-- toldAt -/
theorem c_X1_toldAt (l : Launch) (D : va_G) (cI cJ cZ : ClassId) (sz : Nat) (h0 h1 h2 h3 h4 : Nat) (L : Nat) (qp qt qd qr : Fn) (qs qf : Nat) (k0 : Nat) (hk : k0 ≤ 16) (hf : qf < 16) (hL : L < 2 ^ 10) : KI l yX1_toldAt wsX1_toldAt ({ frames := 1, cells := 0, slots := 0, locals := 21 } : Room) D (kTy cI cJ cZ) [.ref (h0), .int (nI k0)] [(h0, .inr (1, [.int (nI (qs)), .int (nI (qf)), .int (nI L), .ref (h1), .ref (h2), .ref (h3), .ref (h4)])), (h1, .inl (cI, 16, .inl (qp))), (h2, .inl (cI, 16, .inl (qt))), (h3, .inl (cI, 16, .inl (qd))), (h4, .inl (cI, 16 * L, .inl (qr)))] sz (wQue h0 h1 h2 h3 h4 cI L (qp, qt, qd, qr, qs, qf)) (qt (qf_ix (qp, qt, qd, qr, qs, qf) k0)) 0 0 := by
  refine Met.ofW (cc := cX1_toldAt) (maxL := 2) (ret := (some .int)) (by decide) rfl ?_
  intro p e s m args below meth c s₁ B hml hv
  obtain ⟨rfl, hsz, hP, hK, hD0⟩ := hv
  have hx := B.exec
  have hb := B.bytes
  have hr := B.returns
  have hts := atoms_spec (ws := wsX1_toldAt) B.pre
  have hown : s.vm.findClass RX1 = some m.cls := findClass_of_methodNamed B.named
  have hlocks := B.notSynchronized
  have kf19 := hts (.fieldLink RX1 19 "TargetRows$Queue" "told" "[I") (List.mem_cons_of_mem _ kw_155)
  subst hsz
  have hD := hD0.self (sz := s.heap.size)
  generalize hAe : va_A [(h0, .inr (1, [.int (nI (qs)), .int (nI (qf)), .int (nI L), .ref (h1), .ref (h2), .ref (h3), .ref (h4)])), (h1, .inl (cI, 16, .inl (qp))), (h2, .inl (cI, 16, .inl (qt))), (h3, .inl (cI, 16, .inl (qd))), (h4, .inl (cI, 16 * L, .inl (qr)))] s.heap.size = A at hD ⊢
  have hA : ∀ q : Nat, s.heap.size ≤ q → A q := fun q h => by rw [← hAe]; exact Or.inr h
  have hS : va_S A s.heap s.heap [] := va_S.rf
  have hP : va_P D vwCl [(h0, .inr (1, [.int (nI (qs)), .int (nI (qf)), .int (nI L), .ref (h1), .ref (h2), .ref (h3), .ref (h4)])), (h1, .inl (cI, 16, .inl (qp))), (h2, .inl (cI, 16, .inl (qt))), (h3, .inl (cI, 16, .inl (qd))), (h4, .inl (cI, 16 * L, .inl (qr)))] s.heap := hP
  have hD : va_D A [(h0, .inr (1, [.int (nI (qs)), .int (nI (qf)), .int (nI L), .ref (h1), .ref (h2), .ref (h3), .ref (h4)])), (h1, .inl (cI, 16, .inl (qp))), (h2, .inl (cI, 16, .inl (qt))), (h3, .inl (cI, 16, .inl (qd))), (h4, .inl (cI, 16 * L, .inl (qr)))] := hD
  have hl := lv_entry ([.ref (h0), .int (nI k0)]) (n := 2) (Nat.le_of_ble_eq_true rfl)
  rw [lg_entry_eq]
  generalize (lg_sl ([.ref (h0), .int (nI k0)]) ++ List.replicate (2 - (lg_sl ([.ref (h0), .int (nI k0)])).length) Slot.unset).toArray = ls at hl ⊢
  have hl : lv_has ls 2 [(0, .ref (h0)), (1, .int (nI k0))] := hl
  refine lv_aload_n hx hb dX1_toldAt_0 rfl (lv_at hl 0 rfl) ?_
  refine va_get (D := D) (ci := 1) (v := .ref (h2)) (C := RX1) (T := TX1) (N := 7) hx hb hts (fun w h => List.mem_cons_of_mem _ (hiX1 w h)) hown hK hP 0 rfl rfl 4 (by decide) kf19 (fun _ h9 => h9) rfl dX1_toldAt_1 ?_
  refine lv_aload_n hx hb dX1_toldAt_4 rfl (lv_at hl 0 rfl) ?_
  refine lv_iload_n hx hb dX1_toldAt_5 rfl (lv_at hl 1 rfl) ?_
  refine kc_i (wc := [(h0, .inr (1, [.int (nI (qs)), .int (nI (qf)), .int (nI L), .ref (h1), .ref (h2), .ref (h3), .ref (h4)])), (h1, .inl (cI, 16, .inl (qp))), (h2, .inl (cI, 16, .inl (qt))), (h3, .inl (cI, 16, .inl (qd))), (h4, .inl (cI, 16 * L, .inl (qr)))]) (wr := []) [0, 1, 2, 3, 4] [] rfl rfl (by decide) (by decide) hP hD hS hA (va_runV (As := [.int (nI k0)]) (rest := [.ref (h2)]) ⟨hx, hb, hml, hown, hts⟩ (c_X1_indexOf l D cI cJ cZ _ _ _ _ _ _ _ _ _ _ _ _ _ _ hk hf hL) (cwV 1 hts (kw_V kw_348 kw_350 kw_5 kw_32 kw_351) rfl rfl rfl (by decide +kernel) ⟨Nat.le_of_ble_eq_true rfl, Nat.le_of_ble_eq_true rfl⟩) ⟨kP_blind, va_recv hK (hP.sub (ws' := [(h0, .inr (1, [.int (nI (qs)), .int (nI (qf)), .int (nI L), .ref (h1), .ref (h2), .ref (h3), .ref (h4)])), (h1, .inl (cI, 16, .inl (qp))), (h2, .inl (cI, 16, .inl (qt))), (h3, .inl (cI, 16, .inl (qd))), (h4, .inl (cI, 16 * L, .inl (qr)))]) [0, 1, 2, 3, 4] rfl) (ci := 1) (q0 := 0) rfl rfl, kP_at (hP.sub [0, 1, 2, 3, 4] rfl) hK (hD.sub [0, 1, 2, 3, 4] (by decide) rfl)⟩ rfl rfl hl.1 rfl (lv_room (Nat.le_of_ble_eq_true rfl)) dX1_toldAt_6 ⟨Nat.zero_le _, Nat.zero_le _⟩) (fun H locs hP hD hS => ?_)
  have hP := hP.sub (ws' := [(h0, .inr (1, [.int (nI (qs)), .int (nI (qf)), .int (nI L), .ref (h1), .ref (h2), .ref (h3), .ref (h4)])), (h1, .inl (cI, 16, .inl (qp))), (h2, .inl (cI, 16, .inl (qt))), (h3, .inl (cI, 16, .inl (qd))), (h4, .inl (cI, 16 * L, .inl (qr)))]) [0, 1, 2, 3, 4] rfl
  have hD := hD.sub (ws' := [(h0, .inr (1, [.int (nI (qs)), .int (nI (qf)), .int (nI L), .ref (h1), .ref (h2), .ref (h3), .ref (h4)])), (h1, .inl (cI, 16, .inl (qp))), (h2, .inl (cI, 16, .inl (qt))), (h3, .inl (cI, 16, .inl (qd))), (h4, .inl (cI, 16 * L, .inl (qr)))]) [0, 1, 2, 3, 4] (by decide) rfl
  refine ka_ild hx hb hK hP 2 0 rfl rfl (k := qf_ix (qp, qt, qd, qr, qs, qf) (k0)) (rfl) (⟨qf_ix_lt _ _, by decide⟩) dX1_toldAt_9 ?_
  exact kr_i (rfl) hx hb hr hlocks hP hK hD hS (rfl) dX1_toldAt_10

set_option maxHeartbeats 4000000 in
set_option maxRecDepth 100000 in
/-- nothing waits -/
theorem c_X1_clear (l : Launch) (D : va_G) (cI cJ cZ : ClassId) (sz : Nat) (h0 h1 h2 h3 h4 : Nat) (L : Nat) (qp qt qd qr : Fn) (qs qf : Nat) : KV l yX1_clear wsX1_clear ({ frames := 0, cells := 0, slots := 0, locals := 0 } : Room) D (kTy cI cJ cZ) [.ref (h0)] [(h0, .inr (1, [.int (nI (qs)), .int (nI (qf)), .int (nI L), .ref (h1), .ref (h2), .ref (h3), .ref (h4)])), (h1, .inl (cI, 16, .inl (qp))), (h2, .inl (cI, 16, .inl (qt))), (h3, .inl (cI, 16, .inl (qd))), (h4, .inl (cI, 16 * L, .inl (qr)))] sz (wQue h0 h1 h2 h3 h4 cI L (qf_clear (qp, qt, qd, qr, qs, qf))) 0 0 := by
  refine Met.ofW (cc := cX1_clear) (maxL := 1) (ret := none) (by decide) rfl ?_
  intro p e s m args below meth c s₁ B hml hv
  obtain ⟨rfl, hsz, hP, hK, hD0⟩ := hv
  have hx := B.exec
  have hb := B.bytes
  have hr := B.returns
  have hts := atoms_spec (ws := wsX1_clear) B.pre
  have hown : s.vm.findClass RX1 = some m.cls := findClass_of_methodNamed B.named
  have hlocks := B.notSynchronized
  have kf28 := hts (.fieldLink RX1 28 "TargetRows$Queue" "size" "I") (List.mem_cons_of_mem _ kw_150)
  subst hsz
  have hD := hD0.self (sz := s.heap.size)
  generalize hAe : va_A [(h0, .inr (1, [.int (nI (qs)), .int (nI (qf)), .int (nI L), .ref (h1), .ref (h2), .ref (h3), .ref (h4)])), (h1, .inl (cI, 16, .inl (qp))), (h2, .inl (cI, 16, .inl (qt))), (h3, .inl (cI, 16, .inl (qd))), (h4, .inl (cI, 16 * L, .inl (qr)))] s.heap.size = A at hD ⊢
  have hA : ∀ q : Nat, s.heap.size ≤ q → A q := fun q h => by rw [← hAe]; exact Or.inr h
  have hS : va_S A s.heap s.heap [] := va_S.rf
  have hP : va_P D vwCl [(h0, .inr (1, [.int (nI (qs)), .int (nI (qf)), .int (nI L), .ref (h1), .ref (h2), .ref (h3), .ref (h4)])), (h1, .inl (cI, 16, .inl (qp))), (h2, .inl (cI, 16, .inl (qt))), (h3, .inl (cI, 16, .inl (qd))), (h4, .inl (cI, 16 * L, .inl (qr)))] s.heap := hP
  have hD : va_D A [(h0, .inr (1, [.int (nI (qs)), .int (nI (qf)), .int (nI L), .ref (h1), .ref (h2), .ref (h3), .ref (h4)])), (h1, .inl (cI, 16, .inl (qp))), (h2, .inl (cI, 16, .inl (qt))), (h3, .inl (cI, 16, .inl (qd))), (h4, .inl (cI, 16 * L, .inl (qr)))] := hD
  have hl := lv_entry ([.ref (h0)]) (n := 1) (Nat.le_of_ble_eq_true rfl)
  rw [lg_entry_eq]
  generalize (lg_sl ([.ref (h0)]) ++ List.replicate (1 - (lg_sl ([.ref (h0)])).length) Slot.unset).toArray = ls at hl ⊢
  have hl : lv_has ls 1 [(0, .ref (h0))] := hl
  refine lv_aload_n hx hb dX1_clear_0 rfl (lv_at hl 0 rfl) ?_
  refine lv_iconst (v := 0) hx hb dX1_clear_1 (by decide) ?_
  refine kt_i (y := nI (0)) (rfl) ?_
  refine va_put (D := D) (ci := 1) (v := .int (nI (0))) (ty := .int) (C := RX1) (T := TX1) (N := 7) hx hb hts (fun w h => List.mem_cons_of_mem _ (hiX1 w h)) tyX1 tyX1_ok nmX1 hown hK hP hD hS 0 rfl rfl 0 (by decide) kf28 (fun _ h9 => h9) rfl (by decide +kernel) rfl rfl (Nat.le_of_ble_eq_true rfl) dX1_clear_2 (fun H locs hP hD hS => ?_)
  have hP : va_P D vwCl [(h0, .inr (1, [.int (nI (0)), .int (nI (qf)), .int (nI L), .ref (h1), .ref (h2), .ref (h3), .ref (h4)])), (h1, .inl (cI, 16, .inl (qp))), (h2, .inl (cI, 16, .inl (qt))), (h3, .inl (cI, 16, .inl (qd))), (h4, .inl (cI, 16 * L, .inl (qr)))] H := hP
  have hD : va_D A [(h0, .inr (1, [.int (nI (0)), .int (nI (qf)), .int (nI L), .ref (h1), .ref (h2), .ref (h3), .ref (h4)])), (h1, .inl (cI, 16, .inl (qp))), (h2, .inl (cI, 16, .inl (qt))), (h3, .inl (cI, 16, .inl (qd))), (h4, .inl (cI, 16 * L, .inl (qr)))] := hD
  exact kr_v (rfl) hx hb hr hlocks hP hK hD hS trivial dX1_clear_5

set_option maxHeartbeats 4000000 in
set_option maxRecDepth 100000 in
/-- the oldest goes -/
theorem c_X1_dropOldest (l : Launch) (D : va_G) (cI cJ cZ : ClassId) (sz : Nat) (h0 h1 h2 h3 h4 : Nat) (L : Nat) (qp qt qd qr : Fn) (qs qf : Nat) (hs : 0 < qs) (hs16 : qs ≤ 16) (hf : qf < 16) (hL : L < 2 ^ 10) : KV l yX1_dropOldest wsX1_dropOldest ({ frames := 1, cells := 0, slots := 0, locals := 21 } : Room) D (kTy cI cJ cZ) [.ref (h0)] [(h0, .inr (1, [.int (nI (qs)), .int (nI (qf)), .int (nI L), .ref (h1), .ref (h2), .ref (h3), .ref (h4)])), (h1, .inl (cI, 16, .inl (qp))), (h2, .inl (cI, 16, .inl (qt))), (h3, .inl (cI, 16, .inl (qd))), (h4, .inl (cI, 16 * L, .inl (qr)))] sz (wQue h0 h1 h2 h3 h4 cI L (qf_drop (qp, qt, qd, qr, qs, qf))) 0 0 := by
  refine Met.ofW (cc := cX1_dropOldest) (maxL := 1) (ret := none) (by decide) rfl ?_
  intro p e s m args below meth c s₁ B hml hv
  obtain ⟨rfl, hsz, hP, hK, hD0⟩ := hv
  have hx := B.exec
  have hb := B.bytes
  have hr := B.returns
  have hts := atoms_spec (ws := wsX1_dropOldest) B.pre
  have hown : s.vm.findClass RX1 = some m.cls := findClass_of_methodNamed B.named
  have hlocks := B.notSynchronized
  have kf28 := hts (.fieldLink RX1 28 "TargetRows$Queue" "size" "I") (List.mem_cons_of_mem _ kw_150)
  have kf44 := hts (.fieldLink RX1 44 "TargetRows$Queue" "first" "I") (List.mem_cons_of_mem _ kw_152)
  subst hsz
  have hD := hD0.self (sz := s.heap.size)
  generalize hAe : va_A [(h0, .inr (1, [.int (nI (qs)), .int (nI (qf)), .int (nI L), .ref (h1), .ref (h2), .ref (h3), .ref (h4)])), (h1, .inl (cI, 16, .inl (qp))), (h2, .inl (cI, 16, .inl (qt))), (h3, .inl (cI, 16, .inl (qd))), (h4, .inl (cI, 16 * L, .inl (qr)))] s.heap.size = A at hD ⊢
  have hA : ∀ q : Nat, s.heap.size ≤ q → A q := fun q h => by rw [← hAe]; exact Or.inr h
  have hS : va_S A s.heap s.heap [] := va_S.rf
  have hP : va_P D vwCl [(h0, .inr (1, [.int (nI (qs)), .int (nI (qf)), .int (nI L), .ref (h1), .ref (h2), .ref (h3), .ref (h4)])), (h1, .inl (cI, 16, .inl (qp))), (h2, .inl (cI, 16, .inl (qt))), (h3, .inl (cI, 16, .inl (qd))), (h4, .inl (cI, 16 * L, .inl (qr)))] s.heap := hP
  have hD : va_D A [(h0, .inr (1, [.int (nI (qs)), .int (nI (qf)), .int (nI L), .ref (h1), .ref (h2), .ref (h3), .ref (h4)])), (h1, .inl (cI, 16, .inl (qp))), (h2, .inl (cI, 16, .inl (qt))), (h3, .inl (cI, 16, .inl (qd))), (h4, .inl (cI, 16 * L, .inl (qr)))] := hD
  have hl := lv_entry ([.ref (h0)]) (n := 1) (Nat.le_of_ble_eq_true rfl)
  rw [lg_entry_eq]
  generalize (lg_sl ([.ref (h0)]) ++ List.replicate (1 - (lg_sl ([.ref (h0)])).length) Slot.unset).toArray = ls at hl ⊢
  have hl : lv_has ls 1 [(0, .ref (h0))] := hl
  refine lv_aload_n hx hb dX1_dropOldest_0 rfl (lv_at hl 0 rfl) ?_
  refine lv_aload_n hx hb dX1_dropOldest_1 rfl (lv_at hl 0 rfl) ?_
  refine lv_iconst (v := 1) hx hb dX1_dropOldest_2 (by decide) ?_
  refine kt_i (y := nI (1)) (rfl) ?_
  refine kc_i (wc := [(h0, .inr (1, [.int (nI (qs)), .int (nI (qf)), .int (nI L), .ref (h1), .ref (h2), .ref (h3), .ref (h4)])), (h1, .inl (cI, 16, .inl (qp))), (h2, .inl (cI, 16, .inl (qt))), (h3, .inl (cI, 16, .inl (qd))), (h4, .inl (cI, 16 * L, .inl (qr)))]) (wr := []) [0, 1, 2, 3, 4] [] rfl rfl (by decide) (by decide) hP hD hS hA (va_runV (As := [.int (nI (1))]) (rest := [.ref (h0)]) ⟨hx, hb, hml, hown, hts⟩ (c_X1_indexOf l D cI cJ cZ _ _ _ _ _ _ _ _ _ _ _ _ _ _ (by omega) hf hL) (cwV 1 hts (kw_V kw_348 kw_350 kw_5 kw_32 kw_351) rfl rfl rfl (by decide +kernel) ⟨Nat.le_of_ble_eq_true rfl, Nat.le_of_ble_eq_true rfl⟩) ⟨kP_blind, va_recv hK (hP.sub (ws' := [(h0, .inr (1, [.int (nI (qs)), .int (nI (qf)), .int (nI L), .ref (h1), .ref (h2), .ref (h3), .ref (h4)])), (h1, .inl (cI, 16, .inl (qp))), (h2, .inl (cI, 16, .inl (qt))), (h3, .inl (cI, 16, .inl (qd))), (h4, .inl (cI, 16 * L, .inl (qr)))]) [0, 1, 2, 3, 4] rfl) (ci := 1) (q0 := 0) rfl rfl, kP_at (hP.sub [0, 1, 2, 3, 4] rfl) hK (hD.sub [0, 1, 2, 3, 4] (by decide) rfl)⟩ rfl rfl hl.1 rfl (lv_room (Nat.le_of_ble_eq_true rfl)) dX1_dropOldest_3 ⟨Nat.zero_le _, Nat.zero_le _⟩) (fun H locs hP hD hS => ?_)
  have hP := hP.sub (ws' := [(h0, .inr (1, [.int (nI (qs)), .int (nI (qf)), .int (nI L), .ref (h1), .ref (h2), .ref (h3), .ref (h4)])), (h1, .inl (cI, 16, .inl (qp))), (h2, .inl (cI, 16, .inl (qt))), (h3, .inl (cI, 16, .inl (qd))), (h4, .inl (cI, 16 * L, .inl (qr)))]) [0, 1, 2, 3, 4] rfl
  have hD := hD.sub (ws' := [(h0, .inr (1, [.int (nI (qs)), .int (nI (qf)), .int (nI L), .ref (h1), .ref (h2), .ref (h3), .ref (h4)])), (h1, .inl (cI, 16, .inl (qp))), (h2, .inl (cI, 16, .inl (qt))), (h3, .inl (cI, 16, .inl (qd))), (h4, .inl (cI, 16 * L, .inl (qr)))]) [0, 1, 2, 3, 4] (by decide) rfl
  refine va_put (D := D) (ci := 1) (v := .int (nI (qf_ix (qp, qt, qd, qr, qs, qf) (1)))) (ty := .int) (C := RX1) (T := TX1) (N := 7) hx hb hts (fun w h => List.mem_cons_of_mem _ (hiX1 w h)) tyX1 tyX1_ok nmX1 hown hK hP hD hS 0 rfl rfl 1 (by decide) kf44 (fun _ h9 => h9) rfl (by decide +kernel) rfl rfl (Nat.le_of_ble_eq_true rfl) dX1_dropOldest_6 (fun H locs hP hD hS => ?_)
  have hP : va_P D vwCl [(h0, .inr (1, [.int (nI (qs)), .int (nI (qf_ix (qp, qt, qd, qr, qs, qf) (1))), .int (nI L), .ref (h1), .ref (h2), .ref (h3), .ref (h4)])), (h1, .inl (cI, 16, .inl (qp))), (h2, .inl (cI, 16, .inl (qt))), (h3, .inl (cI, 16, .inl (qd))), (h4, .inl (cI, 16 * L, .inl (qr)))] H := hP
  have hD : va_D A [(h0, .inr (1, [.int (nI (qs)), .int (nI (qf_ix (qp, qt, qd, qr, qs, qf) (1))), .int (nI L), .ref (h1), .ref (h2), .ref (h3), .ref (h4)])), (h1, .inl (cI, 16, .inl (qp))), (h2, .inl (cI, 16, .inl (qt))), (h3, .inl (cI, 16, .inl (qd))), (h4, .inl (cI, 16 * L, .inl (qr)))] := hD
  refine lv_aload_n hx hb dX1_dropOldest_9 rfl (lv_at hl 0 rfl) ?_
  refine lv_dup hx hb dX1_dropOldest_10 rfl ?_
  refine va_get (D := D) (ci := 1) (v := .int (nI (qs))) (C := RX1) (T := TX1) (N := 7) hx hb hts (fun w h => List.mem_cons_of_mem _ (hiX1 w h)) hown hK hP 0 rfl rfl 0 (by decide) kf28 (fun _ h9 => h9) rfl dX1_dropOldest_11 ?_
  refine lv_iconst (v := 1) hx hb dX1_dropOldest_14 (by decide) ?_
  refine lv_isub hx hb dX1_dropOldest_15 ?_
  refine kt_i (y := nI (qs - 1)) (pk_sub (b := 1) (by omega)) ?_
  refine va_put (D := D) (ci := 1) (v := .int (nI (qs - 1))) (ty := .int) (C := RX1) (T := TX1) (N := 7) hx hb hts (fun w h => List.mem_cons_of_mem _ (hiX1 w h)) tyX1 tyX1_ok nmX1 hown hK hP hD hS 0 rfl rfl 0 (by decide) kf28 (fun _ h9 => h9) rfl (by decide +kernel) rfl rfl (Nat.le_of_ble_eq_true rfl) dX1_dropOldest_16 (fun H locs hP hD hS => ?_)
  have hP : va_P D vwCl [(h0, .inr (1, [.int (nI (qs - 1)), .int (nI (qf_ix (qp, qt, qd, qr, qs, qf) (1))), .int (nI L), .ref (h1), .ref (h2), .ref (h3), .ref (h4)])), (h1, .inl (cI, 16, .inl (qp))), (h2, .inl (cI, 16, .inl (qt))), (h3, .inl (cI, 16, .inl (qd))), (h4, .inl (cI, 16 * L, .inl (qr)))] H := hP
  have hD : va_D A [(h0, .inr (1, [.int (nI (qs - 1)), .int (nI (qf_ix (qp, qt, qd, qr, qs, qf) (1))), .int (nI L), .ref (h1), .ref (h2), .ref (h3), .ref (h4)])), (h1, .inl (cI, 16, .inl (qp))), (h2, .inl (cI, 16, .inl (qt))), (h3, .inl (cI, 16, .inl (qd))), (h4, .inl (cI, 16 * L, .inl (qr)))] := hD
  exact kr_v (rfl) hx hb hr hlocks hP hK hD hS trivial dX1_dropOldest_19

set_option maxHeartbeats 4000000 in
set_option maxRecDepth 100000 in
/-- the ring as it was before the oldest place was told -/
theorem c_X1_giveBack (l : Launch) (D : va_G) (cI cJ cZ : ClassId) (sz : Nat) (h0 h1 h2 h3 h4 : Nat) (L : Nat) (qp qt qd qr : Fn) (qs qf : Nat) (g0 g1 : Nat) (rp : Fn) (rd : Nat) (ro ru : Int32) (d0 : Nat) (hd0 : qd qf = nI d0) (hdL : d0 ≤ L) (hf : qf < 16) (hL : L < 2 ^ 10) : KV l yX1_giveBack wsX1_giveBack ({ frames := 2, cells := 0, slots := 0, locals := 41 } : Room) D (kTy cI cJ cZ) [.ref (h0), .ref (g0)] [(h0, .inr (1, [.int (nI (qs)), .int (nI (qf)), .int (nI L), .ref (h1), .ref (h2), .ref (h3), .ref (h4)])), (h1, .inl (cI, 16, .inl (qp))), (h2, .inl (cI, 16, .inl (qt))), (h3, .inl (cI, 16, .inl (qd))), (h4, .inl (cI, 16 * L, .inl (qr))), (g0, .inr (2, [.int (nI L), .int (nI (rd)), .int (ro), .int (ru), .ref (g1)])), (g1, .inl (cI, L, .inl (rp)))] sz (wQue h0 h1 h2 h3 h4 cI L (qp, qt, qd, qr, qs, qf) ++ wRet g0 g1 cI L (va_cpy qr rp (qf * L) 0 d0, d0, ro, ru)) 0 0 := by
  refine Met.ofW (cc := cX1_giveBack) (maxL := 2) (ret := none) (by decide) rfl ?_
  intro p e s m args below meth c s₁ B hml hv
  obtain ⟨rfl, hsz, hP, hK, hD0⟩ := hv
  have hx := B.exec
  have hb := B.bytes
  have hr := B.returns
  have hts := atoms_spec (ws := wsX1_giveBack) B.pre
  have hown : s.vm.findClass RX1 = some m.cls := findClass_of_methodNamed B.named
  have hlocks := B.notSynchronized
  have kf22 := hts (.fieldLink RX1 22 "TargetRows$Queue" "depths" "[I") (List.mem_cons_of_mem _ kw_156)
  have kf25 := hts (.fieldLink RX1 25 "TargetRows$Queue" "rings" "[I") (List.mem_cons_of_mem _ kw_157)
  have kf44 := hts (.fieldLink RX1 44 "TargetRows$Queue" "first" "I") (List.mem_cons_of_mem _ kw_152)
  have kf9 := hts (.fieldLink RX1 9 "TargetRows$Queue" "ringLength" "I") (List.mem_cons_of_mem _ kw_153)
  subst hsz
  have hD := hD0.self (sz := s.heap.size)
  generalize hAe : va_A [(h0, .inr (1, [.int (nI (qs)), .int (nI (qf)), .int (nI L), .ref (h1), .ref (h2), .ref (h3), .ref (h4)])), (h1, .inl (cI, 16, .inl (qp))), (h2, .inl (cI, 16, .inl (qt))), (h3, .inl (cI, 16, .inl (qd))), (h4, .inl (cI, 16 * L, .inl (qr))), (g0, .inr (2, [.int (nI L), .int (nI (rd)), .int (ro), .int (ru), .ref (g1)])), (g1, .inl (cI, L, .inl (rp)))] s.heap.size = A at hD ⊢
  have hA : ∀ q : Nat, s.heap.size ≤ q → A q := fun q h => by rw [← hAe]; exact Or.inr h
  have hS : va_S A s.heap s.heap [] := va_S.rf
  have hP : va_P D vwCl [(h0, .inr (1, [.int (nI (qs)), .int (nI (qf)), .int (nI L), .ref (h1), .ref (h2), .ref (h3), .ref (h4)])), (h1, .inl (cI, 16, .inl (qp))), (h2, .inl (cI, 16, .inl (qt))), (h3, .inl (cI, 16, .inl (qd))), (h4, .inl (cI, 16 * L, .inl (qr))), (g0, .inr (2, [.int (nI L), .int (nI (rd)), .int (ro), .int (ru), .ref (g1)])), (g1, .inl (cI, L, .inl (rp)))] s.heap := hP
  have hD : va_D A [(h0, .inr (1, [.int (nI (qs)), .int (nI (qf)), .int (nI L), .ref (h1), .ref (h2), .ref (h3), .ref (h4)])), (h1, .inl (cI, 16, .inl (qp))), (h2, .inl (cI, 16, .inl (qt))), (h3, .inl (cI, 16, .inl (qd))), (h4, .inl (cI, 16 * L, .inl (qr))), (g0, .inr (2, [.int (nI L), .int (nI (rd)), .int (ro), .int (ru), .ref (g1)])), (g1, .inl (cI, L, .inl (rp)))] := hD
  have hl := lv_entry ([.ref (h0), .ref (g0)]) (n := 2) (Nat.le_of_ble_eq_true rfl)
  rw [lg_entry_eq]
  generalize (lg_sl ([.ref (h0), .ref (g0)]) ++ List.replicate (2 - (lg_sl ([.ref (h0), .ref (g0)])).length) Slot.unset).toArray = ls at hl ⊢
  have hl : lv_has ls 2 [(0, .ref (h0)), (1, .ref (g0))] := hl
  refine lv_aload_n hx hb dX1_giveBack_0 rfl (lv_at hl 1 rfl) ?_
  refine lv_aload_n hx hb dX1_giveBack_1 rfl (lv_at hl 0 rfl) ?_
  refine va_get (D := D) (ci := 1) (v := .ref (h4)) (C := RX1) (T := TX1) (N := 7) hx hb hts (fun w h => List.mem_cons_of_mem _ (hiX1 w h)) hown hK hP 0 rfl rfl 6 (by decide) kf25 (fun _ h9 => h9) rfl dX1_giveBack_2 ?_
  refine lv_aload_n hx hb dX1_giveBack_5 rfl (lv_at hl 0 rfl) ?_
  refine va_get (D := D) (ci := 1) (v := .int (nI (qf))) (C := RX1) (T := TX1) (N := 7) hx hb hts (fun w h => List.mem_cons_of_mem _ (hiX1 w h)) hown hK hP 0 rfl rfl 1 (by decide) kf44 (fun _ h9 => h9) rfl dX1_giveBack_6 ?_
  refine lv_aload_n hx hb dX1_giveBack_9 rfl (lv_at hl 0 rfl) ?_
  refine va_get (D := D) (ci := 1) (v := .int (nI L)) (C := RX1) (T := TX1) (N := 7) hx hb hts (fun w h => List.mem_cons_of_mem _ (hiX1 w h)) hown hK hP 0 rfl rfl 2 (by decide) kf9 (fun _ h9 => h9) rfl dX1_giveBack_10 ?_
  refine lv_imul hx hb dX1_giveBack_13 ?_
  refine kt_i (y := nI (qf * L)) (pk_mul _ _) ?_
  refine lv_aload_n hx hb dX1_giveBack_14 rfl (lv_at hl 0 rfl) ?_
  refine va_get (D := D) (ci := 1) (v := .ref (h3)) (C := RX1) (T := TX1) (N := 7) hx hb hts (fun w h => List.mem_cons_of_mem _ (hiX1 w h)) hown hK hP 0 rfl rfl 5 (by decide) kf22 (fun _ h9 => h9) rfl dX1_giveBack_15 ?_
  refine lv_aload_n hx hb dX1_giveBack_18 rfl (lv_at hl 0 rfl) ?_
  refine va_get (D := D) (ci := 1) (v := .int (nI (qf))) (C := RX1) (T := TX1) (N := 7) hx hb hts (fun w h => List.mem_cons_of_mem _ (hiX1 w h)) hown hK hP 0 rfl rfl 1 (by decide) kf44 (fun _ h9 => h9) rfl dX1_giveBack_19 ?_
  refine ka_ild hx hb hK hP 3 0 rfl rfl (k := qf) (rfl) (⟨hf, by decide⟩) dX1_giveBack_22 ?_
  refine kt_i (y := nI (d0)) (hd0) ?_
  refine kc_v (wc := [(g0, .inr (2, [.int (nI L), .int (nI (rd)), .int (ro), .int (ru), .ref (g1)])), (g1, .inl (cI, L, .inl (rp))), (h4, .inl (cI, 16 * L, .inl (qr)))]) (wr := [(h0, .inr (1, [.int (nI (qs)), .int (nI (qf)), .int (nI L), .ref (h1), .ref (h2), .ref (h3), .ref (h4)])), (h1, .inl (cI, 16, .inl (qp))), (h2, .inl (cI, 16, .inl (qt))), (h3, .inl (cI, 16, .inl (qd)))]) [5, 6, 4] [0, 1, 2, 3] rfl rfl (by decide) (by decide) hP hD hS hA (va_runV (As := [.ref (h4), .int (nI (qf * L)), .int (nI (d0))]) (rest := []) ⟨hx, hb, hml, hown, hts⟩ (c_X2_copyFrom l D cI cJ cZ _ _ _ _ _ _ _ _ _ _ _ _ _ hdL (by omega) (q_room hf hdL) (by omega)) (cwV 3 hts (kw_V kw_245 kw_246 kw_247 kw_31 kw_248) rfl rfl rfl (by decide +kernel) ⟨Nat.le_of_ble_eq_true rfl, Nat.le_of_ble_eq_true rfl⟩) ⟨kP_blind, va_recv hK (hP.sub (ws' := [(g0, .inr (2, [.int (nI L), .int (nI (rd)), .int (ro), .int (ru), .ref (g1)])), (g1, .inl (cI, L, .inl (rp))), (h4, .inl (cI, 16 * L, .inl (qr)))]) [5, 6, 4] rfl) (ci := 2) (q0 := 0) rfl rfl, kP_at (hP.sub [5, 6, 4] rfl) hK (hD.sub [5, 6, 4] (by decide) rfl)⟩ rfl rfl hl.1 rfl (lv_room (Nat.le_of_ble_eq_true rfl)) dX1_giveBack_23 ⟨Nat.zero_le _, Nat.zero_le _⟩) (fun H locs hP hD hS => ?_)
  have hP := hP.sub (ws' := [(h0, .inr (1, [.int (nI (qs)), .int (nI (qf)), .int (nI L), .ref (h1), .ref (h2), .ref (h3), .ref (h4)])), (h1, .inl (cI, 16, .inl (qp))), (h2, .inl (cI, 16, .inl (qt))), (h3, .inl (cI, 16, .inl (qd))), (h4, .inl (cI, 16 * L, .inl (qr))), (g0, .inr (2, [.int (nI L), .int (nI (d0)), .int (ro), .int (ru), .ref (g1)])), (g1, .inl (cI, L, .inl (va_cpy (qr) (rp) (qf * L) 0 (d0))))]) [0, 1, 2, 3, 6, 4, 5] rfl
  have hD := hD.sub (ws' := [(h0, .inr (1, [.int (nI (qs)), .int (nI (qf)), .int (nI L), .ref (h1), .ref (h2), .ref (h3), .ref (h4)])), (h1, .inl (cI, 16, .inl (qp))), (h2, .inl (cI, 16, .inl (qt))), (h3, .inl (cI, 16, .inl (qd))), (h4, .inl (cI, 16 * L, .inl (qr))), (g0, .inr (2, [.int (nI L), .int (nI (d0)), .int (ro), .int (ru), .ref (g1)])), (g1, .inl (cI, L, .inl (va_cpy (qr) (rp) (qf * L) 0 (d0))))]) [0, 1, 2, 3, 6, 4, 5] (by decide) rfl
  exact kr_v (rfl) hx hb hr hlocks hP hK hD hS trivial dX1_giveBack_26

set_option maxHeartbeats 4000000 in
set_option maxRecDepth 100000 in
/-- a place comes into the queue -/
theorem c_X1_add (l : Launch) (D : va_G) (cI cJ cZ : ClassId) (sz : Nat) (h0 h1 h2 h3 h4 : Nat) (L : Nat) (qp qt qd qr : Fn) (qs qf : Nat) (g0 g1 : Nat) (rp : Fn) (rd : Nat) (ro ru : Int32) (p0 p1 : Int32) (hs : qs ≤ 16) (hd : rd ≤ L) (hf : qf < 16) (hL : L < 2 ^ 10) : KV l yX1_add wsX1_add ({ frames := 2, cells := 0, slots := 0, locals := 40 } : Room) D (kTy cI cJ cZ) [.ref (h0), .int (p0), .int (p1), .ref (g0)] [(h0, .inr (1, [.int (nI (qs)), .int (nI (qf)), .int (nI L), .ref (h1), .ref (h2), .ref (h3), .ref (h4)])), (h1, .inl (cI, 16, .inl (qp))), (h2, .inl (cI, 16, .inl (qt))), (h3, .inl (cI, 16, .inl (qd))), (h4, .inl (cI, 16 * L, .inl (qr))), (g0, .inr (2, [.int (nI L), .int (nI (rd)), .int (ro), .int (ru), .ref (g1)])), (g1, .inl (cI, L, .inl (rp)))] sz (wQue h0 h1 h2 h3 h4 cI L (qf_add L (qp, qt, qd, qr, qs, qf) p0 p1 (rp, rd, ro, ru)) ++ wRet g0 g1 cI L (rp, rd, ro, ru)) 0 0 := by
  refine Met.ofW (cc := cX1_add) (maxL := 5) (ret := none) (by decide) rfl ?_
  intro p e s m args below meth c s₁ B hml hv
  obtain ⟨rfl, hsz, hP, hK, hD0⟩ := hv
  have hx := B.exec
  have hb := B.bytes
  have hr := B.returns
  have hts := atoms_spec (ws := wsX1_add) B.pre
  have hown : s.vm.findClass RX1 = some m.cls := findClass_of_methodNamed B.named
  have hlocks := B.notSynchronized
  have kf15 := hts (.fieldLink RX1 15 "TargetRows$Queue" "places" "[I") (List.mem_cons_of_mem _ kw_154)
  have kf19 := hts (.fieldLink RX1 19 "TargetRows$Queue" "told" "[I") (List.mem_cons_of_mem _ kw_155)
  have kf22 := hts (.fieldLink RX1 22 "TargetRows$Queue" "depths" "[I") (List.mem_cons_of_mem _ kw_156)
  have kf25 := hts (.fieldLink RX1 25 "TargetRows$Queue" "rings" "[I") (List.mem_cons_of_mem _ kw_157)
  have kf28 := hts (.fieldLink RX1 28 "TargetRows$Queue" "size" "I") (List.mem_cons_of_mem _ kw_150)
  have kf35 := hts (.fieldLink RX1 35 "TargetRows$Returns" "depth" "I") (List.mem_cons_of_mem _ kw_126)
  have kf9 := hts (.fieldLink RX1 9 "TargetRows$Queue" "ringLength" "I") (List.mem_cons_of_mem _ kw_153)
  subst hsz
  have hD := hD0.self (sz := s.heap.size)
  generalize hAe : va_A [(h0, .inr (1, [.int (nI (qs)), .int (nI (qf)), .int (nI L), .ref (h1), .ref (h2), .ref (h3), .ref (h4)])), (h1, .inl (cI, 16, .inl (qp))), (h2, .inl (cI, 16, .inl (qt))), (h3, .inl (cI, 16, .inl (qd))), (h4, .inl (cI, 16 * L, .inl (qr))), (g0, .inr (2, [.int (nI L), .int (nI (rd)), .int (ro), .int (ru), .ref (g1)])), (g1, .inl (cI, L, .inl (rp)))] s.heap.size = A at hD ⊢
  have hA : ∀ q : Nat, s.heap.size ≤ q → A q := fun q h => by rw [← hAe]; exact Or.inr h
  have hS : va_S A s.heap s.heap [] := va_S.rf
  have hP : va_P D vwCl [(h0, .inr (1, [.int (nI (qs)), .int (nI (qf)), .int (nI L), .ref (h1), .ref (h2), .ref (h3), .ref (h4)])), (h1, .inl (cI, 16, .inl (qp))), (h2, .inl (cI, 16, .inl (qt))), (h3, .inl (cI, 16, .inl (qd))), (h4, .inl (cI, 16 * L, .inl (qr))), (g0, .inr (2, [.int (nI L), .int (nI (rd)), .int (ro), .int (ru), .ref (g1)])), (g1, .inl (cI, L, .inl (rp)))] s.heap := hP
  have hD : va_D A [(h0, .inr (1, [.int (nI (qs)), .int (nI (qf)), .int (nI L), .ref (h1), .ref (h2), .ref (h3), .ref (h4)])), (h1, .inl (cI, 16, .inl (qp))), (h2, .inl (cI, 16, .inl (qt))), (h3, .inl (cI, 16, .inl (qd))), (h4, .inl (cI, 16 * L, .inl (qr))), (g0, .inr (2, [.int (nI L), .int (nI (rd)), .int (ro), .int (ru), .ref (g1)])), (g1, .inl (cI, L, .inl (rp)))] := hD
  have hl := lv_entry ([.ref (h0), .int (p0), .int (p1), .ref (g0)]) (n := 5) (Nat.le_of_ble_eq_true rfl)
  rw [lg_entry_eq]
  generalize (lg_sl ([.ref (h0), .int (p0), .int (p1), .ref (g0)]) ++ List.replicate (5 - (lg_sl ([.ref (h0), .int (p0), .int (p1), .ref (g0)])).length) Slot.unset).toArray = ls at hl ⊢
  have hl : lv_has ls 5 [(0, .ref (h0)), (1, .int (p0)), (2, .int (p1)), (3, .ref (g0))] := hl
  refine lv_aload_n hx hb dX1_add_0 rfl (lv_at hl 0 rfl) ?_
  refine lv_aload_n hx hb dX1_add_1 rfl (lv_at hl 0 rfl) ?_
  refine va_get (D := D) (ci := 1) (v := .int (nI (qs))) (C := RX1) (T := TX1) (N := 7) hx hb hts (fun w h => List.mem_cons_of_mem _ (hiX1 w h)) hown hK hP 0 rfl rfl 0 (by decide) kf28 (fun _ h9 => h9) rfl dX1_add_2 ?_
  refine kc_i (wc := [(h0, .inr (1, [.int (nI (qs)), .int (nI (qf)), .int (nI L), .ref (h1), .ref (h2), .ref (h3), .ref (h4)])), (h1, .inl (cI, 16, .inl (qp))), (h2, .inl (cI, 16, .inl (qt))), (h3, .inl (cI, 16, .inl (qd))), (h4, .inl (cI, 16 * L, .inl (qr)))]) (wr := [(g0, .inr (2, [.int (nI L), .int (nI (rd)), .int (ro), .int (ru), .ref (g1)])), (g1, .inl (cI, L, .inl (rp)))]) [0, 1, 2, 3, 4] [5, 6] rfl rfl (by decide) (by decide) hP hD hS hA (va_runV (As := [.int (nI (qs))]) (rest := []) ⟨hx, hb, hml, hown, hts⟩ (c_X1_indexOf l D cI cJ cZ _ _ _ _ _ _ _ _ _ _ _ _ _ _ (by omega) hf hL) (cwV 1 hts (kw_V kw_348 kw_350 kw_5 kw_32 kw_351) rfl rfl rfl (by decide +kernel) ⟨Nat.le_of_ble_eq_true rfl, Nat.le_of_ble_eq_true rfl⟩) ⟨kP_blind, va_recv hK (hP.sub (ws' := [(h0, .inr (1, [.int (nI (qs)), .int (nI (qf)), .int (nI L), .ref (h1), .ref (h2), .ref (h3), .ref (h4)])), (h1, .inl (cI, 16, .inl (qp))), (h2, .inl (cI, 16, .inl (qt))), (h3, .inl (cI, 16, .inl (qd))), (h4, .inl (cI, 16 * L, .inl (qr)))]) [0, 1, 2, 3, 4] rfl) (ci := 1) (q0 := 0) rfl rfl, kP_at (hP.sub [0, 1, 2, 3, 4] rfl) hK (hD.sub [0, 1, 2, 3, 4] (by decide) rfl)⟩ rfl rfl hl.1 rfl (lv_room (Nat.le_of_ble_eq_true rfl)) dX1_add_5 ⟨Nat.zero_le _, Nat.zero_le _⟩) (fun H locs hP hD hS => ?_)
  have hP := hP.sub (ws' := [(h0, .inr (1, [.int (nI (qs)), .int (nI (qf)), .int (nI L), .ref (h1), .ref (h2), .ref (h3), .ref (h4)])), (h1, .inl (cI, 16, .inl (qp))), (h2, .inl (cI, 16, .inl (qt))), (h3, .inl (cI, 16, .inl (qd))), (h4, .inl (cI, 16 * L, .inl (qr))), (g0, .inr (2, [.int (nI L), .int (nI (rd)), .int (ro), .int (ru), .ref (g1)])), (g1, .inl (cI, L, .inl (rp)))]) [2, 3, 4, 5, 6, 0, 1] rfl
  have hD := hD.sub (ws' := [(h0, .inr (1, [.int (nI (qs)), .int (nI (qf)), .int (nI L), .ref (h1), .ref (h2), .ref (h3), .ref (h4)])), (h1, .inl (cI, 16, .inl (qp))), (h2, .inl (cI, 16, .inl (qt))), (h3, .inl (cI, 16, .inl (qd))), (h4, .inl (cI, 16 * L, .inl (qr))), (g0, .inr (2, [.int (nI L), .int (nI (rd)), .int (ro), .int (ru), .ref (g1)])), (g1, .inl (cI, L, .inl (rp)))]) [2, 3, 4, 5, 6, 0, 1] (by decide) rfl
  refine lv_istore (lv' := [(4, .int (nI (qf_ix (qp, qt, qd, qr, qs, qf) (qs)))), (0, .ref (h0)), (1, .int (p0)), (2, .int (p1)), (3, .ref (g0))]) hx hb dX1_add_8 hl (by decide) rfl (fun ls hl => ?_)
  refine lv_aload_n hx hb dX1_add_10 rfl (lv_at hl 1 rfl) ?_
  refine va_get (D := D) (ci := 1) (v := .ref (h1)) (C := RX1) (T := TX1) (N := 7) hx hb hts (fun w h => List.mem_cons_of_mem _ (hiX1 w h)) hown hK hP 0 rfl rfl 3 (by decide) kf15 (fun _ h9 => h9) rfl dX1_add_11 ?_
  refine lv_iload hx hb dX1_add_14 (lv_at hl 0 rfl) ?_
  refine lv_iload_n hx hb dX1_add_16 rfl (lv_at hl 2 rfl) ?_
  refine ka_ist hx hb hK hP hD hS 1 0 rfl rfl (k := qf_ix (qp, qt, qd, qr, qs, qf) (qs)) (rfl) (⟨qf_ix_lt _ _, by decide⟩) dX1_add_17 (fun H locs hP hD hS => ?_)
  have hP : va_P D vwCl [(h0, .inr (1, [.int (nI (qs)), .int (nI (qf)), .int (nI L), .ref (h1), .ref (h2), .ref (h3), .ref (h4)])), (h1, .inl (cI, 16, .inl (upd (qp) (qf_ix (qp, qt, qd, qr, qs, qf) (qs)) (p0)))), (h2, .inl (cI, 16, .inl (qt))), (h3, .inl (cI, 16, .inl (qd))), (h4, .inl (cI, 16 * L, .inl (qr))), (g0, .inr (2, [.int (nI L), .int (nI (rd)), .int (ro), .int (ru), .ref (g1)])), (g1, .inl (cI, L, .inl (rp)))] H := hP
  have hD : va_D A [(h0, .inr (1, [.int (nI (qs)), .int (nI (qf)), .int (nI L), .ref (h1), .ref (h2), .ref (h3), .ref (h4)])), (h1, .inl (cI, 16, .inl (upd (qp) (qf_ix (qp, qt, qd, qr, qs, qf) (qs)) (p0)))), (h2, .inl (cI, 16, .inl (qt))), (h3, .inl (cI, 16, .inl (qd))), (h4, .inl (cI, 16 * L, .inl (qr))), (g0, .inr (2, [.int (nI L), .int (nI (rd)), .int (ro), .int (ru), .ref (g1)])), (g1, .inl (cI, L, .inl (rp)))] := hD
  refine lv_aload_n hx hb dX1_add_18 rfl (lv_at hl 1 rfl) ?_
  refine va_get (D := D) (ci := 1) (v := .ref (h2)) (C := RX1) (T := TX1) (N := 7) hx hb hts (fun w h => List.mem_cons_of_mem _ (hiX1 w h)) hown hK hP 0 rfl rfl 4 (by decide) kf19 (fun _ h9 => h9) rfl dX1_add_19 ?_
  refine lv_iload hx hb dX1_add_22 (lv_at hl 0 rfl) ?_
  refine lv_iload_n hx hb dX1_add_24 rfl (lv_at hl 3 rfl) ?_
  refine ka_ist hx hb hK hP hD hS 2 0 rfl rfl (k := qf_ix (qp, qt, qd, qr, qs, qf) (qs)) (rfl) (⟨qf_ix_lt _ _, by decide⟩) dX1_add_25 (fun H locs hP hD hS => ?_)
  have hP : va_P D vwCl [(h0, .inr (1, [.int (nI (qs)), .int (nI (qf)), .int (nI L), .ref (h1), .ref (h2), .ref (h3), .ref (h4)])), (h1, .inl (cI, 16, .inl (upd (qp) (qf_ix (qp, qt, qd, qr, qs, qf) (qs)) (p0)))), (h2, .inl (cI, 16, .inl (upd (qt) (qf_ix (qp, qt, qd, qr, qs, qf) (qs)) (p1)))), (h3, .inl (cI, 16, .inl (qd))), (h4, .inl (cI, 16 * L, .inl (qr))), (g0, .inr (2, [.int (nI L), .int (nI (rd)), .int (ro), .int (ru), .ref (g1)])), (g1, .inl (cI, L, .inl (rp)))] H := hP
  have hD : va_D A [(h0, .inr (1, [.int (nI (qs)), .int (nI (qf)), .int (nI L), .ref (h1), .ref (h2), .ref (h3), .ref (h4)])), (h1, .inl (cI, 16, .inl (upd (qp) (qf_ix (qp, qt, qd, qr, qs, qf) (qs)) (p0)))), (h2, .inl (cI, 16, .inl (upd (qt) (qf_ix (qp, qt, qd, qr, qs, qf) (qs)) (p1)))), (h3, .inl (cI, 16, .inl (qd))), (h4, .inl (cI, 16 * L, .inl (qr))), (g0, .inr (2, [.int (nI L), .int (nI (rd)), .int (ro), .int (ru), .ref (g1)])), (g1, .inl (cI, L, .inl (rp)))] := hD
  refine lv_aload_n hx hb dX1_add_26 rfl (lv_at hl 1 rfl) ?_
  refine va_get (D := D) (ci := 1) (v := .ref (h3)) (C := RX1) (T := TX1) (N := 7) hx hb hts (fun w h => List.mem_cons_of_mem _ (hiX1 w h)) hown hK hP 0 rfl rfl 5 (by decide) kf22 (fun _ h9 => h9) rfl dX1_add_27 ?_
  refine lv_iload hx hb dX1_add_30 (lv_at hl 0 rfl) ?_
  refine lv_aload_n hx hb dX1_add_32 rfl (lv_at hl 4 rfl) ?_
  refine va_get (D := D) (ci := 2) (v := .int (nI (rd))) (C := RX2) (T := TX2) (N := 5) hx hb hts (fun w h => List.mem_cons_of_mem _ (hiX2 w h)) hown hK hP 5 rfl rfl 1 (by decide) kf35 (fun _ h9 => h9) rfl dX1_add_33 ?_
  refine ka_ist hx hb hK hP hD hS 3 0 rfl rfl (k := qf_ix (qp, qt, qd, qr, qs, qf) (qs)) (rfl) (⟨qf_ix_lt _ _, by decide⟩) dX1_add_36 (fun H locs hP hD hS => ?_)
  have hP : va_P D vwCl [(h0, .inr (1, [.int (nI (qs)), .int (nI (qf)), .int (nI L), .ref (h1), .ref (h2), .ref (h3), .ref (h4)])), (h1, .inl (cI, 16, .inl (upd (qp) (qf_ix (qp, qt, qd, qr, qs, qf) (qs)) (p0)))), (h2, .inl (cI, 16, .inl (upd (qt) (qf_ix (qp, qt, qd, qr, qs, qf) (qs)) (p1)))), (h3, .inl (cI, 16, .inl (upd (qd) (qf_ix (qp, qt, qd, qr, qs, qf) (qs)) (nI (rd))))), (h4, .inl (cI, 16 * L, .inl (qr))), (g0, .inr (2, [.int (nI L), .int (nI (rd)), .int (ro), .int (ru), .ref (g1)])), (g1, .inl (cI, L, .inl (rp)))] H := hP
  have hD : va_D A [(h0, .inr (1, [.int (nI (qs)), .int (nI (qf)), .int (nI L), .ref (h1), .ref (h2), .ref (h3), .ref (h4)])), (h1, .inl (cI, 16, .inl (upd (qp) (qf_ix (qp, qt, qd, qr, qs, qf) (qs)) (p0)))), (h2, .inl (cI, 16, .inl (upd (qt) (qf_ix (qp, qt, qd, qr, qs, qf) (qs)) (p1)))), (h3, .inl (cI, 16, .inl (upd (qd) (qf_ix (qp, qt, qd, qr, qs, qf) (qs)) (nI (rd))))), (h4, .inl (cI, 16 * L, .inl (qr))), (g0, .inr (2, [.int (nI L), .int (nI (rd)), .int (ro), .int (ru), .ref (g1)])), (g1, .inl (cI, L, .inl (rp)))] := hD
  refine lv_aload_n hx hb dX1_add_37 rfl (lv_at hl 4 rfl) ?_
  refine lv_aload_n hx hb dX1_add_38 rfl (lv_at hl 1 rfl) ?_
  refine va_get (D := D) (ci := 1) (v := .ref (h4)) (C := RX1) (T := TX1) (N := 7) hx hb hts (fun w h => List.mem_cons_of_mem _ (hiX1 w h)) hown hK hP 0 rfl rfl 6 (by decide) kf25 (fun _ h9 => h9) rfl dX1_add_39 ?_
  refine lv_iload hx hb dX1_add_42 (lv_at hl 0 rfl) ?_
  refine lv_aload_n hx hb dX1_add_44 rfl (lv_at hl 1 rfl) ?_
  refine va_get (D := D) (ci := 1) (v := .int (nI L)) (C := RX1) (T := TX1) (N := 7) hx hb hts (fun w h => List.mem_cons_of_mem _ (hiX1 w h)) hown hK hP 0 rfl rfl 2 (by decide) kf9 (fun _ h9 => h9) rfl dX1_add_45 ?_
  refine lv_imul hx hb dX1_add_48 ?_
  refine kt_i (y := nI (qf_ix (qp, qt, qd, qr, qs, qf) (qs) * L)) (pk_mul _ _) ?_
  refine kc_v (wc := [(g0, .inr (2, [.int (nI L), .int (nI (rd)), .int (ro), .int (ru), .ref (g1)])), (g1, .inl (cI, L, .inl (rp))), (h4, .inl (cI, 16 * L, .inl (qr)))]) (wr := [(h0, .inr (1, [.int (nI (qs)), .int (nI (qf)), .int (nI L), .ref (h1), .ref (h2), .ref (h3), .ref (h4)])), (h1, .inl (cI, 16, .inl (upd (qp) (qf_ix (qp, qt, qd, qr, qs, qf) (qs)) (p0)))), (h2, .inl (cI, 16, .inl (upd (qt) (qf_ix (qp, qt, qd, qr, qs, qf) (qs)) (p1)))), (h3, .inl (cI, 16, .inl (upd (qd) (qf_ix (qp, qt, qd, qr, qs, qf) (qs)) (nI (rd)))))]) [5, 6, 4] [0, 1, 2, 3] rfl rfl (by decide) (by decide) hP hD hS hA (va_runV (As := [.ref (h4), .int (nI (qf_ix (qp, qt, qd, qr, qs, qf) (qs) * L))]) (rest := []) ⟨hx, hb, hml, hown, hts⟩ (c_X2_copyTo l D cI cJ cZ _ _ _ _ _ _ _ _ _ _ _ _ hd (by omega) (q_room (qf_ix_lt _ _) hd) (by omega)) (cwV 2 hts (kw_V kw_352 kw_353 kw_354 kw_31 kw_355) rfl rfl rfl (by decide +kernel) ⟨Nat.le_of_ble_eq_true rfl, Nat.le_of_ble_eq_true rfl⟩) ⟨kP_blind, va_recv hK (hP.sub (ws' := [(g0, .inr (2, [.int (nI L), .int (nI (rd)), .int (ro), .int (ru), .ref (g1)])), (g1, .inl (cI, L, .inl (rp))), (h4, .inl (cI, 16 * L, .inl (qr)))]) [5, 6, 4] rfl) (ci := 2) (q0 := 0) rfl rfl, kP_at (hP.sub [5, 6, 4] rfl) hK (hD.sub [5, 6, 4] (by decide) rfl)⟩ rfl rfl hl.1 rfl (lv_room (Nat.le_of_ble_eq_true rfl)) dX1_add_49 ⟨Nat.zero_le _, Nat.zero_le _⟩) (fun H locs hP hD hS => ?_)
  have hP := hP.sub (ws' := [(h0, .inr (1, [.int (nI (qs)), .int (nI (qf)), .int (nI L), .ref (h1), .ref (h2), .ref (h3), .ref (h4)])), (h1, .inl (cI, 16, .inl (upd (qp) (qf_ix (qp, qt, qd, qr, qs, qf) (qs)) (p0)))), (h2, .inl (cI, 16, .inl (upd (qt) (qf_ix (qp, qt, qd, qr, qs, qf) (qs)) (p1)))), (h3, .inl (cI, 16, .inl (upd (qd) (qf_ix (qp, qt, qd, qr, qs, qf) (qs)) (nI (rd))))), (h4, .inl (cI, 16 * L, .inl (va_cpy (rp) (qr) 0 (qf_ix (qp, qt, qd, qr, qs, qf) (qs) * L) (rd)))), (g0, .inr (2, [.int (nI L), .int (nI (rd)), .int (ro), .int (ru), .ref (g1)])), (g1, .inl (cI, L, .inl (rp)))]) [0, 1, 2, 3, 6, 4, 5] rfl
  have hD := hD.sub (ws' := [(h0, .inr (1, [.int (nI (qs)), .int (nI (qf)), .int (nI L), .ref (h1), .ref (h2), .ref (h3), .ref (h4)])), (h1, .inl (cI, 16, .inl (upd (qp) (qf_ix (qp, qt, qd, qr, qs, qf) (qs)) (p0)))), (h2, .inl (cI, 16, .inl (upd (qt) (qf_ix (qp, qt, qd, qr, qs, qf) (qs)) (p1)))), (h3, .inl (cI, 16, .inl (upd (qd) (qf_ix (qp, qt, qd, qr, qs, qf) (qs)) (nI (rd))))), (h4, .inl (cI, 16 * L, .inl (va_cpy (rp) (qr) 0 (qf_ix (qp, qt, qd, qr, qs, qf) (qs) * L) (rd)))), (g0, .inr (2, [.int (nI L), .int (nI (rd)), .int (ro), .int (ru), .ref (g1)])), (g1, .inl (cI, L, .inl (rp)))]) [0, 1, 2, 3, 6, 4, 5] (by decide) rfl
  refine lv_aload_n hx hb dX1_add_52 rfl (lv_at hl 1 rfl) ?_
  refine lv_dup hx hb dX1_add_53 rfl ?_
  refine va_get (D := D) (ci := 1) (v := .int (nI (qs))) (C := RX1) (T := TX1) (N := 7) hx hb hts (fun w h => List.mem_cons_of_mem _ (hiX1 w h)) hown hK hP 0 rfl rfl 0 (by decide) kf28 (fun _ h9 => h9) rfl dX1_add_54 ?_
  refine lv_iconst (v := 1) hx hb dX1_add_57 (by decide) ?_
  refine lv_iadd hx hb dX1_add_58 ?_
  refine kt_i (y := nI (qs + 1)) (nI_1 _) ?_
  refine va_put (D := D) (ci := 1) (v := .int (nI (qs + 1))) (ty := .int) (C := RX1) (T := TX1) (N := 7) hx hb hts (fun w h => List.mem_cons_of_mem _ (hiX1 w h)) tyX1 tyX1_ok nmX1 hown hK hP hD hS 0 rfl rfl 0 (by decide) kf28 (fun _ h9 => h9) rfl (by decide +kernel) rfl rfl (Nat.le_of_ble_eq_true rfl) dX1_add_59 (fun H locs hP hD hS => ?_)
  have hP : va_P D vwCl [(h0, .inr (1, [.int (nI (qs + 1)), .int (nI (qf)), .int (nI L), .ref (h1), .ref (h2), .ref (h3), .ref (h4)])), (h1, .inl (cI, 16, .inl (upd (qp) (qf_ix (qp, qt, qd, qr, qs, qf) (qs)) (p0)))), (h2, .inl (cI, 16, .inl (upd (qt) (qf_ix (qp, qt, qd, qr, qs, qf) (qs)) (p1)))), (h3, .inl (cI, 16, .inl (upd (qd) (qf_ix (qp, qt, qd, qr, qs, qf) (qs)) (nI (rd))))), (h4, .inl (cI, 16 * L, .inl (va_cpy (rp) (qr) 0 (qf_ix (qp, qt, qd, qr, qs, qf) (qs) * L) (rd)))), (g0, .inr (2, [.int (nI L), .int (nI (rd)), .int (ro), .int (ru), .ref (g1)])), (g1, .inl (cI, L, .inl (rp)))] H := hP
  have hD : va_D A [(h0, .inr (1, [.int (nI (qs + 1)), .int (nI (qf)), .int (nI L), .ref (h1), .ref (h2), .ref (h3), .ref (h4)])), (h1, .inl (cI, 16, .inl (upd (qp) (qf_ix (qp, qt, qd, qr, qs, qf) (qs)) (p0)))), (h2, .inl (cI, 16, .inl (upd (qt) (qf_ix (qp, qt, qd, qr, qs, qf) (qs)) (p1)))), (h3, .inl (cI, 16, .inl (upd (qd) (qf_ix (qp, qt, qd, qr, qs, qf) (qs)) (nI (rd))))), (h4, .inl (cI, 16 * L, .inl (va_cpy (rp) (qr) 0 (qf_ix (qp, qt, qd, qr, qs, qf) (qs) * L) (rd)))), (g0, .inr (2, [.int (nI L), .int (nI (rd)), .int (ro), .int (ru), .ref (g1)])), (g1, .inl (cI, L, .inl (rp)))] := hD
  exact kr_v (rfl) hx hb hr hlocks hP hK hD hS trivial dX1_add_62
end
section
abbrev wTR (b0 b1 t0 t1 t2 t3 t4 u0 u1 u2 r0 r1 q0 q1 q2 q3 q4 : Nat) (cI : ClassId) (S Wy sb L : Nat) (c : Cs) : va_W := [(b0, .inr (4, [.ref (t0), .ref (u0), .ref (r0), .ref (q0), .ref (b1), .int (c.2.2.2.2.2.1), .int (c.2.2.2.2.2.2)])), (b1, .inl (cI, 7, .inl (c.2.2.2.2.1))), (t0, .inr (3, [.int (nI S), .int (nI Wy), .ref (t1), .ref (t2), .ref (t3), .int ((c.1).2.2.2.2.1), .int (nI sb), .ref (t4), .int ((c.1).2.2.2.2.2)])), (t1, .inl (cI, S * Wy, .inl ((c.1).1))), (t2, .inl (cI, S * Wy, .inl ((c.1).2.1))), (t3, .inl (cI, S * Wy, .inl ((c.1).2.2.1))), (t4, .inl (cI, S * Wy, .inl ((c.1).2.2.2.1))), (u0, .inr (0, [.ref (u1), .ref (u2), .int ((c.2.1).2.2)])), (u1, .inl (cI, 64, .inl ((c.2.1).1))), (u2, .inl (cI, 64, .inl ((c.2.1).2.1))), (r0, .inr (2, [.int (nI L), .int (nI ((c.2.2.1).2.1)), .int ((c.2.2.1).2.2.1), .int ((c.2.2.1).2.2.2), .ref (r1)])), (r1, .inl (cI, L, .inl ((c.2.2.1).1))), (q0, .inr (1, [.int (nI ((c.2.2.2.1).2.2.2.2.1)), .int (nI ((c.2.2.2.1).2.2.2.2.2)), .int (nI L), .ref (q1), .ref (q2), .ref (q3), .ref (q4)])), (q1, .inl (cI, 16, .inl ((c.2.2.2.1).1))), (q2, .inl (cI, 16, .inl ((c.2.2.2.1).2.1))), (q3, .inl (cI, 16, .inl ((c.2.2.2.1).2.2.1))), (q4, .inl (cI, 16 * L, .inl ((c.2.2.2.1).2.2.2.1)))]
end
section
set_option maxHeartbeats 4000000 in
set_option maxRecDepth 100000 in
/-- the place behind -/
theorem c_X4_behind (l : Launch) (D : va_G) (cI cJ cZ : ClassId) (sz : Nat) (p0 : Int32) : KI l yX4_behind wsX4_behind ({ frames := 0, cells := 0, slots := 0, locals := 0 } : Room) D (kTy cI cJ cZ) [.int (p0)] [] sz ([]) (p0 + 4) 0 0 := by
  refine Met.ofW (cc := cX4_behind) (maxL := 1) (ret := (some .int)) (by decide) rfl ?_
  intro p e s m args below meth c s₁ B hml hv
  obtain ⟨rfl, hsz, hP, hK, hD0⟩ := hv
  have hx := B.exec
  have hb := B.bytes
  have hr := B.returns
  have hts := atoms_spec (ws := wsX4_behind) B.pre
  have hown : s.vm.findClass RX4 = some m.cls := findClass_of_methodNamed B.named
  have hlocks := B.notSynchronized
  subst hsz
  have hD := hD0.self (sz := s.heap.size)
  generalize hAe : va_A [] s.heap.size = A at hD ⊢
  have hA : ∀ q : Nat, s.heap.size ≤ q → A q := fun q h => by rw [← hAe]; exact Or.inr h
  have hS : va_S A s.heap s.heap [] := va_S.rf
  have hP : va_P D vwCl [] s.heap := hP
  have hD : va_D A [] := hD
  have hl := lv_entry ([.int (p0)]) (n := 1) (Nat.le_of_ble_eq_true rfl)
  rw [lg_entry_eq]
  generalize (lg_sl ([.int (p0)]) ++ List.replicate (1 - (lg_sl ([.int (p0)])).length) Slot.unset).toArray = ls at hl ⊢
  have hl : lv_has ls 1 [(0, .int (p0))] := hl
  refine lv_iload_n hx hb dX4_behind_0 rfl (lv_at hl 0 rfl) ?_
  refine lv_iconst (v := 4) hx hb dX4_behind_1 (by decide) ?_
  refine lv_iadd hx hb dX4_behind_2 ?_
  exact kr_i (rfl) hx hb hr hlocks hP hK hD hS (rfl) dX4_behind_3

set_option maxHeartbeats 4000000 in
set_option maxRecDepth 100000 in
/-- what is told of a place with its slot -/
theorem c_X4_toldOf (l : Launch) (D : va_G) (cI cJ cZ : ClassId) (sz : Nat) (b0 b1 t0 t1 t2 t3 t4 u0 u1 u2 r0 r1 q0 q1 q2 q3 q4 : Nat) (S Wy sb L : Nat) (tg kd tt lu : Fn) (fl us : Int32) (hg hq : Fn) (hh : Int32) (rp : Fn) (rd : Nat) (ro ru : Int32) (qp qt qd qr : Fn) (qs qf : Nat) (an : Fn) (ck ls_ : Int32) (p0 : Int32) (so : Option Nat) (hso : ∀ o, so = some o → o < S * Wy) (hSs : S = 0 ∨ S = 2 ^ sb) (hS16 : S ≤ 16) (hsb : sb ≤ 4) (hW : 0 < Wy) (hW4 : Wy ≤ 4) (hd : rd ≤ L) (hL : L < 2 ^ 10) (hf : qf < 16) (hs : qs ≤ 16) : KI l yX4_toldOf wsX4_toldOf ({ frames := 2, cells := 0, slots := 0, locals := 43 } : Room) D (kTy cI cJ cZ) [.ref (b0), .int (p0), .int (tf_i so)] [(b0, .inr (4, [.ref (t0), .ref (u0), .ref (r0), .ref (q0), .ref (b1), .int (ck), .int (ls_)])), (b1, .inl (cI, 7, .inl (an))), (t0, .inr (3, [.int (nI S), .int (nI Wy), .ref (t1), .ref (t2), .ref (t3), .int (fl), .int (nI sb), .ref (t4), .int (us)])), (t1, .inl (cI, S * Wy, .inl (tg))), (t2, .inl (cI, S * Wy, .inl (kd))), (t3, .inl (cI, S * Wy, .inl (tt))), (t4, .inl (cI, S * Wy, .inl (lu))), (u0, .inr (0, [.ref (u1), .ref (u2), .int (hh)])), (u1, .inl (cI, 64, .inl (hg))), (u2, .inl (cI, 64, .inl (hq))), (r0, .inr (2, [.int (nI L), .int (nI (rd)), .int (ro), .int (ru), .ref (r1)])), (r1, .inl (cI, L, .inl (rp))), (q0, .inr (1, [.int (nI (qs)), .int (nI (qf)), .int (nI L), .ref (q1), .ref (q2), .ref (q3), .ref (q4)])), (q1, .inl (cI, 16, .inl (qp))), (q2, .inl (cI, 16, .inl (qt))), (q3, .inl (cI, 16, .inl (qd))), (q4, .inl (cI, 16 * L, .inl (qr)))] sz (wTR b0 b1 t0 t1 t2 t3 t4 u0 u1 u2 r0 r1 q0 q1 q2 q3 q4 cI S Wy sb L ((tg, kd, tt, lu, fl, us), (hg, hq, hh), (rp, rd, ro, ru), (qp, qt, qd, qr, qs, qf), an, ck, ls_)) (cf_told ((tg, kd, tt, lu, fl, us), (hg, hq, hh), (rp, rd, ro, ru), (qp, qt, qd, qr, qs, qf), an, ck, ls_) p0 so) 0 0 := by
  refine Met.ofW (cc := cX4_toldOf) (maxL := 4) (ret := (some .int)) (by decide) rfl ?_
  intro p e s m args below meth c s₁ B hml hv
  obtain ⟨rfl, hsz, hP, hK, hD0⟩ := hv
  have hx := B.exec
  have hb := B.bytes
  have hr := B.returns
  have hts := atoms_spec (ws := wsX4_toldOf) B.pre
  have hown : s.vm.findClass RX4 = some m.cls := findClass_of_methodNamed B.named
  have hlocks := B.notSynchronized
  have kf142 := hts (.fieldLink RX4 142 "TargetRows$Table" "targets" "[I") (List.mem_cons_of_mem _ kw_71)
  have kf149 := hts (.fieldLink RX4 149 "TargetRows$Returns" "depth" "I") (List.mem_cons_of_mem _ kw_127)
  have kf18 := hts (.fieldLink RX4 18 "TargetRows" "table" "LTargetRows$Table;") (List.mem_cons_of_mem _ kw_173)
  have kf27 := hts (.fieldLink RX4 27 "TargetRows" "rows" "LTargetRows$HistoryRows;") (List.mem_cons_of_mem _ kw_174)
  have kf36 := hts (.fieldLink RX4 36 "TargetRows" "stack" "LTargetRows$Returns;") (List.mem_cons_of_mem _ kw_175)
  have kf73 := hts (.fieldLink RX4 73 "TargetRows$Table" "kinds" "[I") (List.mem_cons_of_mem _ kw_69)
  subst hsz
  have hD := hD0.self (sz := s.heap.size)
  generalize hAe : va_A [(b0, .inr (4, [.ref (t0), .ref (u0), .ref (r0), .ref (q0), .ref (b1), .int (ck), .int (ls_)])), (b1, .inl (cI, 7, .inl (an))), (t0, .inr (3, [.int (nI S), .int (nI Wy), .ref (t1), .ref (t2), .ref (t3), .int (fl), .int (nI sb), .ref (t4), .int (us)])), (t1, .inl (cI, S * Wy, .inl (tg))), (t2, .inl (cI, S * Wy, .inl (kd))), (t3, .inl (cI, S * Wy, .inl (tt))), (t4, .inl (cI, S * Wy, .inl (lu))), (u0, .inr (0, [.ref (u1), .ref (u2), .int (hh)])), (u1, .inl (cI, 64, .inl (hg))), (u2, .inl (cI, 64, .inl (hq))), (r0, .inr (2, [.int (nI L), .int (nI (rd)), .int (ro), .int (ru), .ref (r1)])), (r1, .inl (cI, L, .inl (rp))), (q0, .inr (1, [.int (nI (qs)), .int (nI (qf)), .int (nI L), .ref (q1), .ref (q2), .ref (q3), .ref (q4)])), (q1, .inl (cI, 16, .inl (qp))), (q2, .inl (cI, 16, .inl (qt))), (q3, .inl (cI, 16, .inl (qd))), (q4, .inl (cI, 16 * L, .inl (qr)))] s.heap.size = A at hD ⊢
  have hA : ∀ q : Nat, s.heap.size ≤ q → A q := fun q h => by rw [← hAe]; exact Or.inr h
  have hS : va_S A s.heap s.heap [] := va_S.rf
  have hP : va_P D vwCl [(b0, .inr (4, [.ref (t0), .ref (u0), .ref (r0), .ref (q0), .ref (b1), .int (ck), .int (ls_)])), (b1, .inl (cI, 7, .inl (an))), (t0, .inr (3, [.int (nI S), .int (nI Wy), .ref (t1), .ref (t2), .ref (t3), .int (fl), .int (nI sb), .ref (t4), .int (us)])), (t1, .inl (cI, S * Wy, .inl (tg))), (t2, .inl (cI, S * Wy, .inl (kd))), (t3, .inl (cI, S * Wy, .inl (tt))), (t4, .inl (cI, S * Wy, .inl (lu))), (u0, .inr (0, [.ref (u1), .ref (u2), .int (hh)])), (u1, .inl (cI, 64, .inl (hg))), (u2, .inl (cI, 64, .inl (hq))), (r0, .inr (2, [.int (nI L), .int (nI (rd)), .int (ro), .int (ru), .ref (r1)])), (r1, .inl (cI, L, .inl (rp))), (q0, .inr (1, [.int (nI (qs)), .int (nI (qf)), .int (nI L), .ref (q1), .ref (q2), .ref (q3), .ref (q4)])), (q1, .inl (cI, 16, .inl (qp))), (q2, .inl (cI, 16, .inl (qt))), (q3, .inl (cI, 16, .inl (qd))), (q4, .inl (cI, 16 * L, .inl (qr)))] s.heap := hP
  have hD : va_D A [(b0, .inr (4, [.ref (t0), .ref (u0), .ref (r0), .ref (q0), .ref (b1), .int (ck), .int (ls_)])), (b1, .inl (cI, 7, .inl (an))), (t0, .inr (3, [.int (nI S), .int (nI Wy), .ref (t1), .ref (t2), .ref (t3), .int (fl), .int (nI sb), .ref (t4), .int (us)])), (t1, .inl (cI, S * Wy, .inl (tg))), (t2, .inl (cI, S * Wy, .inl (kd))), (t3, .inl (cI, S * Wy, .inl (tt))), (t4, .inl (cI, S * Wy, .inl (lu))), (u0, .inr (0, [.ref (u1), .ref (u2), .int (hh)])), (u1, .inl (cI, 64, .inl (hg))), (u2, .inl (cI, 64, .inl (hq))), (r0, .inr (2, [.int (nI L), .int (nI (rd)), .int (ro), .int (ru), .ref (r1)])), (r1, .inl (cI, L, .inl (rp))), (q0, .inr (1, [.int (nI (qs)), .int (nI (qf)), .int (nI L), .ref (q1), .ref (q2), .ref (q3), .ref (q4)])), (q1, .inl (cI, 16, .inl (qp))), (q2, .inl (cI, 16, .inl (qt))), (q3, .inl (cI, 16, .inl (qd))), (q4, .inl (cI, 16 * L, .inl (qr)))] := hD
  have hl := lv_entry ([.ref (b0), .int (p0), .int (tf_i so)]) (n := 4) (Nat.le_of_ble_eq_true rfl)
  rw [lg_entry_eq]
  generalize (lg_sl ([.ref (b0), .int (p0), .int (tf_i so)]) ++ List.replicate (4 - (lg_sl ([.ref (b0), .int (p0), .int (tf_i so)])).length) Slot.unset).toArray = ls at hl ⊢
  have hl : lv_has ls 4 [(0, .ref (b0)), (1, .int (p0)), (2, .int (tf_i so))] := hl
  rcases so with _ | o
  ·
    have hl : lv_has ls 4 [(0, .ref (b0)), (1, .int (p0)), (2, .int (-1))] := hl
    refine lv_iload_n hx hb dX4_toldOf_0 rfl (lv_at hl 2 rfl) ?_
    refine lv_iconst (v := (-1)) hx hb dX4_toldOf_1 (by decide) ?_
    refine lv_icmp_ne (tgt := 10) hx hb dX4_toldOf_2 (by decide) (fun c_2 => absurd rfl c_2) (fun c_2 => ?_)
    refine lv_iload_n hx hb dX4_toldOf_5 rfl (lv_at hl 1 rfl) ?_
    refine kc_i (wc := []) (wr := [(b0, .inr (4, [.ref (t0), .ref (u0), .ref (r0), .ref (q0), .ref (b1), .int (ck), .int (ls_)])), (b1, .inl (cI, 7, .inl (an))), (t0, .inr (3, [.int (nI S), .int (nI Wy), .ref (t1), .ref (t2), .ref (t3), .int (fl), .int (nI sb), .ref (t4), .int (us)])), (t1, .inl (cI, S * Wy, .inl (tg))), (t2, .inl (cI, S * Wy, .inl (kd))), (t3, .inl (cI, S * Wy, .inl (tt))), (t4, .inl (cI, S * Wy, .inl (lu))), (u0, .inr (0, [.ref (u1), .ref (u2), .int (hh)])), (u1, .inl (cI, 64, .inl (hg))), (u2, .inl (cI, 64, .inl (hq))), (r0, .inr (2, [.int (nI L), .int (nI (rd)), .int (ro), .int (ru), .ref (r1)])), (r1, .inl (cI, L, .inl (rp))), (q0, .inr (1, [.int (nI (qs)), .int (nI (qf)), .int (nI L), .ref (q1), .ref (q2), .ref (q3), .ref (q4)])), (q1, .inl (cI, 16, .inl (qp))), (q2, .inl (cI, 16, .inl (qt))), (q3, .inl (cI, 16, .inl (qd))), (q4, .inl (cI, 16 * L, .inl (qr)))]) [] [0, 1, 2, 3, 4, 5, 6, 7, 8, 9, 10, 11, 12, 13, 14, 15, 16] rfl rfl (by decide) (by decide) hP hD hS hA (va_runS (As := [.int (p0)]) (rest := []) ⟨hx, hb, hml, hown, hts⟩ (c_X4_behind l D cI cJ cZ _ _) (va_cwS 1 hts (kw_S kw_215 kw_216 kw_26 kw_217) rfl rfl rfl (by decide +kernel) ⟨Nat.le_of_ble_eq_true rfl, Nat.le_of_ble_eq_true rfl⟩) ⟨kP_blind, kP_at (hP.sub [] rfl) hK (hD.sub [] (by decide) rfl)⟩ rfl rfl hl.1 rfl (lv_room (Nat.le_of_ble_eq_true rfl)) dX4_toldOf_6 ⟨Nat.zero_le _, Nat.zero_le _⟩) (fun H locs hP hD hS => ?_)
    have hP := hP.sub (ws' := [(b0, .inr (4, [.ref (t0), .ref (u0), .ref (r0), .ref (q0), .ref (b1), .int (ck), .int (ls_)])), (b1, .inl (cI, 7, .inl (an))), (t0, .inr (3, [.int (nI S), .int (nI Wy), .ref (t1), .ref (t2), .ref (t3), .int (fl), .int (nI sb), .ref (t4), .int (us)])), (t1, .inl (cI, S * Wy, .inl (tg))), (t2, .inl (cI, S * Wy, .inl (kd))), (t3, .inl (cI, S * Wy, .inl (tt))), (t4, .inl (cI, S * Wy, .inl (lu))), (u0, .inr (0, [.ref (u1), .ref (u2), .int (hh)])), (u1, .inl (cI, 64, .inl (hg))), (u2, .inl (cI, 64, .inl (hq))), (r0, .inr (2, [.int (nI L), .int (nI (rd)), .int (ro), .int (ru), .ref (r1)])), (r1, .inl (cI, L, .inl (rp))), (q0, .inr (1, [.int (nI (qs)), .int (nI (qf)), .int (nI L), .ref (q1), .ref (q2), .ref (q3), .ref (q4)])), (q1, .inl (cI, 16, .inl (qp))), (q2, .inl (cI, 16, .inl (qt))), (q3, .inl (cI, 16, .inl (qd))), (q4, .inl (cI, 16 * L, .inl (qr)))]) [0, 1, 2, 3, 4, 5, 6, 7, 8, 9, 10, 11, 12, 13, 14, 15, 16] rfl
    have hD := hD.sub (ws' := [(b0, .inr (4, [.ref (t0), .ref (u0), .ref (r0), .ref (q0), .ref (b1), .int (ck), .int (ls_)])), (b1, .inl (cI, 7, .inl (an))), (t0, .inr (3, [.int (nI S), .int (nI Wy), .ref (t1), .ref (t2), .ref (t3), .int (fl), .int (nI sb), .ref (t4), .int (us)])), (t1, .inl (cI, S * Wy, .inl (tg))), (t2, .inl (cI, S * Wy, .inl (kd))), (t3, .inl (cI, S * Wy, .inl (tt))), (t4, .inl (cI, S * Wy, .inl (lu))), (u0, .inr (0, [.ref (u1), .ref (u2), .int (hh)])), (u1, .inl (cI, 64, .inl (hg))), (u2, .inl (cI, 64, .inl (hq))), (r0, .inr (2, [.int (nI L), .int (nI (rd)), .int (ro), .int (ru), .ref (r1)])), (r1, .inl (cI, L, .inl (rp))), (q0, .inr (1, [.int (nI (qs)), .int (nI (qf)), .int (nI L), .ref (q1), .ref (q2), .ref (q3), .ref (q4)])), (q1, .inl (cI, 16, .inl (qp))), (q2, .inl (cI, 16, .inl (qt))), (q3, .inl (cI, 16, .inl (qd))), (q4, .inl (cI, 16 * L, .inl (qr)))]) [0, 1, 2, 3, 4, 5, 6, 7, 8, 9, 10, 11, 12, 13, 14, 15, 16] (by decide) rfl
    exact kr_i (rfl) hx hb hr hlocks hP hK hD hS (rfl) dX4_toldOf_9
  ·
    have hl : lv_has ls 4 [(0, .ref (b0)), (1, .int (p0)), (2, .int (nI o))] := hl
    have hSW := ts_SW hS16 hW4
    have ho : o < S * Wy := hso o rfl
    refine lv_iload_n hx hb dX4_toldOf_0 rfl (lv_at hl 2 rfl) ?_
    refine lv_iconst (v := (-1)) hx hb dX4_toldOf_1 (by decide) ?_
    refine lv_icmp_ne (tgt := 10) hx hb dX4_toldOf_2 (by decide) (fun c_2 => ?_) (fun c_2 => absurd c_2 (nI_nm1 (by omega)))
    refine lv_aload_n hx hb dX4_toldOf_10 rfl (lv_at hl 0 rfl) ?_
    refine va_get (D := D) (ci := 4) (v := .ref (t0)) (C := RX4) (T := TX4) (N := 7) hx hb hts (fun w h => List.mem_cons_of_mem _ (hiX4 w h)) hown hK hP 0 rfl rfl 0 (by decide) kf18 (fun _ h9 => h9) rfl dX4_toldOf_11 ?_
    refine va_get (D := D) (ci := 3) (v := .ref (t2)) (C := RX3) (T := TX3) (N := 9) hx hb hts (fun w h => List.mem_cons_of_mem _ (hiX3 w h)) hown hK hP 2 rfl rfl 3 (by decide) kf73 (fun _ h9 => h9) rfl dX4_toldOf_14 ?_
    refine lv_iload_n hx hb dX4_toldOf_17 rfl (lv_at hl 2 rfl) ?_
    refine ka_ild hx hb hK hP 4 0 rfl rfl (k := o) (rfl) (⟨ho, by omega⟩) dX4_toldOf_18 ?_
    refine lv_istore_n (lv' := [(3, .int ((kd) (o))), (0, .ref (b0)), (1, .int (p0)), (2, .int (nI o))]) hx hb dX4_toldOf_19 rfl hl (by decide) rfl (fun ls hl => ?_)
    refine lv_iload_n hx hb dX4_toldOf_20 rfl (lv_at hl 0 rfl) ?_
    refine lv_iconst (v := 2) hx hb dX4_toldOf_21 (by decide) ?_
    refine lv_icmp_ne (tgt := 44) hx hb dX4_toldOf_22 (by decide) (fun c_22 => ?_) (fun c_22 => ?_)
    ·
      refine lv_iload_n hx hb dX4_toldOf_44 rfl (lv_at hl 0 rfl) ?_
      refine lv_iconst (v := 3) hx hb dX4_toldOf_45 (by decide) ?_
      refine lv_icmp_ne (tgt := 69) hx hb dX4_toldOf_46 (by decide) (fun c_46 => ?_) (fun c_46 => ?_)
      ·
        refine lv_aload_n hx hb dX4_toldOf_69 rfl (lv_at hl 1 rfl) ?_
        refine va_get (D := D) (ci := 4) (v := .ref (t0)) (C := RX4) (T := TX4) (N := 7) hx hb hts (fun w h => List.mem_cons_of_mem _ (hiX4 w h)) hown hK hP 0 rfl rfl 0 (by decide) kf18 (fun _ h9 => h9) rfl dX4_toldOf_70 ?_
        refine va_get (D := D) (ci := 3) (v := .ref (t3)) (C := RX3) (T := TX3) (N := 9) hx hb hts (fun w h => List.mem_cons_of_mem _ (hiX3 w h)) hown hK hP 2 rfl rfl 4 (by decide) kf142 (fun _ h9 => h9) rfl dX4_toldOf_73 ?_
        refine lv_iload_n hx hb dX4_toldOf_76 rfl (lv_at hl 3 rfl) ?_
        refine ka_ild hx hb hK hP 5 0 rfl rfl (k := o) (rfl) (⟨ho, by omega⟩) dX4_toldOf_77 ?_
        exact kr_i (rfl) hx hb hr hlocks hP hK hD hS (by simp only [cf_told]; rw [if_neg (fun q => c_22 q.1), if_neg (fun q => c_46 q.1)]) dX4_toldOf_78
      ·
        refine lv_aload_n hx hb dX4_toldOf_49 rfl (lv_at hl 1 rfl) ?_
        refine va_get (D := D) (ci := 4) (v := .ref (u0)) (C := RX4) (T := TX4) (N := 7) hx hb hts (fun w h => List.mem_cons_of_mem _ (hiX4 w h)) hown hK hP 0 rfl rfl 1 (by decide) kf27 (fun _ h9 => h9) rfl dX4_toldOf_50 ?_
        refine lv_iload_n hx hb dX4_toldOf_53 rfl (lv_at hl 2 rfl) ?_
        refine kc_i (wc := [(u0, .inr (0, [.ref (u1), .ref (u2), .int (hh)])), (u1, .inl (cI, 64, .inl (hg))), (u2, .inl (cI, 64, .inl (hq)))]) (wr := [(b0, .inr (4, [.ref (t0), .ref (u0), .ref (r0), .ref (q0), .ref (b1), .int (ck), .int (ls_)])), (b1, .inl (cI, 7, .inl (an))), (t0, .inr (3, [.int (nI S), .int (nI Wy), .ref (t1), .ref (t2), .ref (t3), .int (fl), .int (nI sb), .ref (t4), .int (us)])), (t1, .inl (cI, S * Wy, .inl (tg))), (t2, .inl (cI, S * Wy, .inl (kd))), (t3, .inl (cI, S * Wy, .inl (tt))), (t4, .inl (cI, S * Wy, .inl (lu))), (r0, .inr (2, [.int (nI L), .int (nI (rd)), .int (ro), .int (ru), .ref (r1)])), (r1, .inl (cI, L, .inl (rp))), (q0, .inr (1, [.int (nI (qs)), .int (nI (qf)), .int (nI L), .ref (q1), .ref (q2), .ref (q3), .ref (q4)])), (q1, .inl (cI, 16, .inl (qp))), (q2, .inl (cI, 16, .inl (qt))), (q3, .inl (cI, 16, .inl (qd))), (q4, .inl (cI, 16 * L, .inl (qr)))]) [7, 8, 9] [0, 1, 2, 3, 4, 5, 6, 10, 11, 12, 13, 14, 15, 16] rfl rfl (by decide) (by decide) hP hD hS hA (va_runV (As := [.int (p0)]) (rest := []) ⟨hx, hb, hml, hown, hts⟩ (c_X0_knows l D cI cJ cZ _ _ _ _ _ _ _ _) (cwV 1 hts (kw_V kw_222 kw_223 kw_224 kw_30 kw_225) rfl rfl rfl (by decide +kernel) ⟨Nat.le_of_ble_eq_true rfl, Nat.le_of_ble_eq_true rfl⟩) ⟨kP_blind, va_recv hK (hP.sub (ws' := [(u0, .inr (0, [.ref (u1), .ref (u2), .int (hh)])), (u1, .inl (cI, 64, .inl (hg))), (u2, .inl (cI, 64, .inl (hq)))]) [7, 8, 9] rfl) (ci := 0) (q0 := 0) rfl rfl, kP_at (hP.sub [7, 8, 9] rfl) hK (hD.sub [7, 8, 9] (by decide) rfl)⟩ rfl rfl hl.1 rfl (lv_room (Nat.le_of_ble_eq_true rfl)) dX4_toldOf_54 ⟨Nat.zero_le _, Nat.zero_le _⟩) (fun H locs hP hD hS => ?_)
        have hP := hP.sub (ws' := [(b0, .inr (4, [.ref (t0), .ref (u0), .ref (r0), .ref (q0), .ref (b1), .int (ck), .int (ls_)])), (b1, .inl (cI, 7, .inl (an))), (t0, .inr (3, [.int (nI S), .int (nI Wy), .ref (t1), .ref (t2), .ref (t3), .int (fl), .int (nI sb), .ref (t4), .int (us)])), (t1, .inl (cI, S * Wy, .inl (tg))), (t2, .inl (cI, S * Wy, .inl (kd))), (t3, .inl (cI, S * Wy, .inl (tt))), (t4, .inl (cI, S * Wy, .inl (lu))), (u0, .inr (0, [.ref (u1), .ref (u2), .int (hh)])), (u1, .inl (cI, 64, .inl (hg))), (u2, .inl (cI, 64, .inl (hq))), (r0, .inr (2, [.int (nI L), .int (nI (rd)), .int (ro), .int (ru), .ref (r1)])), (r1, .inl (cI, L, .inl (rp))), (q0, .inr (1, [.int (nI (qs)), .int (nI (qf)), .int (nI L), .ref (q1), .ref (q2), .ref (q3), .ref (q4)])), (q1, .inl (cI, 16, .inl (qp))), (q2, .inl (cI, 16, .inl (qt))), (q3, .inl (cI, 16, .inl (qd))), (q4, .inl (cI, 16 * L, .inl (qr)))]) [0, 1, 2, 3, 4, 5, 6, 14, 15, 16, 7, 8, 9, 10, 11, 12, 13] rfl
        have hD := hD.sub (ws' := [(b0, .inr (4, [.ref (t0), .ref (u0), .ref (r0), .ref (q0), .ref (b1), .int (ck), .int (ls_)])), (b1, .inl (cI, 7, .inl (an))), (t0, .inr (3, [.int (nI S), .int (nI Wy), .ref (t1), .ref (t2), .ref (t3), .int (fl), .int (nI sb), .ref (t4), .int (us)])), (t1, .inl (cI, S * Wy, .inl (tg))), (t2, .inl (cI, S * Wy, .inl (kd))), (t3, .inl (cI, S * Wy, .inl (tt))), (t4, .inl (cI, S * Wy, .inl (lu))), (u0, .inr (0, [.ref (u1), .ref (u2), .int (hh)])), (u1, .inl (cI, 64, .inl (hg))), (u2, .inl (cI, 64, .inl (hq))), (r0, .inr (2, [.int (nI L), .int (nI (rd)), .int (ro), .int (ru), .ref (r1)])), (r1, .inl (cI, L, .inl (rp))), (q0, .inr (1, [.int (nI (qs)), .int (nI (qf)), .int (nI L), .ref (q1), .ref (q2), .ref (q3), .ref (q4)])), (q1, .inl (cI, 16, .inl (qp))), (q2, .inl (cI, 16, .inl (qt))), (q3, .inl (cI, 16, .inl (qd))), (q4, .inl (cI, 16 * L, .inl (qr)))]) [0, 1, 2, 3, 4, 5, 6, 14, 15, 16, 7, 8, 9, 10, 11, 12, 13] (by decide) rfl
        refine lv_if_eq (tgt := 69) hx hb dX4_toldOf_57 (by decide) (fun c_57 => ?_) (fun c_57 => ?_)
        ·
          refine lv_aload_n hx hb dX4_toldOf_69 rfl (lv_at hl 1 rfl) ?_
          refine va_get (D := D) (ci := 4) (v := .ref (t0)) (C := RX4) (T := TX4) (N := 7) hx hb hts (fun w h => List.mem_cons_of_mem _ (hiX4 w h)) hown hK hP 0 rfl rfl 0 (by decide) kf18 (fun _ h9 => h9) rfl dX4_toldOf_70 ?_
          refine va_get (D := D) (ci := 3) (v := .ref (t3)) (C := RX3) (T := TX3) (N := 9) hx hb hts (fun w h => List.mem_cons_of_mem _ (hiX3 w h)) hown hK hP 2 rfl rfl 4 (by decide) kf142 (fun _ h9 => h9) rfl dX4_toldOf_73 ?_
          refine lv_iload_n hx hb dX4_toldOf_76 rfl (lv_at hl 3 rfl) ?_
          refine ka_ild hx hb hK hP 5 0 rfl rfl (k := o) (rfl) (⟨ho, by omega⟩) dX4_toldOf_77 ?_
          exact kr_i (rfl) hx hb hr hlocks hP hK hD hS (by simp only [cf_told]; rw [if_neg (fun q => c_22 q.1), if_neg (fun q => q.2 c_57)]) dX4_toldOf_78
        ·
          refine lv_aload_n hx hb dX4_toldOf_60 rfl (lv_at hl 1 rfl) ?_
          refine va_get (D := D) (ci := 4) (v := .ref (u0)) (C := RX4) (T := TX4) (N := 7) hx hb hts (fun w h => List.mem_cons_of_mem _ (hiX4 w h)) hown hK hP 0 rfl rfl 1 (by decide) kf27 (fun _ h9 => h9) rfl dX4_toldOf_61 ?_
          refine lv_iload_n hx hb dX4_toldOf_64 rfl (lv_at hl 2 rfl) ?_
          refine kc_i (wc := [(u0, .inr (0, [.ref (u1), .ref (u2), .int (hh)])), (u1, .inl (cI, 64, .inl (hg))), (u2, .inl (cI, 64, .inl (hq)))]) (wr := [(b0, .inr (4, [.ref (t0), .ref (u0), .ref (r0), .ref (q0), .ref (b1), .int (ck), .int (ls_)])), (b1, .inl (cI, 7, .inl (an))), (t0, .inr (3, [.int (nI S), .int (nI Wy), .ref (t1), .ref (t2), .ref (t3), .int (fl), .int (nI sb), .ref (t4), .int (us)])), (t1, .inl (cI, S * Wy, .inl (tg))), (t2, .inl (cI, S * Wy, .inl (kd))), (t3, .inl (cI, S * Wy, .inl (tt))), (t4, .inl (cI, S * Wy, .inl (lu))), (r0, .inr (2, [.int (nI L), .int (nI (rd)), .int (ro), .int (ru), .ref (r1)])), (r1, .inl (cI, L, .inl (rp))), (q0, .inr (1, [.int (nI (qs)), .int (nI (qf)), .int (nI L), .ref (q1), .ref (q2), .ref (q3), .ref (q4)])), (q1, .inl (cI, 16, .inl (qp))), (q2, .inl (cI, 16, .inl (qt))), (q3, .inl (cI, 16, .inl (qd))), (q4, .inl (cI, 16 * L, .inl (qr)))]) [7, 8, 9] [0, 1, 2, 3, 4, 5, 6, 10, 11, 12, 13, 14, 15, 16] rfl rfl (by decide) (by decide) hP hD hS hA (va_runV (As := [.int (p0)]) (rest := []) ⟨hx, hb, hml, hown, hts⟩ (c_X0_targetFor l D cI cJ cZ _ _ _ _ _ _ _ _) (cwV 1 hts (kw_V kw_233 kw_234 kw_235 kw_30 kw_236) rfl rfl rfl (by decide +kernel) ⟨Nat.le_of_ble_eq_true rfl, Nat.le_of_ble_eq_true rfl⟩) ⟨kP_blind, va_recv hK (hP.sub (ws' := [(u0, .inr (0, [.ref (u1), .ref (u2), .int (hh)])), (u1, .inl (cI, 64, .inl (hg))), (u2, .inl (cI, 64, .inl (hq)))]) [7, 8, 9] rfl) (ci := 0) (q0 := 0) rfl rfl, kP_at (hP.sub [7, 8, 9] rfl) hK (hD.sub [7, 8, 9] (by decide) rfl)⟩ rfl rfl hl.1 rfl (lv_room (Nat.le_of_ble_eq_true rfl)) dX4_toldOf_65 ⟨Nat.zero_le _, Nat.zero_le _⟩) (fun H locs hP hD hS => ?_)
          have hP := hP.sub (ws' := [(b0, .inr (4, [.ref (t0), .ref (u0), .ref (r0), .ref (q0), .ref (b1), .int (ck), .int (ls_)])), (b1, .inl (cI, 7, .inl (an))), (t0, .inr (3, [.int (nI S), .int (nI Wy), .ref (t1), .ref (t2), .ref (t3), .int (fl), .int (nI sb), .ref (t4), .int (us)])), (t1, .inl (cI, S * Wy, .inl (tg))), (t2, .inl (cI, S * Wy, .inl (kd))), (t3, .inl (cI, S * Wy, .inl (tt))), (t4, .inl (cI, S * Wy, .inl (lu))), (u0, .inr (0, [.ref (u1), .ref (u2), .int (hh)])), (u1, .inl (cI, 64, .inl (hg))), (u2, .inl (cI, 64, .inl (hq))), (r0, .inr (2, [.int (nI L), .int (nI (rd)), .int (ro), .int (ru), .ref (r1)])), (r1, .inl (cI, L, .inl (rp))), (q0, .inr (1, [.int (nI (qs)), .int (nI (qf)), .int (nI L), .ref (q1), .ref (q2), .ref (q3), .ref (q4)])), (q1, .inl (cI, 16, .inl (qp))), (q2, .inl (cI, 16, .inl (qt))), (q3, .inl (cI, 16, .inl (qd))), (q4, .inl (cI, 16 * L, .inl (qr)))]) [0, 1, 2, 3, 4, 5, 6, 14, 15, 16, 7, 8, 9, 10, 11, 12, 13] rfl
          have hD := hD.sub (ws' := [(b0, .inr (4, [.ref (t0), .ref (u0), .ref (r0), .ref (q0), .ref (b1), .int (ck), .int (ls_)])), (b1, .inl (cI, 7, .inl (an))), (t0, .inr (3, [.int (nI S), .int (nI Wy), .ref (t1), .ref (t2), .ref (t3), .int (fl), .int (nI sb), .ref (t4), .int (us)])), (t1, .inl (cI, S * Wy, .inl (tg))), (t2, .inl (cI, S * Wy, .inl (kd))), (t3, .inl (cI, S * Wy, .inl (tt))), (t4, .inl (cI, S * Wy, .inl (lu))), (u0, .inr (0, [.ref (u1), .ref (u2), .int (hh)])), (u1, .inl (cI, 64, .inl (hg))), (u2, .inl (cI, 64, .inl (hq))), (r0, .inr (2, [.int (nI L), .int (nI (rd)), .int (ro), .int (ru), .ref (r1)])), (r1, .inl (cI, L, .inl (rp))), (q0, .inr (1, [.int (nI (qs)), .int (nI (qf)), .int (nI L), .ref (q1), .ref (q2), .ref (q3), .ref (q4)])), (q1, .inl (cI, 16, .inl (qp))), (q2, .inl (cI, 16, .inl (qt))), (q3, .inl (cI, 16, .inl (qd))), (q4, .inl (cI, 16 * L, .inl (qr)))]) [0, 1, 2, 3, 4, 5, 6, 14, 15, 16, 7, 8, 9, 10, 11, 12, 13] (by decide) rfl
          exact kr_i (rfl) hx hb hr hlocks hP hK hD hS (by simp only [cf_told]; rw [if_neg (fun q => c_22 q.1), if_pos ⟨c_46, c_57⟩]) dX4_toldOf_68
    ·
      refine lv_aload_n hx hb dX4_toldOf_25 rfl (lv_at hl 1 rfl) ?_
      refine va_get (D := D) (ci := 4) (v := .ref (r0)) (C := RX4) (T := TX4) (N := 7) hx hb hts (fun w h => List.mem_cons_of_mem _ (hiX4 w h)) hown hK hP 0 rfl rfl 2 (by decide) kf36 (fun _ h9 => h9) rfl dX4_toldOf_26 ?_
      refine va_get (D := D) (ci := 2) (v := .int (nI (rd))) (C := RX2) (T := TX2) (N := 5) hx hb hts (fun w h => List.mem_cons_of_mem _ (hiX2 w h)) hown hK hP 10 rfl rfl 1 (by decide) kf149 (fun _ h9 => h9) rfl dX4_toldOf_29 ?_
      refine lv_if_le (tgt := 44) hx hb dX4_toldOf_32 (by decide) (fun c_32 => ?_) (fun c_32 => ?_)
      ·
        have hrd : ¬ 0 < rd := fun q => absurd c_32 (nI_nle q (by omega))
        refine lv_iload_n hx hb dX4_toldOf_44 rfl (lv_at hl 0 rfl) ?_
        refine lv_iconst (v := 3) hx hb dX4_toldOf_45 (by decide) ?_
        refine lv_icmp_ne (tgt := 69) hx hb dX4_toldOf_46 (by decide) (fun c_46 => ?_) (fun c_46 => ?_)
        ·
          refine lv_aload_n hx hb dX4_toldOf_69 rfl (lv_at hl 1 rfl) ?_
          refine va_get (D := D) (ci := 4) (v := .ref (t0)) (C := RX4) (T := TX4) (N := 7) hx hb hts (fun w h => List.mem_cons_of_mem _ (hiX4 w h)) hown hK hP 0 rfl rfl 0 (by decide) kf18 (fun _ h9 => h9) rfl dX4_toldOf_70 ?_
          refine va_get (D := D) (ci := 3) (v := .ref (t3)) (C := RX3) (T := TX3) (N := 9) hx hb hts (fun w h => List.mem_cons_of_mem _ (hiX3 w h)) hown hK hP 2 rfl rfl 4 (by decide) kf142 (fun _ h9 => h9) rfl dX4_toldOf_73 ?_
          refine lv_iload_n hx hb dX4_toldOf_76 rfl (lv_at hl 3 rfl) ?_
          refine ka_ild hx hb hK hP 5 0 rfl rfl (k := o) (rfl) (⟨ho, by omega⟩) dX4_toldOf_77 ?_
          exact kr_i (rfl) hx hb hr hlocks hP hK hD hS (by simp only [cf_told]; rw [if_neg (fun q => absurd q.2 hrd), if_neg (fun q => c_46 q.1)]) dX4_toldOf_78
        ·
          refine lv_aload_n hx hb dX4_toldOf_49 rfl (lv_at hl 1 rfl) ?_
          refine va_get (D := D) (ci := 4) (v := .ref (u0)) (C := RX4) (T := TX4) (N := 7) hx hb hts (fun w h => List.mem_cons_of_mem _ (hiX4 w h)) hown hK hP 0 rfl rfl 1 (by decide) kf27 (fun _ h9 => h9) rfl dX4_toldOf_50 ?_
          refine lv_iload_n hx hb dX4_toldOf_53 rfl (lv_at hl 2 rfl) ?_
          refine kc_i (wc := [(u0, .inr (0, [.ref (u1), .ref (u2), .int (hh)])), (u1, .inl (cI, 64, .inl (hg))), (u2, .inl (cI, 64, .inl (hq)))]) (wr := [(b0, .inr (4, [.ref (t0), .ref (u0), .ref (r0), .ref (q0), .ref (b1), .int (ck), .int (ls_)])), (b1, .inl (cI, 7, .inl (an))), (t0, .inr (3, [.int (nI S), .int (nI Wy), .ref (t1), .ref (t2), .ref (t3), .int (fl), .int (nI sb), .ref (t4), .int (us)])), (t1, .inl (cI, S * Wy, .inl (tg))), (t2, .inl (cI, S * Wy, .inl (kd))), (t3, .inl (cI, S * Wy, .inl (tt))), (t4, .inl (cI, S * Wy, .inl (lu))), (r0, .inr (2, [.int (nI L), .int (nI (rd)), .int (ro), .int (ru), .ref (r1)])), (r1, .inl (cI, L, .inl (rp))), (q0, .inr (1, [.int (nI (qs)), .int (nI (qf)), .int (nI L), .ref (q1), .ref (q2), .ref (q3), .ref (q4)])), (q1, .inl (cI, 16, .inl (qp))), (q2, .inl (cI, 16, .inl (qt))), (q3, .inl (cI, 16, .inl (qd))), (q4, .inl (cI, 16 * L, .inl (qr)))]) [7, 8, 9] [0, 1, 2, 3, 4, 5, 6, 10, 11, 12, 13, 14, 15, 16] rfl rfl (by decide) (by decide) hP hD hS hA (va_runV (As := [.int (p0)]) (rest := []) ⟨hx, hb, hml, hown, hts⟩ (c_X0_knows l D cI cJ cZ _ _ _ _ _ _ _ _) (cwV 1 hts (kw_V kw_222 kw_223 kw_224 kw_30 kw_225) rfl rfl rfl (by decide +kernel) ⟨Nat.le_of_ble_eq_true rfl, Nat.le_of_ble_eq_true rfl⟩) ⟨kP_blind, va_recv hK (hP.sub (ws' := [(u0, .inr (0, [.ref (u1), .ref (u2), .int (hh)])), (u1, .inl (cI, 64, .inl (hg))), (u2, .inl (cI, 64, .inl (hq)))]) [7, 8, 9] rfl) (ci := 0) (q0 := 0) rfl rfl, kP_at (hP.sub [7, 8, 9] rfl) hK (hD.sub [7, 8, 9] (by decide) rfl)⟩ rfl rfl hl.1 rfl (lv_room (Nat.le_of_ble_eq_true rfl)) dX4_toldOf_54 ⟨Nat.zero_le _, Nat.zero_le _⟩) (fun H locs hP hD hS => ?_)
          have hP := hP.sub (ws' := [(b0, .inr (4, [.ref (t0), .ref (u0), .ref (r0), .ref (q0), .ref (b1), .int (ck), .int (ls_)])), (b1, .inl (cI, 7, .inl (an))), (t0, .inr (3, [.int (nI S), .int (nI Wy), .ref (t1), .ref (t2), .ref (t3), .int (fl), .int (nI sb), .ref (t4), .int (us)])), (t1, .inl (cI, S * Wy, .inl (tg))), (t2, .inl (cI, S * Wy, .inl (kd))), (t3, .inl (cI, S * Wy, .inl (tt))), (t4, .inl (cI, S * Wy, .inl (lu))), (u0, .inr (0, [.ref (u1), .ref (u2), .int (hh)])), (u1, .inl (cI, 64, .inl (hg))), (u2, .inl (cI, 64, .inl (hq))), (r0, .inr (2, [.int (nI L), .int (nI (rd)), .int (ro), .int (ru), .ref (r1)])), (r1, .inl (cI, L, .inl (rp))), (q0, .inr (1, [.int (nI (qs)), .int (nI (qf)), .int (nI L), .ref (q1), .ref (q2), .ref (q3), .ref (q4)])), (q1, .inl (cI, 16, .inl (qp))), (q2, .inl (cI, 16, .inl (qt))), (q3, .inl (cI, 16, .inl (qd))), (q4, .inl (cI, 16 * L, .inl (qr)))]) [0, 1, 2, 3, 4, 5, 6, 14, 15, 16, 7, 8, 9, 10, 11, 12, 13] rfl
          have hD := hD.sub (ws' := [(b0, .inr (4, [.ref (t0), .ref (u0), .ref (r0), .ref (q0), .ref (b1), .int (ck), .int (ls_)])), (b1, .inl (cI, 7, .inl (an))), (t0, .inr (3, [.int (nI S), .int (nI Wy), .ref (t1), .ref (t2), .ref (t3), .int (fl), .int (nI sb), .ref (t4), .int (us)])), (t1, .inl (cI, S * Wy, .inl (tg))), (t2, .inl (cI, S * Wy, .inl (kd))), (t3, .inl (cI, S * Wy, .inl (tt))), (t4, .inl (cI, S * Wy, .inl (lu))), (u0, .inr (0, [.ref (u1), .ref (u2), .int (hh)])), (u1, .inl (cI, 64, .inl (hg))), (u2, .inl (cI, 64, .inl (hq))), (r0, .inr (2, [.int (nI L), .int (nI (rd)), .int (ro), .int (ru), .ref (r1)])), (r1, .inl (cI, L, .inl (rp))), (q0, .inr (1, [.int (nI (qs)), .int (nI (qf)), .int (nI L), .ref (q1), .ref (q2), .ref (q3), .ref (q4)])), (q1, .inl (cI, 16, .inl (qp))), (q2, .inl (cI, 16, .inl (qt))), (q3, .inl (cI, 16, .inl (qd))), (q4, .inl (cI, 16 * L, .inl (qr)))]) [0, 1, 2, 3, 4, 5, 6, 14, 15, 16, 7, 8, 9, 10, 11, 12, 13] (by decide) rfl
          refine lv_if_eq (tgt := 69) hx hb dX4_toldOf_57 (by decide) (fun c_57 => ?_) (fun c_57 => ?_)
          ·
            refine lv_aload_n hx hb dX4_toldOf_69 rfl (lv_at hl 1 rfl) ?_
            refine va_get (D := D) (ci := 4) (v := .ref (t0)) (C := RX4) (T := TX4) (N := 7) hx hb hts (fun w h => List.mem_cons_of_mem _ (hiX4 w h)) hown hK hP 0 rfl rfl 0 (by decide) kf18 (fun _ h9 => h9) rfl dX4_toldOf_70 ?_
            refine va_get (D := D) (ci := 3) (v := .ref (t3)) (C := RX3) (T := TX3) (N := 9) hx hb hts (fun w h => List.mem_cons_of_mem _ (hiX3 w h)) hown hK hP 2 rfl rfl 4 (by decide) kf142 (fun _ h9 => h9) rfl dX4_toldOf_73 ?_
            refine lv_iload_n hx hb dX4_toldOf_76 rfl (lv_at hl 3 rfl) ?_
            refine ka_ild hx hb hK hP 5 0 rfl rfl (k := o) (rfl) (⟨ho, by omega⟩) dX4_toldOf_77 ?_
            exact kr_i (rfl) hx hb hr hlocks hP hK hD hS (by simp only [cf_told]; rw [if_neg (fun q => absurd q.2 hrd), if_neg (fun q => q.2 c_57)]) dX4_toldOf_78
          ·
            refine lv_aload_n hx hb dX4_toldOf_60 rfl (lv_at hl 1 rfl) ?_
            refine va_get (D := D) (ci := 4) (v := .ref (u0)) (C := RX4) (T := TX4) (N := 7) hx hb hts (fun w h => List.mem_cons_of_mem _ (hiX4 w h)) hown hK hP 0 rfl rfl 1 (by decide) kf27 (fun _ h9 => h9) rfl dX4_toldOf_61 ?_
            refine lv_iload_n hx hb dX4_toldOf_64 rfl (lv_at hl 2 rfl) ?_
            refine kc_i (wc := [(u0, .inr (0, [.ref (u1), .ref (u2), .int (hh)])), (u1, .inl (cI, 64, .inl (hg))), (u2, .inl (cI, 64, .inl (hq)))]) (wr := [(b0, .inr (4, [.ref (t0), .ref (u0), .ref (r0), .ref (q0), .ref (b1), .int (ck), .int (ls_)])), (b1, .inl (cI, 7, .inl (an))), (t0, .inr (3, [.int (nI S), .int (nI Wy), .ref (t1), .ref (t2), .ref (t3), .int (fl), .int (nI sb), .ref (t4), .int (us)])), (t1, .inl (cI, S * Wy, .inl (tg))), (t2, .inl (cI, S * Wy, .inl (kd))), (t3, .inl (cI, S * Wy, .inl (tt))), (t4, .inl (cI, S * Wy, .inl (lu))), (r0, .inr (2, [.int (nI L), .int (nI (rd)), .int (ro), .int (ru), .ref (r1)])), (r1, .inl (cI, L, .inl (rp))), (q0, .inr (1, [.int (nI (qs)), .int (nI (qf)), .int (nI L), .ref (q1), .ref (q2), .ref (q3), .ref (q4)])), (q1, .inl (cI, 16, .inl (qp))), (q2, .inl (cI, 16, .inl (qt))), (q3, .inl (cI, 16, .inl (qd))), (q4, .inl (cI, 16 * L, .inl (qr)))]) [7, 8, 9] [0, 1, 2, 3, 4, 5, 6, 10, 11, 12, 13, 14, 15, 16] rfl rfl (by decide) (by decide) hP hD hS hA (va_runV (As := [.int (p0)]) (rest := []) ⟨hx, hb, hml, hown, hts⟩ (c_X0_targetFor l D cI cJ cZ _ _ _ _ _ _ _ _) (cwV 1 hts (kw_V kw_233 kw_234 kw_235 kw_30 kw_236) rfl rfl rfl (by decide +kernel) ⟨Nat.le_of_ble_eq_true rfl, Nat.le_of_ble_eq_true rfl⟩) ⟨kP_blind, va_recv hK (hP.sub (ws' := [(u0, .inr (0, [.ref (u1), .ref (u2), .int (hh)])), (u1, .inl (cI, 64, .inl (hg))), (u2, .inl (cI, 64, .inl (hq)))]) [7, 8, 9] rfl) (ci := 0) (q0 := 0) rfl rfl, kP_at (hP.sub [7, 8, 9] rfl) hK (hD.sub [7, 8, 9] (by decide) rfl)⟩ rfl rfl hl.1 rfl (lv_room (Nat.le_of_ble_eq_true rfl)) dX4_toldOf_65 ⟨Nat.zero_le _, Nat.zero_le _⟩) (fun H locs hP hD hS => ?_)
            have hP := hP.sub (ws' := [(b0, .inr (4, [.ref (t0), .ref (u0), .ref (r0), .ref (q0), .ref (b1), .int (ck), .int (ls_)])), (b1, .inl (cI, 7, .inl (an))), (t0, .inr (3, [.int (nI S), .int (nI Wy), .ref (t1), .ref (t2), .ref (t3), .int (fl), .int (nI sb), .ref (t4), .int (us)])), (t1, .inl (cI, S * Wy, .inl (tg))), (t2, .inl (cI, S * Wy, .inl (kd))), (t3, .inl (cI, S * Wy, .inl (tt))), (t4, .inl (cI, S * Wy, .inl (lu))), (u0, .inr (0, [.ref (u1), .ref (u2), .int (hh)])), (u1, .inl (cI, 64, .inl (hg))), (u2, .inl (cI, 64, .inl (hq))), (r0, .inr (2, [.int (nI L), .int (nI (rd)), .int (ro), .int (ru), .ref (r1)])), (r1, .inl (cI, L, .inl (rp))), (q0, .inr (1, [.int (nI (qs)), .int (nI (qf)), .int (nI L), .ref (q1), .ref (q2), .ref (q3), .ref (q4)])), (q1, .inl (cI, 16, .inl (qp))), (q2, .inl (cI, 16, .inl (qt))), (q3, .inl (cI, 16, .inl (qd))), (q4, .inl (cI, 16 * L, .inl (qr)))]) [0, 1, 2, 3, 4, 5, 6, 14, 15, 16, 7, 8, 9, 10, 11, 12, 13] rfl
            have hD := hD.sub (ws' := [(b0, .inr (4, [.ref (t0), .ref (u0), .ref (r0), .ref (q0), .ref (b1), .int (ck), .int (ls_)])), (b1, .inl (cI, 7, .inl (an))), (t0, .inr (3, [.int (nI S), .int (nI Wy), .ref (t1), .ref (t2), .ref (t3), .int (fl), .int (nI sb), .ref (t4), .int (us)])), (t1, .inl (cI, S * Wy, .inl (tg))), (t2, .inl (cI, S * Wy, .inl (kd))), (t3, .inl (cI, S * Wy, .inl (tt))), (t4, .inl (cI, S * Wy, .inl (lu))), (u0, .inr (0, [.ref (u1), .ref (u2), .int (hh)])), (u1, .inl (cI, 64, .inl (hg))), (u2, .inl (cI, 64, .inl (hq))), (r0, .inr (2, [.int (nI L), .int (nI (rd)), .int (ro), .int (ru), .ref (r1)])), (r1, .inl (cI, L, .inl (rp))), (q0, .inr (1, [.int (nI (qs)), .int (nI (qf)), .int (nI L), .ref (q1), .ref (q2), .ref (q3), .ref (q4)])), (q1, .inl (cI, 16, .inl (qp))), (q2, .inl (cI, 16, .inl (qt))), (q3, .inl (cI, 16, .inl (qd))), (q4, .inl (cI, 16 * L, .inl (qr)))]) [0, 1, 2, 3, 4, 5, 6, 14, 15, 16, 7, 8, 9, 10, 11, 12, 13] (by decide) rfl
            exact kr_i (rfl) hx hb hr hlocks hP hK hD hS (by simp only [cf_told]; rw [if_neg (fun q => absurd q.2 hrd), if_pos ⟨c_46, c_57⟩]) dX4_toldOf_68
      ·
        have hrd : 0 < rd := by
          rcases Nat.eq_zero_or_pos rd with q | q
          · exact absurd (by rw [q]; decide) c_32
          · exact q
        refine lv_aload_n hx hb dX4_toldOf_35 rfl (lv_at hl 1 rfl) ?_
        refine va_get (D := D) (ci := 4) (v := .ref (r0)) (C := RX4) (T := TX4) (N := 7) hx hb hts (fun w h => List.mem_cons_of_mem _ (hiX4 w h)) hown hK hP 0 rfl rfl 2 (by decide) kf36 (fun _ h9 => h9) rfl dX4_toldOf_36 ?_
        refine lv_iconst (v := 0) hx hb dX4_toldOf_39 (by decide) ?_
        refine kt_i (y := nI (0)) (rfl) ?_
        refine kc_i (wc := [(r0, .inr (2, [.int (nI L), .int (nI (rd)), .int (ro), .int (ru), .ref (r1)])), (r1, .inl (cI, L, .inl (rp)))]) (wr := [(b0, .inr (4, [.ref (t0), .ref (u0), .ref (r0), .ref (q0), .ref (b1), .int (ck), .int (ls_)])), (b1, .inl (cI, 7, .inl (an))), (t0, .inr (3, [.int (nI S), .int (nI Wy), .ref (t1), .ref (t2), .ref (t3), .int (fl), .int (nI sb), .ref (t4), .int (us)])), (t1, .inl (cI, S * Wy, .inl (tg))), (t2, .inl (cI, S * Wy, .inl (kd))), (t3, .inl (cI, S * Wy, .inl (tt))), (t4, .inl (cI, S * Wy, .inl (lu))), (u0, .inr (0, [.ref (u1), .ref (u2), .int (hh)])), (u1, .inl (cI, 64, .inl (hg))), (u2, .inl (cI, 64, .inl (hq))), (q0, .inr (1, [.int (nI (qs)), .int (nI (qf)), .int (nI L), .ref (q1), .ref (q2), .ref (q3), .ref (q4)])), (q1, .inl (cI, 16, .inl (qp))), (q2, .inl (cI, 16, .inl (qt))), (q3, .inl (cI, 16, .inl (qd))), (q4, .inl (cI, 16 * L, .inl (qr)))]) [10, 11] [0, 1, 2, 3, 4, 5, 6, 7, 8, 9, 12, 13, 14, 15, 16] rfl rfl (by decide) (by decide) hP hD hS hA (va_runV (As := [.int (nI (0))]) (rest := []) ⟨hx, hb, hml, hown, hts⟩ (c_X2_fromTop l D cI cJ cZ _ _ _ _ _ _ _ _ _ hrd hd (by omega)) (cwV 1 hts (kw_V kw_218 kw_219 kw_220 kw_31 kw_221) rfl rfl rfl (by decide +kernel) ⟨Nat.le_of_ble_eq_true rfl, Nat.le_of_ble_eq_true rfl⟩) ⟨kP_blind, va_recv hK (hP.sub (ws' := [(r0, .inr (2, [.int (nI L), .int (nI (rd)), .int (ro), .int (ru), .ref (r1)])), (r1, .inl (cI, L, .inl (rp)))]) [10, 11] rfl) (ci := 2) (q0 := 0) rfl rfl, kP_at (hP.sub [10, 11] rfl) hK (hD.sub [10, 11] (by decide) rfl)⟩ rfl rfl hl.1 rfl (lv_room (Nat.le_of_ble_eq_true rfl)) dX4_toldOf_40 ⟨Nat.zero_le _, Nat.zero_le _⟩) (fun H locs hP hD hS => ?_)
        have hP := hP.sub (ws' := [(b0, .inr (4, [.ref (t0), .ref (u0), .ref (r0), .ref (q0), .ref (b1), .int (ck), .int (ls_)])), (b1, .inl (cI, 7, .inl (an))), (t0, .inr (3, [.int (nI S), .int (nI Wy), .ref (t1), .ref (t2), .ref (t3), .int (fl), .int (nI sb), .ref (t4), .int (us)])), (t1, .inl (cI, S * Wy, .inl (tg))), (t2, .inl (cI, S * Wy, .inl (kd))), (t3, .inl (cI, S * Wy, .inl (tt))), (t4, .inl (cI, S * Wy, .inl (lu))), (u0, .inr (0, [.ref (u1), .ref (u2), .int (hh)])), (u1, .inl (cI, 64, .inl (hg))), (u2, .inl (cI, 64, .inl (hq))), (r0, .inr (2, [.int (nI L), .int (nI (rd)), .int (ro), .int (ru), .ref (r1)])), (r1, .inl (cI, L, .inl (rp))), (q0, .inr (1, [.int (nI (qs)), .int (nI (qf)), .int (nI L), .ref (q1), .ref (q2), .ref (q3), .ref (q4)])), (q1, .inl (cI, 16, .inl (qp))), (q2, .inl (cI, 16, .inl (qt))), (q3, .inl (cI, 16, .inl (qd))), (q4, .inl (cI, 16 * L, .inl (qr)))]) [0, 1, 2, 3, 4, 5, 6, 7, 8, 9, 15, 16, 10, 11, 12, 13, 14] rfl
        have hD := hD.sub (ws' := [(b0, .inr (4, [.ref (t0), .ref (u0), .ref (r0), .ref (q0), .ref (b1), .int (ck), .int (ls_)])), (b1, .inl (cI, 7, .inl (an))), (t0, .inr (3, [.int (nI S), .int (nI Wy), .ref (t1), .ref (t2), .ref (t3), .int (fl), .int (nI sb), .ref (t4), .int (us)])), (t1, .inl (cI, S * Wy, .inl (tg))), (t2, .inl (cI, S * Wy, .inl (kd))), (t3, .inl (cI, S * Wy, .inl (tt))), (t4, .inl (cI, S * Wy, .inl (lu))), (u0, .inr (0, [.ref (u1), .ref (u2), .int (hh)])), (u1, .inl (cI, 64, .inl (hg))), (u2, .inl (cI, 64, .inl (hq))), (r0, .inr (2, [.int (nI L), .int (nI (rd)), .int (ro), .int (ru), .ref (r1)])), (r1, .inl (cI, L, .inl (rp))), (q0, .inr (1, [.int (nI (qs)), .int (nI (qf)), .int (nI L), .ref (q1), .ref (q2), .ref (q3), .ref (q4)])), (q1, .inl (cI, 16, .inl (qp))), (q2, .inl (cI, 16, .inl (qt))), (q3, .inl (cI, 16, .inl (qd))), (q4, .inl (cI, 16 * L, .inl (qr)))]) [0, 1, 2, 3, 4, 5, 6, 7, 8, 9, 15, 16, 10, 11, 12, 13, 14] (by decide) rfl
        exact kr_i (rfl) hx hb hr hlocks hP hK hD hS (by simp only [cf_told]; rw [if_pos ⟨c_22, hrd⟩]) dX4_toldOf_43

set_option maxHeartbeats 4000000 in
set_option maxRecDepth 100000 in
/-- ask -/
theorem c_X4_ask (l : Launch) (D : va_G) (cI cJ cZ : ClassId) (sz : Nat) (b0 b1 t0 t1 t2 t3 t4 u0 u1 u2 r0 r1 q0 q1 q2 q3 q4 : Nat) (S Wy sb L : Nat) (tg kd tt lu : Fn) (fl us : Int32) (hg hq : Fn) (hh : Int32) (rp : Fn) (rd : Nat) (ro ru : Int32) (qp qt qd qr : Fn) (qs qf : Nat) (an : Fn) (ck ls_ : Int32) (p0 : Int32) (hSs : S = 0 ∨ S = 2 ^ sb) (hS16 : S ≤ 16) (hsb : sb ≤ 4) (hW : 0 < Wy) (hW4 : Wy ≤ 4) (hd : rd ≤ L) (hL : L < 2 ^ 10) (hf : qf < 16) (hs : qs ≤ 16) : KI l yX4_ask wsX4_ask ({ frames := 3, cells := 0, slots := 0, locals := 66 } : Room) D (kTy cI cJ cZ) [.ref (b0), .int (p0)] [(b0, .inr (4, [.ref (t0), .ref (u0), .ref (r0), .ref (q0), .ref (b1), .int (ck), .int (ls_)])), (b1, .inl (cI, 7, .inl (an))), (t0, .inr (3, [.int (nI S), .int (nI Wy), .ref (t1), .ref (t2), .ref (t3), .int (fl), .int (nI sb), .ref (t4), .int (us)])), (t1, .inl (cI, S * Wy, .inl (tg))), (t2, .inl (cI, S * Wy, .inl (kd))), (t3, .inl (cI, S * Wy, .inl (tt))), (t4, .inl (cI, S * Wy, .inl (lu))), (u0, .inr (0, [.ref (u1), .ref (u2), .int (hh)])), (u1, .inl (cI, 64, .inl (hg))), (u2, .inl (cI, 64, .inl (hq))), (r0, .inr (2, [.int (nI L), .int (nI (rd)), .int (ro), .int (ru), .ref (r1)])), (r1, .inl (cI, L, .inl (rp))), (q0, .inr (1, [.int (nI (qs)), .int (nI (qf)), .int (nI L), .ref (q1), .ref (q2), .ref (q3), .ref (q4)])), (q1, .inl (cI, 16, .inl (qp))), (q2, .inl (cI, 16, .inl (qt))), (q3, .inl (cI, 16, .inl (qd))), (q4, .inl (cI, 16 * L, .inl (qr)))] sz (wTR b0 b1 t0 t1 t2 t3 t4 u0 u1 u2 r0 r1 q0 q1 q2 q3 q4 cI S Wy sb L ((tg, kd, tt, lu, fl, us), (hg, hq, hh), (rp, rd, ro, ru), (qp, qt, qd, qr, qs, qf), an, ck, ls_)) (cf_told ((tg, kd, tt, lu, fl, us), (hg, hq, hh), (rp, rd, ro, ru), (qp, qt, qd, qr, qs, qf), an, ck, ls_) p0 (tf_find S Wy sb (tg, kd, tt, lu, fl, us) p0)) 0 0 := by
  refine Met.ofW (cc := cX4_ask) (maxL := 2) (ret := (some .int)) (by decide) rfl ?_
  intro p e s m args below meth c s₁ B hml hv
  obtain ⟨rfl, hsz, hP, hK, hD0⟩ := hv
  have hx := B.exec
  have hb := B.bytes
  have hr := B.returns
  have hts := atoms_spec (ws := wsX4_ask) B.pre
  have hown : s.vm.findClass RX4 = some m.cls := findClass_of_methodNamed B.named
  have hlocks := B.notSynchronized
  have kf18 := hts (.fieldLink RX4 18 "TargetRows" "table" "LTargetRows$Table;") (List.mem_cons_of_mem _ kw_173)
  subst hsz
  have hD := hD0.self (sz := s.heap.size)
  generalize hAe : va_A [(b0, .inr (4, [.ref (t0), .ref (u0), .ref (r0), .ref (q0), .ref (b1), .int (ck), .int (ls_)])), (b1, .inl (cI, 7, .inl (an))), (t0, .inr (3, [.int (nI S), .int (nI Wy), .ref (t1), .ref (t2), .ref (t3), .int (fl), .int (nI sb), .ref (t4), .int (us)])), (t1, .inl (cI, S * Wy, .inl (tg))), (t2, .inl (cI, S * Wy, .inl (kd))), (t3, .inl (cI, S * Wy, .inl (tt))), (t4, .inl (cI, S * Wy, .inl (lu))), (u0, .inr (0, [.ref (u1), .ref (u2), .int (hh)])), (u1, .inl (cI, 64, .inl (hg))), (u2, .inl (cI, 64, .inl (hq))), (r0, .inr (2, [.int (nI L), .int (nI (rd)), .int (ro), .int (ru), .ref (r1)])), (r1, .inl (cI, L, .inl (rp))), (q0, .inr (1, [.int (nI (qs)), .int (nI (qf)), .int (nI L), .ref (q1), .ref (q2), .ref (q3), .ref (q4)])), (q1, .inl (cI, 16, .inl (qp))), (q2, .inl (cI, 16, .inl (qt))), (q3, .inl (cI, 16, .inl (qd))), (q4, .inl (cI, 16 * L, .inl (qr)))] s.heap.size = A at hD ⊢
  have hA : ∀ q : Nat, s.heap.size ≤ q → A q := fun q h => by rw [← hAe]; exact Or.inr h
  have hS : va_S A s.heap s.heap [] := va_S.rf
  have hP : va_P D vwCl [(b0, .inr (4, [.ref (t0), .ref (u0), .ref (r0), .ref (q0), .ref (b1), .int (ck), .int (ls_)])), (b1, .inl (cI, 7, .inl (an))), (t0, .inr (3, [.int (nI S), .int (nI Wy), .ref (t1), .ref (t2), .ref (t3), .int (fl), .int (nI sb), .ref (t4), .int (us)])), (t1, .inl (cI, S * Wy, .inl (tg))), (t2, .inl (cI, S * Wy, .inl (kd))), (t3, .inl (cI, S * Wy, .inl (tt))), (t4, .inl (cI, S * Wy, .inl (lu))), (u0, .inr (0, [.ref (u1), .ref (u2), .int (hh)])), (u1, .inl (cI, 64, .inl (hg))), (u2, .inl (cI, 64, .inl (hq))), (r0, .inr (2, [.int (nI L), .int (nI (rd)), .int (ro), .int (ru), .ref (r1)])), (r1, .inl (cI, L, .inl (rp))), (q0, .inr (1, [.int (nI (qs)), .int (nI (qf)), .int (nI L), .ref (q1), .ref (q2), .ref (q3), .ref (q4)])), (q1, .inl (cI, 16, .inl (qp))), (q2, .inl (cI, 16, .inl (qt))), (q3, .inl (cI, 16, .inl (qd))), (q4, .inl (cI, 16 * L, .inl (qr)))] s.heap := hP
  have hD : va_D A [(b0, .inr (4, [.ref (t0), .ref (u0), .ref (r0), .ref (q0), .ref (b1), .int (ck), .int (ls_)])), (b1, .inl (cI, 7, .inl (an))), (t0, .inr (3, [.int (nI S), .int (nI Wy), .ref (t1), .ref (t2), .ref (t3), .int (fl), .int (nI sb), .ref (t4), .int (us)])), (t1, .inl (cI, S * Wy, .inl (tg))), (t2, .inl (cI, S * Wy, .inl (kd))), (t3, .inl (cI, S * Wy, .inl (tt))), (t4, .inl (cI, S * Wy, .inl (lu))), (u0, .inr (0, [.ref (u1), .ref (u2), .int (hh)])), (u1, .inl (cI, 64, .inl (hg))), (u2, .inl (cI, 64, .inl (hq))), (r0, .inr (2, [.int (nI L), .int (nI (rd)), .int (ro), .int (ru), .ref (r1)])), (r1, .inl (cI, L, .inl (rp))), (q0, .inr (1, [.int (nI (qs)), .int (nI (qf)), .int (nI L), .ref (q1), .ref (q2), .ref (q3), .ref (q4)])), (q1, .inl (cI, 16, .inl (qp))), (q2, .inl (cI, 16, .inl (qt))), (q3, .inl (cI, 16, .inl (qd))), (q4, .inl (cI, 16 * L, .inl (qr)))] := hD
  have hl := lv_entry ([.ref (b0), .int (p0)]) (n := 2) (Nat.le_of_ble_eq_true rfl)
  rw [lg_entry_eq]
  generalize (lg_sl ([.ref (b0), .int (p0)]) ++ List.replicate (2 - (lg_sl ([.ref (b0), .int (p0)])).length) Slot.unset).toArray = ls at hl ⊢
  have hl : lv_has ls 2 [(0, .ref (b0)), (1, .int (p0))] := hl
  refine lv_aload_n hx hb dX4_ask_0 rfl (lv_at hl 0 rfl) ?_
  refine lv_iload_n hx hb dX4_ask_1 rfl (lv_at hl 1 rfl) ?_
  refine lv_aload_n hx hb dX4_ask_2 rfl (lv_at hl 0 rfl) ?_
  refine va_get (D := D) (ci := 4) (v := .ref (t0)) (C := RX4) (T := TX4) (N := 7) hx hb hts (fun w h => List.mem_cons_of_mem _ (hiX4 w h)) hown hK hP 0 rfl rfl 0 (by decide) kf18 (fun _ h9 => h9) rfl dX4_ask_3 ?_
  refine lv_iload_n hx hb dX4_ask_6 rfl (lv_at hl 1 rfl) ?_
  refine kc_i (wc := [(t0, .inr (3, [.int (nI S), .int (nI Wy), .ref (t1), .ref (t2), .ref (t3), .int (fl), .int (nI sb), .ref (t4), .int (us)])), (t1, .inl (cI, S * Wy, .inl (tg))), (t2, .inl (cI, S * Wy, .inl (kd))), (t3, .inl (cI, S * Wy, .inl (tt))), (t4, .inl (cI, S * Wy, .inl (lu)))]) (wr := [(b0, .inr (4, [.ref (t0), .ref (u0), .ref (r0), .ref (q0), .ref (b1), .int (ck), .int (ls_)])), (b1, .inl (cI, 7, .inl (an))), (u0, .inr (0, [.ref (u1), .ref (u2), .int (hh)])), (u1, .inl (cI, 64, .inl (hg))), (u2, .inl (cI, 64, .inl (hq))), (r0, .inr (2, [.int (nI L), .int (nI (rd)), .int (ro), .int (ru), .ref (r1)])), (r1, .inl (cI, L, .inl (rp))), (q0, .inr (1, [.int (nI (qs)), .int (nI (qf)), .int (nI L), .ref (q1), .ref (q2), .ref (q3), .ref (q4)])), (q1, .inl (cI, 16, .inl (qp))), (q2, .inl (cI, 16, .inl (qt))), (q3, .inl (cI, 16, .inl (qd))), (q4, .inl (cI, 16 * L, .inl (qr)))]) [2, 3, 4, 5, 6] [0, 1, 7, 8, 9, 10, 11, 12, 13, 14, 15, 16] rfl rfl (by decide) (by decide) hP hD hS hA (va_runV (As := [.int (p0)]) (rest := [.int (p0), .ref (b0)]) ⟨hx, hb, hml, hown, hts⟩ (c_X3_find l D cI cJ cZ _ _ _ _ _ _ _ _ _ _ _ _ _ _ _ _ hSs hS16 hsb hW hW4) (cwV 1 hts (kw_V kw_199 kw_200 kw_201 kw_28 kw_202) rfl rfl rfl (by decide +kernel) ⟨Nat.le_of_ble_eq_true rfl, Nat.le_of_ble_eq_true rfl⟩) ⟨kP_blind, va_recv hK (hP.sub (ws' := [(t0, .inr (3, [.int (nI S), .int (nI Wy), .ref (t1), .ref (t2), .ref (t3), .int (fl), .int (nI sb), .ref (t4), .int (us)])), (t1, .inl (cI, S * Wy, .inl (tg))), (t2, .inl (cI, S * Wy, .inl (kd))), (t3, .inl (cI, S * Wy, .inl (tt))), (t4, .inl (cI, S * Wy, .inl (lu)))]) [2, 3, 4, 5, 6] rfl) (ci := 3) (q0 := 0) rfl rfl, kP_at (hP.sub [2, 3, 4, 5, 6] rfl) hK (hD.sub [2, 3, 4, 5, 6] (by decide) rfl)⟩ rfl rfl hl.1 rfl (lv_room (Nat.le_of_ble_eq_true rfl)) dX4_ask_7 ⟨Nat.zero_le _, Nat.zero_le _⟩) (fun H locs hP hD hS => ?_)
  have hP := hP.sub (ws' := [(b0, .inr (4, [.ref (t0), .ref (u0), .ref (r0), .ref (q0), .ref (b1), .int (ck), .int (ls_)])), (b1, .inl (cI, 7, .inl (an))), (t0, .inr (3, [.int (nI S), .int (nI Wy), .ref (t1), .ref (t2), .ref (t3), .int (fl), .int (nI sb), .ref (t4), .int (us)])), (t1, .inl (cI, S * Wy, .inl (tg))), (t2, .inl (cI, S * Wy, .inl (kd))), (t3, .inl (cI, S * Wy, .inl (tt))), (t4, .inl (cI, S * Wy, .inl (lu))), (u0, .inr (0, [.ref (u1), .ref (u2), .int (hh)])), (u1, .inl (cI, 64, .inl (hg))), (u2, .inl (cI, 64, .inl (hq))), (r0, .inr (2, [.int (nI L), .int (nI (rd)), .int (ro), .int (ru), .ref (r1)])), (r1, .inl (cI, L, .inl (rp))), (q0, .inr (1, [.int (nI (qs)), .int (nI (qf)), .int (nI L), .ref (q1), .ref (q2), .ref (q3), .ref (q4)])), (q1, .inl (cI, 16, .inl (qp))), (q2, .inl (cI, 16, .inl (qt))), (q3, .inl (cI, 16, .inl (qd))), (q4, .inl (cI, 16 * L, .inl (qr)))]) [0, 1, 12, 13, 14, 15, 16, 2, 3, 4, 5, 6, 7, 8, 9, 10, 11] rfl
  have hD := hD.sub (ws' := [(b0, .inr (4, [.ref (t0), .ref (u0), .ref (r0), .ref (q0), .ref (b1), .int (ck), .int (ls_)])), (b1, .inl (cI, 7, .inl (an))), (t0, .inr (3, [.int (nI S), .int (nI Wy), .ref (t1), .ref (t2), .ref (t3), .int (fl), .int (nI sb), .ref (t4), .int (us)])), (t1, .inl (cI, S * Wy, .inl (tg))), (t2, .inl (cI, S * Wy, .inl (kd))), (t3, .inl (cI, S * Wy, .inl (tt))), (t4, .inl (cI, S * Wy, .inl (lu))), (u0, .inr (0, [.ref (u1), .ref (u2), .int (hh)])), (u1, .inl (cI, 64, .inl (hg))), (u2, .inl (cI, 64, .inl (hq))), (r0, .inr (2, [.int (nI L), .int (nI (rd)), .int (ro), .int (ru), .ref (r1)])), (r1, .inl (cI, L, .inl (rp))), (q0, .inr (1, [.int (nI (qs)), .int (nI (qf)), .int (nI L), .ref (q1), .ref (q2), .ref (q3), .ref (q4)])), (q1, .inl (cI, 16, .inl (qp))), (q2, .inl (cI, 16, .inl (qt))), (q3, .inl (cI, 16, .inl (qd))), (q4, .inl (cI, 16 * L, .inl (qr)))]) [0, 1, 12, 13, 14, 15, 16, 2, 3, 4, 5, 6, 7, 8, 9, 10, 11] (by decide) rfl
  refine kc_i (wc := [(b0, .inr (4, [.ref (t0), .ref (u0), .ref (r0), .ref (q0), .ref (b1), .int (ck), .int (ls_)])), (b1, .inl (cI, 7, .inl (an))), (t0, .inr (3, [.int (nI S), .int (nI Wy), .ref (t1), .ref (t2), .ref (t3), .int (fl), .int (nI sb), .ref (t4), .int (us)])), (t1, .inl (cI, S * Wy, .inl (tg))), (t2, .inl (cI, S * Wy, .inl (kd))), (t3, .inl (cI, S * Wy, .inl (tt))), (t4, .inl (cI, S * Wy, .inl (lu))), (u0, .inr (0, [.ref (u1), .ref (u2), .int (hh)])), (u1, .inl (cI, 64, .inl (hg))), (u2, .inl (cI, 64, .inl (hq))), (r0, .inr (2, [.int (nI L), .int (nI (rd)), .int (ro), .int (ru), .ref (r1)])), (r1, .inl (cI, L, .inl (rp))), (q0, .inr (1, [.int (nI (qs)), .int (nI (qf)), .int (nI L), .ref (q1), .ref (q2), .ref (q3), .ref (q4)])), (q1, .inl (cI, 16, .inl (qp))), (q2, .inl (cI, 16, .inl (qt))), (q3, .inl (cI, 16, .inl (qd))), (q4, .inl (cI, 16 * L, .inl (qr)))]) (wr := []) [0, 1, 2, 3, 4, 5, 6, 7, 8, 9, 10, 11, 12, 13, 14, 15, 16] [] rfl rfl (by decide) (by decide) hP hD hS hA (va_runV (As := [.int (p0), .int (tf_i (tf_find S Wy sb (tg, kd, tt, lu, fl, us) (p0)))]) (rest := []) ⟨hx, hb, hml, hown, hts⟩ (c_X4_toldOf l D cI cJ cZ _ _ _ _ _ _ _ _ _ _ _ _ _ _ _ _ _ _ _ _ _ _ _ _ _ _ _ _ _ _ _ _ _ _ _ _ _ _ _ _ _ _ _ _ _ _ (fun o h => (tf_find_lt h).2.1) hSs hS16 hsb hW hW4 hd hL hf hs) (cwV 2 hts (kw_V kw_211 kw_213 kw_2 kw_26 kw_214) rfl rfl rfl (by decide +kernel) ⟨Nat.le_of_ble_eq_true rfl, Nat.le_of_ble_eq_true rfl⟩) ⟨kP_blind, va_recv hK (hP.sub (ws' := [(b0, .inr (4, [.ref (t0), .ref (u0), .ref (r0), .ref (q0), .ref (b1), .int (ck), .int (ls_)])), (b1, .inl (cI, 7, .inl (an))), (t0, .inr (3, [.int (nI S), .int (nI Wy), .ref (t1), .ref (t2), .ref (t3), .int (fl), .int (nI sb), .ref (t4), .int (us)])), (t1, .inl (cI, S * Wy, .inl (tg))), (t2, .inl (cI, S * Wy, .inl (kd))), (t3, .inl (cI, S * Wy, .inl (tt))), (t4, .inl (cI, S * Wy, .inl (lu))), (u0, .inr (0, [.ref (u1), .ref (u2), .int (hh)])), (u1, .inl (cI, 64, .inl (hg))), (u2, .inl (cI, 64, .inl (hq))), (r0, .inr (2, [.int (nI L), .int (nI (rd)), .int (ro), .int (ru), .ref (r1)])), (r1, .inl (cI, L, .inl (rp))), (q0, .inr (1, [.int (nI (qs)), .int (nI (qf)), .int (nI L), .ref (q1), .ref (q2), .ref (q3), .ref (q4)])), (q1, .inl (cI, 16, .inl (qp))), (q2, .inl (cI, 16, .inl (qt))), (q3, .inl (cI, 16, .inl (qd))), (q4, .inl (cI, 16 * L, .inl (qr)))]) [0, 1, 2, 3, 4, 5, 6, 7, 8, 9, 10, 11, 12, 13, 14, 15, 16] rfl) (ci := 4) (q0 := 0) rfl rfl, kP_at (hP.sub [0, 1, 2, 3, 4, 5, 6, 7, 8, 9, 10, 11, 12, 13, 14, 15, 16] rfl) hK (hD.sub [0, 1, 2, 3, 4, 5, 6, 7, 8, 9, 10, 11, 12, 13, 14, 15, 16] (by decide) rfl)⟩ rfl rfl hl.1 rfl (lv_room (Nat.le_of_ble_eq_true rfl)) dX4_ask_10 ⟨Nat.zero_le _, Nat.zero_le _⟩) (fun H locs hP hD hS => ?_)
  have hP := hP.sub (ws' := [(b0, .inr (4, [.ref (t0), .ref (u0), .ref (r0), .ref (q0), .ref (b1), .int (ck), .int (ls_)])), (b1, .inl (cI, 7, .inl (an))), (t0, .inr (3, [.int (nI S), .int (nI Wy), .ref (t1), .ref (t2), .ref (t3), .int (fl), .int (nI sb), .ref (t4), .int (us)])), (t1, .inl (cI, S * Wy, .inl (tg))), (t2, .inl (cI, S * Wy, .inl (kd))), (t3, .inl (cI, S * Wy, .inl (tt))), (t4, .inl (cI, S * Wy, .inl (lu))), (u0, .inr (0, [.ref (u1), .ref (u2), .int (hh)])), (u1, .inl (cI, 64, .inl (hg))), (u2, .inl (cI, 64, .inl (hq))), (r0, .inr (2, [.int (nI L), .int (nI (rd)), .int (ro), .int (ru), .ref (r1)])), (r1, .inl (cI, L, .inl (rp))), (q0, .inr (1, [.int (nI (qs)), .int (nI (qf)), .int (nI L), .ref (q1), .ref (q2), .ref (q3), .ref (q4)])), (q1, .inl (cI, 16, .inl (qp))), (q2, .inl (cI, 16, .inl (qt))), (q3, .inl (cI, 16, .inl (qd))), (q4, .inl (cI, 16 * L, .inl (qr)))]) [0, 1, 2, 3, 4, 5, 6, 7, 8, 9, 10, 11, 12, 13, 14, 15, 16] rfl
  have hD := hD.sub (ws' := [(b0, .inr (4, [.ref (t0), .ref (u0), .ref (r0), .ref (q0), .ref (b1), .int (ck), .int (ls_)])), (b1, .inl (cI, 7, .inl (an))), (t0, .inr (3, [.int (nI S), .int (nI Wy), .ref (t1), .ref (t2), .ref (t3), .int (fl), .int (nI sb), .ref (t4), .int (us)])), (t1, .inl (cI, S * Wy, .inl (tg))), (t2, .inl (cI, S * Wy, .inl (kd))), (t3, .inl (cI, S * Wy, .inl (tt))), (t4, .inl (cI, S * Wy, .inl (lu))), (u0, .inr (0, [.ref (u1), .ref (u2), .int (hh)])), (u1, .inl (cI, 64, .inl (hg))), (u2, .inl (cI, 64, .inl (hq))), (r0, .inr (2, [.int (nI L), .int (nI (rd)), .int (ro), .int (ru), .ref (r1)])), (r1, .inl (cI, L, .inl (rp))), (q0, .inr (1, [.int (nI (qs)), .int (nI (qf)), .int (nI L), .ref (q1), .ref (q2), .ref (q3), .ref (q4)])), (q1, .inl (cI, 16, .inl (qp))), (q2, .inl (cI, 16, .inl (qt))), (q3, .inl (cI, 16, .inl (qd))), (q4, .inl (cI, 16 * L, .inl (qr)))]) [0, 1, 2, 3, 4, 5, 6, 7, 8, 9, 10, 11, 12, 13, 14, 15, 16] (by decide) rfl
  exact kr_i (rfl) hx hb hr hlocks hP hK hD hS (rfl) dX4_ask_13
end
section
set_option maxHeartbeats 4000000 in
set_option maxRecDepth 100000 in
/-- a call pushes, a return pops -/
theorem c_X4_moveStack (l : Launch) (D : va_G) (cI cJ cZ : ClassId) (sz : Nat) (b0 b1 t0 t1 t2 t3 t4 u0 u1 u2 r0 r1 q0 q1 q2 q3 q4 : Nat) (S Wy sb L : Nat) (tg kd tt lu : Fn) (fl us : Int32) (hg hq : Fn) (hh : Int32) (rp : Fn) (rd : Nat) (ro ru : Int32) (qp qt qd qr : Fn) (qs qf : Nat) (an : Fn) (ck ls_ : Int32) (p0 p1 : Int32) (hSs : S = 0 ∨ S = 2 ^ sb) (hS16 : S ≤ 16) (hsb : sb ≤ 4) (hW : 0 < Wy) (hW4 : Wy ≤ 4) (hd : rd ≤ L) (hL : L < 2 ^ 10) (hf : qf < 16) (hs : qs ≤ 16) : KV l yX4_moveStack wsX4_moveStack ({ frames := 3, cells := 0, slots := 0, locals := 59 } : Room) D (kTy cI cJ cZ) [.ref (b0), .int (p0), .int (p1)] [(b0, .inr (4, [.ref (t0), .ref (u0), .ref (r0), .ref (q0), .ref (b1), .int (ck), .int (ls_)])), (b1, .inl (cI, 7, .inl (an))), (t0, .inr (3, [.int (nI S), .int (nI Wy), .ref (t1), .ref (t2), .ref (t3), .int (fl), .int (nI sb), .ref (t4), .int (us)])), (t1, .inl (cI, S * Wy, .inl (tg))), (t2, .inl (cI, S * Wy, .inl (kd))), (t3, .inl (cI, S * Wy, .inl (tt))), (t4, .inl (cI, S * Wy, .inl (lu))), (u0, .inr (0, [.ref (u1), .ref (u2), .int (hh)])), (u1, .inl (cI, 64, .inl (hg))), (u2, .inl (cI, 64, .inl (hq))), (r0, .inr (2, [.int (nI L), .int (nI (rd)), .int (ro), .int (ru), .ref (r1)])), (r1, .inl (cI, L, .inl (rp))), (q0, .inr (1, [.int (nI (qs)), .int (nI (qf)), .int (nI L), .ref (q1), .ref (q2), .ref (q3), .ref (q4)])), (q1, .inl (cI, 16, .inl (qp))), (q2, .inl (cI, 16, .inl (qt))), (q3, .inl (cI, 16, .inl (qd))), (q4, .inl (cI, 16 * L, .inl (qr)))] sz (wTR b0 b1 t0 t1 t2 t3 t4 u0 u1 u2 r0 r1 q0 q1 q2 q3 q4 cI S Wy sb L ((tg, kd, tt, lu, fl, us), (hg, hq, hh), cf_move L (rp, rd, ro, ru) p0 p1, (qp, qt, qd, qr, qs, qf), an, ck, ls_)) 0 0 := by
  refine Met.ofW (cc := cX4_moveStack) (maxL := 3) (ret := none) (by decide) rfl ?_
  intro p e s m args below meth c s₁ B hml hv
  obtain ⟨rfl, hsz, hP, hK, hD0⟩ := hv
  have hx := B.exec
  have hb := B.bytes
  have hr := B.returns
  have hts := atoms_spec (ws := wsX4_moveStack) B.pre
  have hown : s.vm.findClass RX4 = some m.cls := findClass_of_methodNamed B.named
  have hlocks := B.notSynchronized
  have kf36 := hts (.fieldLink RX4 36 "TargetRows" "stack" "LTargetRows$Returns;") (List.mem_cons_of_mem _ kw_175)
  subst hsz
  have hD := hD0.self (sz := s.heap.size)
  generalize hAe : va_A [(b0, .inr (4, [.ref (t0), .ref (u0), .ref (r0), .ref (q0), .ref (b1), .int (ck), .int (ls_)])), (b1, .inl (cI, 7, .inl (an))), (t0, .inr (3, [.int (nI S), .int (nI Wy), .ref (t1), .ref (t2), .ref (t3), .int (fl), .int (nI sb), .ref (t4), .int (us)])), (t1, .inl (cI, S * Wy, .inl (tg))), (t2, .inl (cI, S * Wy, .inl (kd))), (t3, .inl (cI, S * Wy, .inl (tt))), (t4, .inl (cI, S * Wy, .inl (lu))), (u0, .inr (0, [.ref (u1), .ref (u2), .int (hh)])), (u1, .inl (cI, 64, .inl (hg))), (u2, .inl (cI, 64, .inl (hq))), (r0, .inr (2, [.int (nI L), .int (nI (rd)), .int (ro), .int (ru), .ref (r1)])), (r1, .inl (cI, L, .inl (rp))), (q0, .inr (1, [.int (nI (qs)), .int (nI (qf)), .int (nI L), .ref (q1), .ref (q2), .ref (q3), .ref (q4)])), (q1, .inl (cI, 16, .inl (qp))), (q2, .inl (cI, 16, .inl (qt))), (q3, .inl (cI, 16, .inl (qd))), (q4, .inl (cI, 16 * L, .inl (qr)))] s.heap.size = A at hD ⊢
  have hA : ∀ q : Nat, s.heap.size ≤ q → A q := fun q h => by rw [← hAe]; exact Or.inr h
  have hS : va_S A s.heap s.heap [] := va_S.rf
  have hP : va_P D vwCl [(b0, .inr (4, [.ref (t0), .ref (u0), .ref (r0), .ref (q0), .ref (b1), .int (ck), .int (ls_)])), (b1, .inl (cI, 7, .inl (an))), (t0, .inr (3, [.int (nI S), .int (nI Wy), .ref (t1), .ref (t2), .ref (t3), .int (fl), .int (nI sb), .ref (t4), .int (us)])), (t1, .inl (cI, S * Wy, .inl (tg))), (t2, .inl (cI, S * Wy, .inl (kd))), (t3, .inl (cI, S * Wy, .inl (tt))), (t4, .inl (cI, S * Wy, .inl (lu))), (u0, .inr (0, [.ref (u1), .ref (u2), .int (hh)])), (u1, .inl (cI, 64, .inl (hg))), (u2, .inl (cI, 64, .inl (hq))), (r0, .inr (2, [.int (nI L), .int (nI (rd)), .int (ro), .int (ru), .ref (r1)])), (r1, .inl (cI, L, .inl (rp))), (q0, .inr (1, [.int (nI (qs)), .int (nI (qf)), .int (nI L), .ref (q1), .ref (q2), .ref (q3), .ref (q4)])), (q1, .inl (cI, 16, .inl (qp))), (q2, .inl (cI, 16, .inl (qt))), (q3, .inl (cI, 16, .inl (qd))), (q4, .inl (cI, 16 * L, .inl (qr)))] s.heap := hP
  have hD : va_D A [(b0, .inr (4, [.ref (t0), .ref (u0), .ref (r0), .ref (q0), .ref (b1), .int (ck), .int (ls_)])), (b1, .inl (cI, 7, .inl (an))), (t0, .inr (3, [.int (nI S), .int (nI Wy), .ref (t1), .ref (t2), .ref (t3), .int (fl), .int (nI sb), .ref (t4), .int (us)])), (t1, .inl (cI, S * Wy, .inl (tg))), (t2, .inl (cI, S * Wy, .inl (kd))), (t3, .inl (cI, S * Wy, .inl (tt))), (t4, .inl (cI, S * Wy, .inl (lu))), (u0, .inr (0, [.ref (u1), .ref (u2), .int (hh)])), (u1, .inl (cI, 64, .inl (hg))), (u2, .inl (cI, 64, .inl (hq))), (r0, .inr (2, [.int (nI L), .int (nI (rd)), .int (ro), .int (ru), .ref (r1)])), (r1, .inl (cI, L, .inl (rp))), (q0, .inr (1, [.int (nI (qs)), .int (nI (qf)), .int (nI L), .ref (q1), .ref (q2), .ref (q3), .ref (q4)])), (q1, .inl (cI, 16, .inl (qp))), (q2, .inl (cI, 16, .inl (qt))), (q3, .inl (cI, 16, .inl (qd))), (q4, .inl (cI, 16 * L, .inl (qr)))] := hD
  have hl := lv_entry ([.ref (b0), .int (p0), .int (p1)]) (n := 3) (Nat.le_of_ble_eq_true rfl)
  rw [lg_entry_eq]
  generalize (lg_sl ([.ref (b0), .int (p0), .int (p1)]) ++ List.replicate (3 - (lg_sl ([.ref (b0), .int (p0), .int (p1)])).length) Slot.unset).toArray = ls at hl ⊢
  have hl : lv_has ls 3 [(0, .ref (b0)), (1, .int (p0)), (2, .int (p1))] := hl
  refine lv_iload_n hx hb dX4_moveStack_0 rfl (lv_at hl 1 rfl) ?_
  refine lv_iconst (v := 1) hx hb dX4_moveStack_1 (by decide) ?_
  refine lv_icmp_ne (tgt := 19) hx hb dX4_moveStack_2 (by decide) (fun c_2 => ?_) (fun c_2 => ?_)
  ·
    refine lv_iload_n hx hb dX4_moveStack_19 rfl (lv_at hl 1 rfl) ?_
    refine lv_iconst (v := 2) hx hb dX4_moveStack_20 (by decide) ?_
    refine lv_icmp_ne (tgt := 31) hx hb dX4_moveStack_21 (by decide) (fun c_21 => ?_) (fun c_21 => ?_)
    ·
      exact kr_v (congrArg (wTR b0 b1 t0 t1 t2 t3 t4 u0 u1 u2 r0 r1 q0 q1 q2 q3 q4 cI S Wy sb L ) (show (((tg, kd, tt, lu, fl, us), (hg, hq, hh), (rp, rd, ro, ru), (qp, qt, qd, qr, qs, qf), an, ck, ls_) : Cs) = ((tg, kd, tt, lu, fl, us), (hg, hq, hh), cf_move L (rp, rd, ro, ru) p0 p1, (qp, qt, qd, qr, qs, qf), an, ck, ls_) from by simp only [cf_move, if_neg c_2, if_neg c_21])) hx hb hr hlocks hP hK hD hS trivial dX4_moveStack_31
    ·
      refine lv_aload_n hx hb dX4_moveStack_24 rfl (lv_at hl 0 rfl) ?_
      refine va_get (D := D) (ci := 4) (v := .ref (r0)) (C := RX4) (T := TX4) (N := 7) hx hb hts (fun w h => List.mem_cons_of_mem _ (hiX4 w h)) hown hK hP 0 rfl rfl 2 (by decide) kf36 (fun _ h9 => h9) rfl dX4_moveStack_25 ?_
      refine kc_v (wc := [(r0, .inr (2, [.int (nI L), .int (nI (rd)), .int (ro), .int (ru), .ref (r1)])), (r1, .inl (cI, L, .inl (rp)))]) (wr := [(b0, .inr (4, [.ref (t0), .ref (u0), .ref (r0), .ref (q0), .ref (b1), .int (ck), .int (ls_)])), (b1, .inl (cI, 7, .inl (an))), (t0, .inr (3, [.int (nI S), .int (nI Wy), .ref (t1), .ref (t2), .ref (t3), .int (fl), .int (nI sb), .ref (t4), .int (us)])), (t1, .inl (cI, S * Wy, .inl (tg))), (t2, .inl (cI, S * Wy, .inl (kd))), (t3, .inl (cI, S * Wy, .inl (tt))), (t4, .inl (cI, S * Wy, .inl (lu))), (u0, .inr (0, [.ref (u1), .ref (u2), .int (hh)])), (u1, .inl (cI, 64, .inl (hg))), (u2, .inl (cI, 64, .inl (hq))), (q0, .inr (1, [.int (nI (qs)), .int (nI (qf)), .int (nI L), .ref (q1), .ref (q2), .ref (q3), .ref (q4)])), (q1, .inl (cI, 16, .inl (qp))), (q2, .inl (cI, 16, .inl (qt))), (q3, .inl (cI, 16, .inl (qd))), (q4, .inl (cI, 16 * L, .inl (qr)))]) [10, 11] [0, 1, 2, 3, 4, 5, 6, 7, 8, 9, 12, 13, 14, 15, 16] rfl rfl (by decide) (by decide) hP hD hS hA (va_runV (As := []) (rest := []) ⟨hx, hb, hml, hown, hts⟩ (c_X2_pop l D cI cJ cZ _ _ _ _ _ _ _ _ hd (by omega)) (cwV 0 hts (kw_V kw_368 kw_369 kw_370 kw_31 kw_371) rfl rfl rfl (by decide +kernel) ⟨Nat.le_of_ble_eq_true rfl, Nat.le_of_ble_eq_true rfl⟩) ⟨kP_blind, va_recv hK (hP.sub (ws' := [(r0, .inr (2, [.int (nI L), .int (nI (rd)), .int (ro), .int (ru), .ref (r1)])), (r1, .inl (cI, L, .inl (rp)))]) [10, 11] rfl) (ci := 2) (q0 := 0) rfl rfl, kP_at (hP.sub [10, 11] rfl) hK (hD.sub [10, 11] (by decide) rfl)⟩ rfl rfl hl.1 rfl (lv_room (Nat.le_of_ble_eq_true rfl)) dX4_moveStack_28 ⟨Nat.zero_le _, Nat.zero_le _⟩) (fun H locs hP hD hS => ?_)
      have hP := hP.sub (ws' := [(b0, .inr (4, [.ref (t0), .ref (u0), .ref (r0), .ref (q0), .ref (b1), .int (ck), .int (ls_)])), (b1, .inl (cI, 7, .inl (an))), (t0, .inr (3, [.int (nI S), .int (nI Wy), .ref (t1), .ref (t2), .ref (t3), .int (fl), .int (nI sb), .ref (t4), .int (us)])), (t1, .inl (cI, S * Wy, .inl (tg))), (t2, .inl (cI, S * Wy, .inl (kd))), (t3, .inl (cI, S * Wy, .inl (tt))), (t4, .inl (cI, S * Wy, .inl (lu))), (u0, .inr (0, [.ref (u1), .ref (u2), .int (hh)])), (u1, .inl (cI, 64, .inl (hg))), (u2, .inl (cI, 64, .inl (hq))), (r0, .inr (2, [.int (nI L), .int (nI ((rf_pop (rp, rd, ro, ru)).2.1)), .int ((rf_pop (rp, rd, ro, ru)).2.2.1), .int ((rf_pop (rp, rd, ro, ru)).2.2.2), .ref (r1)])), (r1, .inl (cI, L, .inl ((rf_pop (rp, rd, ro, ru)).1))), (q0, .inr (1, [.int (nI (qs)), .int (nI (qf)), .int (nI L), .ref (q1), .ref (q2), .ref (q3), .ref (q4)])), (q1, .inl (cI, 16, .inl (qp))), (q2, .inl (cI, 16, .inl (qt))), (q3, .inl (cI, 16, .inl (qd))), (q4, .inl (cI, 16 * L, .inl (qr)))]) [0, 1, 2, 3, 4, 5, 6, 7, 8, 9, 15, 16, 10, 11, 12, 13, 14] rfl
      have hD := hD.sub (ws' := [(b0, .inr (4, [.ref (t0), .ref (u0), .ref (r0), .ref (q0), .ref (b1), .int (ck), .int (ls_)])), (b1, .inl (cI, 7, .inl (an))), (t0, .inr (3, [.int (nI S), .int (nI Wy), .ref (t1), .ref (t2), .ref (t3), .int (fl), .int (nI sb), .ref (t4), .int (us)])), (t1, .inl (cI, S * Wy, .inl (tg))), (t2, .inl (cI, S * Wy, .inl (kd))), (t3, .inl (cI, S * Wy, .inl (tt))), (t4, .inl (cI, S * Wy, .inl (lu))), (u0, .inr (0, [.ref (u1), .ref (u2), .int (hh)])), (u1, .inl (cI, 64, .inl (hg))), (u2, .inl (cI, 64, .inl (hq))), (r0, .inr (2, [.int (nI L), .int (nI ((rf_pop (rp, rd, ro, ru)).2.1)), .int ((rf_pop (rp, rd, ro, ru)).2.2.1), .int ((rf_pop (rp, rd, ro, ru)).2.2.2), .ref (r1)])), (r1, .inl (cI, L, .inl ((rf_pop (rp, rd, ro, ru)).1))), (q0, .inr (1, [.int (nI (qs)), .int (nI (qf)), .int (nI L), .ref (q1), .ref (q2), .ref (q3), .ref (q4)])), (q1, .inl (cI, 16, .inl (qp))), (q2, .inl (cI, 16, .inl (qt))), (q3, .inl (cI, 16, .inl (qd))), (q4, .inl (cI, 16 * L, .inl (qr)))]) [0, 1, 2, 3, 4, 5, 6, 7, 8, 9, 15, 16, 10, 11, 12, 13, 14] (by decide) rfl
      exact kr_v (congrArg (wTR b0 b1 t0 t1 t2 t3 t4 u0 u1 u2 r0 r1 q0 q1 q2 q3 q4 cI S Wy sb L ) (show (((tg, kd, tt, lu, fl, us), (hg, hq, hh), ((rf_pop (rp, rd, ro, ru)).1, (rf_pop (rp, rd, ro, ru)).2.1, (rf_pop (rp, rd, ro, ru)).2.2.1, (rf_pop (rp, rd, ro, ru)).2.2.2), (qp, qt, qd, qr, qs, qf), an, ck, ls_) : Cs) = ((tg, kd, tt, lu, fl, us), (hg, hq, hh), cf_move L (rp, rd, ro, ru) p0 p1, (qp, qt, qd, qr, qs, qf), an, ck, ls_) from by simp only [cf_move, if_neg c_2, if_pos c_21])) hx hb hr hlocks hP hK hD hS trivial dX4_moveStack_31
  ·
    refine lv_aload_n hx hb dX4_moveStack_5 rfl (lv_at hl 0 rfl) ?_
    refine va_get (D := D) (ci := 4) (v := .ref (r0)) (C := RX4) (T := TX4) (N := 7) hx hb hts (fun w h => List.mem_cons_of_mem _ (hiX4 w h)) hown hK hP 0 rfl rfl 2 (by decide) kf36 (fun _ h9 => h9) rfl dX4_moveStack_6 ?_
    refine lv_iload_n hx hb dX4_moveStack_9 rfl (lv_at hl 2 rfl) ?_
    refine kc_i (wc := []) (wr := [(b0, .inr (4, [.ref (t0), .ref (u0), .ref (r0), .ref (q0), .ref (b1), .int (ck), .int (ls_)])), (b1, .inl (cI, 7, .inl (an))), (t0, .inr (3, [.int (nI S), .int (nI Wy), .ref (t1), .ref (t2), .ref (t3), .int (fl), .int (nI sb), .ref (t4), .int (us)])), (t1, .inl (cI, S * Wy, .inl (tg))), (t2, .inl (cI, S * Wy, .inl (kd))), (t3, .inl (cI, S * Wy, .inl (tt))), (t4, .inl (cI, S * Wy, .inl (lu))), (u0, .inr (0, [.ref (u1), .ref (u2), .int (hh)])), (u1, .inl (cI, 64, .inl (hg))), (u2, .inl (cI, 64, .inl (hq))), (r0, .inr (2, [.int (nI L), .int (nI (rd)), .int (ro), .int (ru), .ref (r1)])), (r1, .inl (cI, L, .inl (rp))), (q0, .inr (1, [.int (nI (qs)), .int (nI (qf)), .int (nI L), .ref (q1), .ref (q2), .ref (q3), .ref (q4)])), (q1, .inl (cI, 16, .inl (qp))), (q2, .inl (cI, 16, .inl (qt))), (q3, .inl (cI, 16, .inl (qd))), (q4, .inl (cI, 16 * L, .inl (qr)))]) [] [0, 1, 2, 3, 4, 5, 6, 7, 8, 9, 10, 11, 12, 13, 14, 15, 16] rfl rfl (by decide) (by decide) hP hD hS hA (va_runS (As := [.int (p1)]) (rest := [.ref (r0)]) ⟨hx, hb, hml, hown, hts⟩ (c_X4_behind l D cI cJ cZ _ _) (va_cwS 1 hts (kw_S kw_215 kw_216 kw_26 kw_217) rfl rfl rfl (by decide +kernel) ⟨Nat.le_of_ble_eq_true rfl, Nat.le_of_ble_eq_true rfl⟩) ⟨kP_blind, kP_at (hP.sub [] rfl) hK (hD.sub [] (by decide) rfl)⟩ rfl rfl hl.1 rfl (lv_room (Nat.le_of_ble_eq_true rfl)) dX4_moveStack_10 ⟨Nat.zero_le _, Nat.zero_le _⟩) (fun H locs hP hD hS => ?_)
    have hP := hP.sub (ws' := [(b0, .inr (4, [.ref (t0), .ref (u0), .ref (r0), .ref (q0), .ref (b1), .int (ck), .int (ls_)])), (b1, .inl (cI, 7, .inl (an))), (t0, .inr (3, [.int (nI S), .int (nI Wy), .ref (t1), .ref (t2), .ref (t3), .int (fl), .int (nI sb), .ref (t4), .int (us)])), (t1, .inl (cI, S * Wy, .inl (tg))), (t2, .inl (cI, S * Wy, .inl (kd))), (t3, .inl (cI, S * Wy, .inl (tt))), (t4, .inl (cI, S * Wy, .inl (lu))), (u0, .inr (0, [.ref (u1), .ref (u2), .int (hh)])), (u1, .inl (cI, 64, .inl (hg))), (u2, .inl (cI, 64, .inl (hq))), (r0, .inr (2, [.int (nI L), .int (nI (rd)), .int (ro), .int (ru), .ref (r1)])), (r1, .inl (cI, L, .inl (rp))), (q0, .inr (1, [.int (nI (qs)), .int (nI (qf)), .int (nI L), .ref (q1), .ref (q2), .ref (q3), .ref (q4)])), (q1, .inl (cI, 16, .inl (qp))), (q2, .inl (cI, 16, .inl (qt))), (q3, .inl (cI, 16, .inl (qd))), (q4, .inl (cI, 16 * L, .inl (qr)))]) [0, 1, 2, 3, 4, 5, 6, 7, 8, 9, 10, 11, 12, 13, 14, 15, 16] rfl
    have hD := hD.sub (ws' := [(b0, .inr (4, [.ref (t0), .ref (u0), .ref (r0), .ref (q0), .ref (b1), .int (ck), .int (ls_)])), (b1, .inl (cI, 7, .inl (an))), (t0, .inr (3, [.int (nI S), .int (nI Wy), .ref (t1), .ref (t2), .ref (t3), .int (fl), .int (nI sb), .ref (t4), .int (us)])), (t1, .inl (cI, S * Wy, .inl (tg))), (t2, .inl (cI, S * Wy, .inl (kd))), (t3, .inl (cI, S * Wy, .inl (tt))), (t4, .inl (cI, S * Wy, .inl (lu))), (u0, .inr (0, [.ref (u1), .ref (u2), .int (hh)])), (u1, .inl (cI, 64, .inl (hg))), (u2, .inl (cI, 64, .inl (hq))), (r0, .inr (2, [.int (nI L), .int (nI (rd)), .int (ro), .int (ru), .ref (r1)])), (r1, .inl (cI, L, .inl (rp))), (q0, .inr (1, [.int (nI (qs)), .int (nI (qf)), .int (nI L), .ref (q1), .ref (q2), .ref (q3), .ref (q4)])), (q1, .inl (cI, 16, .inl (qp))), (q2, .inl (cI, 16, .inl (qt))), (q3, .inl (cI, 16, .inl (qd))), (q4, .inl (cI, 16 * L, .inl (qr)))]) [0, 1, 2, 3, 4, 5, 6, 7, 8, 9, 10, 11, 12, 13, 14, 15, 16] (by decide) rfl
    refine kc_v (wc := [(r0, .inr (2, [.int (nI L), .int (nI (rd)), .int (ro), .int (ru), .ref (r1)])), (r1, .inl (cI, L, .inl (rp)))]) (wr := [(b0, .inr (4, [.ref (t0), .ref (u0), .ref (r0), .ref (q0), .ref (b1), .int (ck), .int (ls_)])), (b1, .inl (cI, 7, .inl (an))), (t0, .inr (3, [.int (nI S), .int (nI Wy), .ref (t1), .ref (t2), .ref (t3), .int (fl), .int (nI sb), .ref (t4), .int (us)])), (t1, .inl (cI, S * Wy, .inl (tg))), (t2, .inl (cI, S * Wy, .inl (kd))), (t3, .inl (cI, S * Wy, .inl (tt))), (t4, .inl (cI, S * Wy, .inl (lu))), (u0, .inr (0, [.ref (u1), .ref (u2), .int (hh)])), (u1, .inl (cI, 64, .inl (hg))), (u2, .inl (cI, 64, .inl (hq))), (q0, .inr (1, [.int (nI (qs)), .int (nI (qf)), .int (nI L), .ref (q1), .ref (q2), .ref (q3), .ref (q4)])), (q1, .inl (cI, 16, .inl (qp))), (q2, .inl (cI, 16, .inl (qt))), (q3, .inl (cI, 16, .inl (qd))), (q4, .inl (cI, 16 * L, .inl (qr)))]) [10, 11] [0, 1, 2, 3, 4, 5, 6, 7, 8, 9, 12, 13, 14, 15, 16] rfl rfl (by decide) (by decide) hP hD hS hA (va_runV (As := [.int ((p1) + 4)]) (rest := []) ⟨hx, hb, hml, hown, hts⟩ (c_X2_push l D cI cJ cZ _ _ _ _ _ _ _ _ _ hd (by omega)) (cwV 1 hts (kw_V kw_360 kw_361 kw_362 kw_31 kw_363) rfl rfl rfl (by decide +kernel) ⟨Nat.le_of_ble_eq_true rfl, Nat.le_of_ble_eq_true rfl⟩) ⟨kP_blind, va_recv hK (hP.sub (ws' := [(r0, .inr (2, [.int (nI L), .int (nI (rd)), .int (ro), .int (ru), .ref (r1)])), (r1, .inl (cI, L, .inl (rp)))]) [10, 11] rfl) (ci := 2) (q0 := 0) rfl rfl, kP_at (hP.sub [10, 11] rfl) hK (hD.sub [10, 11] (by decide) rfl)⟩ rfl rfl hl.1 rfl (lv_room (Nat.le_of_ble_eq_true rfl)) dX4_moveStack_13 ⟨Nat.zero_le _, Nat.zero_le _⟩) (fun H locs hP hD hS => ?_)
    have hP := hP.sub (ws' := [(b0, .inr (4, [.ref (t0), .ref (u0), .ref (r0), .ref (q0), .ref (b1), .int (ck), .int (ls_)])), (b1, .inl (cI, 7, .inl (an))), (t0, .inr (3, [.int (nI S), .int (nI Wy), .ref (t1), .ref (t2), .ref (t3), .int (fl), .int (nI sb), .ref (t4), .int (us)])), (t1, .inl (cI, S * Wy, .inl (tg))), (t2, .inl (cI, S * Wy, .inl (kd))), (t3, .inl (cI, S * Wy, .inl (tt))), (t4, .inl (cI, S * Wy, .inl (lu))), (u0, .inr (0, [.ref (u1), .ref (u2), .int (hh)])), (u1, .inl (cI, 64, .inl (hg))), (u2, .inl (cI, 64, .inl (hq))), (r0, .inr (2, [.int (nI L), .int (nI ((rf_push L (rp, rd, ro, ru) ((p1) + 4)).2.1)), .int ((rf_push L (rp, rd, ro, ru) ((p1) + 4)).2.2.1), .int ((rf_push L (rp, rd, ro, ru) ((p1) + 4)).2.2.2), .ref (r1)])), (r1, .inl (cI, L, .inl ((rf_push L (rp, rd, ro, ru) ((p1) + 4)).1))), (q0, .inr (1, [.int (nI (qs)), .int (nI (qf)), .int (nI L), .ref (q1), .ref (q2), .ref (q3), .ref (q4)])), (q1, .inl (cI, 16, .inl (qp))), (q2, .inl (cI, 16, .inl (qt))), (q3, .inl (cI, 16, .inl (qd))), (q4, .inl (cI, 16 * L, .inl (qr)))]) [0, 1, 2, 3, 4, 5, 6, 7, 8, 9, 15, 16, 10, 11, 12, 13, 14] rfl
    have hD := hD.sub (ws' := [(b0, .inr (4, [.ref (t0), .ref (u0), .ref (r0), .ref (q0), .ref (b1), .int (ck), .int (ls_)])), (b1, .inl (cI, 7, .inl (an))), (t0, .inr (3, [.int (nI S), .int (nI Wy), .ref (t1), .ref (t2), .ref (t3), .int (fl), .int (nI sb), .ref (t4), .int (us)])), (t1, .inl (cI, S * Wy, .inl (tg))), (t2, .inl (cI, S * Wy, .inl (kd))), (t3, .inl (cI, S * Wy, .inl (tt))), (t4, .inl (cI, S * Wy, .inl (lu))), (u0, .inr (0, [.ref (u1), .ref (u2), .int (hh)])), (u1, .inl (cI, 64, .inl (hg))), (u2, .inl (cI, 64, .inl (hq))), (r0, .inr (2, [.int (nI L), .int (nI ((rf_push L (rp, rd, ro, ru) ((p1) + 4)).2.1)), .int ((rf_push L (rp, rd, ro, ru) ((p1) + 4)).2.2.1), .int ((rf_push L (rp, rd, ro, ru) ((p1) + 4)).2.2.2), .ref (r1)])), (r1, .inl (cI, L, .inl ((rf_push L (rp, rd, ro, ru) ((p1) + 4)).1))), (q0, .inr (1, [.int (nI (qs)), .int (nI (qf)), .int (nI L), .ref (q1), .ref (q2), .ref (q3), .ref (q4)])), (q1, .inl (cI, 16, .inl (qp))), (q2, .inl (cI, 16, .inl (qt))), (q3, .inl (cI, 16, .inl (qd))), (q4, .inl (cI, 16 * L, .inl (qr)))]) [0, 1, 2, 3, 4, 5, 6, 7, 8, 9, 15, 16, 10, 11, 12, 13, 14] (by decide) rfl
    refine lv_goto (tgt := 31) hx hb dX4_moveStack_16 (by decide) ?_
    exact kr_v (congrArg (wTR b0 b1 t0 t1 t2 t3 t4 u0 u1 u2 r0 r1 q0 q1 q2 q3 q4 cI S Wy sb L ) (show (((tg, kd, tt, lu, fl, us), (hg, hq, hh), ((rf_push L (rp, rd, ro, ru) ((p1) + 4)).1, (rf_push L (rp, rd, ro, ru) ((p1) + 4)).2.1, (rf_push L (rp, rd, ro, ru) ((p1) + 4)).2.2.1, (rf_push L (rp, rd, ro, ru) ((p1) + 4)).2.2.2), (qp, qt, qd, qr, qs, qf), an, ck, ls_) : Cs) = ((tg, kd, tt, lu, fl, us), (hg, hq, hh), cf_move L (rp, rd, ro, ru) p0 p1, (qp, qt, qd, qr, qs, qf), an, ck, ls_) from by simp only [cf_move, if_pos c_2])) hx hb hr hlocks hP hK hD hS trivial dX4_moveStack_31

set_option maxHeartbeats 4000000 in
set_option maxRecDepth 100000 in
/-- the cause of a miss -/
theorem c_X4_causeOf (l : Launch) (D : va_G) (cI cJ cZ : ClassId) (sz : Nat) (b0 b1 t0 t1 t2 t3 t4 u0 u1 u2 r0 r1 q0 q1 q2 q3 q4 : Nat) (S Wy sb L : Nat) (tg kd tt lu : Fn) (fl us : Int32) (hg hq : Fn) (hh : Int32) (rp : Fn) (rd : Nat) (ro ru : Int32) (qp qt qd qr : Fn) (qs qf : Nat) (an : Fn) (ck ls_ : Int32) (p0 p1 p2 : Int32) (hSs : S = 0 ∨ S = 2 ^ sb) (hS16 : S ≤ 16) (hsb : sb ≤ 4) (hW : 0 < Wy) (hW4 : Wy ≤ 4) (hd : rd ≤ L) (hL : L < 2 ^ 10) (hf : qf < 16) (hs : qs ≤ 16) : KI l yX4_causeOf wsX4_causeOf ({ frames := 2, cells := 0, slots := 0, locals := 45 } : Room) D (kTy cI cJ cZ) [.ref (b0), .int (p0), .int (p1), .int (p2)] [(b0, .inr (4, [.ref (t0), .ref (u0), .ref (r0), .ref (q0), .ref (b1), .int (ck), .int (ls_)])), (b1, .inl (cI, 7, .inl (an))), (t0, .inr (3, [.int (nI S), .int (nI Wy), .ref (t1), .ref (t2), .ref (t3), .int (fl), .int (nI sb), .ref (t4), .int (us)])), (t1, .inl (cI, S * Wy, .inl (tg))), (t2, .inl (cI, S * Wy, .inl (kd))), (t3, .inl (cI, S * Wy, .inl (tt))), (t4, .inl (cI, S * Wy, .inl (lu))), (u0, .inr (0, [.ref (u1), .ref (u2), .int (hh)])), (u1, .inl (cI, 64, .inl (hg))), (u2, .inl (cI, 64, .inl (hq))), (r0, .inr (2, [.int (nI L), .int (nI (rd)), .int (ro), .int (ru), .ref (r1)])), (r1, .inl (cI, L, .inl (rp))), (q0, .inr (1, [.int (nI (qs)), .int (nI (qf)), .int (nI L), .ref (q1), .ref (q2), .ref (q3), .ref (q4)])), (q1, .inl (cI, 16, .inl (qp))), (q2, .inl (cI, 16, .inl (qt))), (q3, .inl (cI, 16, .inl (qd))), (q4, .inl (cI, 16 * L, .inl (qr)))] sz (wTR b0 b1 t0 t1 t2 t3 t4 u0 u1 u2 r0 r1 q0 q1 q2 q3 q4 cI S Wy sb L ((tg, kd, tt, lu, fl, us), (hg, hq, hh), (rp, rd, ro, ru), (qp, qt, qd, qr, qs, qf), an, ck, ls_)) (cf_cause kd p1 p2 (tf_find S Wy sb (tg, kd, tt, lu, fl, us) p0)) 0 0 := by
  refine Met.ofW (cc := cX4_causeOf) (maxL := 5) (ret := (some .int)) (by decide) rfl ?_
  intro p e s m args below meth c s₁ B hml hv
  obtain ⟨rfl, hsz, hP, hK, hD0⟩ := hv
  have hx := B.exec
  have hb := B.bytes
  have hr := B.returns
  have hts := atoms_spec (ws := wsX4_causeOf) B.pre
  have hown : s.vm.findClass RX4 = some m.cls := findClass_of_methodNamed B.named
  have hlocks := B.notSynchronized
  have kf18 := hts (.fieldLink RX4 18 "TargetRows" "table" "LTargetRows$Table;") (List.mem_cons_of_mem _ kw_173)
  have kf73 := hts (.fieldLink RX4 73 "TargetRows$Table" "kinds" "[I") (List.mem_cons_of_mem _ kw_69)
  subst hsz
  have hD := hD0.self (sz := s.heap.size)
  generalize hAe : va_A [(b0, .inr (4, [.ref (t0), .ref (u0), .ref (r0), .ref (q0), .ref (b1), .int (ck), .int (ls_)])), (b1, .inl (cI, 7, .inl (an))), (t0, .inr (3, [.int (nI S), .int (nI Wy), .ref (t1), .ref (t2), .ref (t3), .int (fl), .int (nI sb), .ref (t4), .int (us)])), (t1, .inl (cI, S * Wy, .inl (tg))), (t2, .inl (cI, S * Wy, .inl (kd))), (t3, .inl (cI, S * Wy, .inl (tt))), (t4, .inl (cI, S * Wy, .inl (lu))), (u0, .inr (0, [.ref (u1), .ref (u2), .int (hh)])), (u1, .inl (cI, 64, .inl (hg))), (u2, .inl (cI, 64, .inl (hq))), (r0, .inr (2, [.int (nI L), .int (nI (rd)), .int (ro), .int (ru), .ref (r1)])), (r1, .inl (cI, L, .inl (rp))), (q0, .inr (1, [.int (nI (qs)), .int (nI (qf)), .int (nI L), .ref (q1), .ref (q2), .ref (q3), .ref (q4)])), (q1, .inl (cI, 16, .inl (qp))), (q2, .inl (cI, 16, .inl (qt))), (q3, .inl (cI, 16, .inl (qd))), (q4, .inl (cI, 16 * L, .inl (qr)))] s.heap.size = A at hD ⊢
  have hA : ∀ q : Nat, s.heap.size ≤ q → A q := fun q h => by rw [← hAe]; exact Or.inr h
  have hS : va_S A s.heap s.heap [] := va_S.rf
  have hP : va_P D vwCl [(b0, .inr (4, [.ref (t0), .ref (u0), .ref (r0), .ref (q0), .ref (b1), .int (ck), .int (ls_)])), (b1, .inl (cI, 7, .inl (an))), (t0, .inr (3, [.int (nI S), .int (nI Wy), .ref (t1), .ref (t2), .ref (t3), .int (fl), .int (nI sb), .ref (t4), .int (us)])), (t1, .inl (cI, S * Wy, .inl (tg))), (t2, .inl (cI, S * Wy, .inl (kd))), (t3, .inl (cI, S * Wy, .inl (tt))), (t4, .inl (cI, S * Wy, .inl (lu))), (u0, .inr (0, [.ref (u1), .ref (u2), .int (hh)])), (u1, .inl (cI, 64, .inl (hg))), (u2, .inl (cI, 64, .inl (hq))), (r0, .inr (2, [.int (nI L), .int (nI (rd)), .int (ro), .int (ru), .ref (r1)])), (r1, .inl (cI, L, .inl (rp))), (q0, .inr (1, [.int (nI (qs)), .int (nI (qf)), .int (nI L), .ref (q1), .ref (q2), .ref (q3), .ref (q4)])), (q1, .inl (cI, 16, .inl (qp))), (q2, .inl (cI, 16, .inl (qt))), (q3, .inl (cI, 16, .inl (qd))), (q4, .inl (cI, 16 * L, .inl (qr)))] s.heap := hP
  have hD : va_D A [(b0, .inr (4, [.ref (t0), .ref (u0), .ref (r0), .ref (q0), .ref (b1), .int (ck), .int (ls_)])), (b1, .inl (cI, 7, .inl (an))), (t0, .inr (3, [.int (nI S), .int (nI Wy), .ref (t1), .ref (t2), .ref (t3), .int (fl), .int (nI sb), .ref (t4), .int (us)])), (t1, .inl (cI, S * Wy, .inl (tg))), (t2, .inl (cI, S * Wy, .inl (kd))), (t3, .inl (cI, S * Wy, .inl (tt))), (t4, .inl (cI, S * Wy, .inl (lu))), (u0, .inr (0, [.ref (u1), .ref (u2), .int (hh)])), (u1, .inl (cI, 64, .inl (hg))), (u2, .inl (cI, 64, .inl (hq))), (r0, .inr (2, [.int (nI L), .int (nI (rd)), .int (ro), .int (ru), .ref (r1)])), (r1, .inl (cI, L, .inl (rp))), (q0, .inr (1, [.int (nI (qs)), .int (nI (qf)), .int (nI L), .ref (q1), .ref (q2), .ref (q3), .ref (q4)])), (q1, .inl (cI, 16, .inl (qp))), (q2, .inl (cI, 16, .inl (qt))), (q3, .inl (cI, 16, .inl (qd))), (q4, .inl (cI, 16 * L, .inl (qr)))] := hD
  have hl := lv_entry ([.ref (b0), .int (p0), .int (p1), .int (p2)]) (n := 5) (Nat.le_of_ble_eq_true rfl)
  rw [lg_entry_eq]
  generalize (lg_sl ([.ref (b0), .int (p0), .int (p1), .int (p2)]) ++ List.replicate (5 - (lg_sl ([.ref (b0), .int (p0), .int (p1), .int (p2)])).length) Slot.unset).toArray = ls at hl ⊢
  have hl : lv_has ls 5 [(0, .ref (b0)), (1, .int (p0)), (2, .int (p1)), (3, .int (p2))] := hl
  refine lv_aload_n hx hb dX4_causeOf_0 rfl (lv_at hl 0 rfl) ?_
  refine va_get (D := D) (ci := 4) (v := .ref (t0)) (C := RX4) (T := TX4) (N := 7) hx hb hts (fun w h => List.mem_cons_of_mem _ (hiX4 w h)) hown hK hP 0 rfl rfl 0 (by decide) kf18 (fun _ h9 => h9) rfl dX4_causeOf_1 ?_
  refine lv_iload_n hx hb dX4_causeOf_4 rfl (lv_at hl 1 rfl) ?_
  refine kc_i (wc := [(t0, .inr (3, [.int (nI S), .int (nI Wy), .ref (t1), .ref (t2), .ref (t3), .int (fl), .int (nI sb), .ref (t4), .int (us)])), (t1, .inl (cI, S * Wy, .inl (tg))), (t2, .inl (cI, S * Wy, .inl (kd))), (t3, .inl (cI, S * Wy, .inl (tt))), (t4, .inl (cI, S * Wy, .inl (lu)))]) (wr := [(b0, .inr (4, [.ref (t0), .ref (u0), .ref (r0), .ref (q0), .ref (b1), .int (ck), .int (ls_)])), (b1, .inl (cI, 7, .inl (an))), (u0, .inr (0, [.ref (u1), .ref (u2), .int (hh)])), (u1, .inl (cI, 64, .inl (hg))), (u2, .inl (cI, 64, .inl (hq))), (r0, .inr (2, [.int (nI L), .int (nI (rd)), .int (ro), .int (ru), .ref (r1)])), (r1, .inl (cI, L, .inl (rp))), (q0, .inr (1, [.int (nI (qs)), .int (nI (qf)), .int (nI L), .ref (q1), .ref (q2), .ref (q3), .ref (q4)])), (q1, .inl (cI, 16, .inl (qp))), (q2, .inl (cI, 16, .inl (qt))), (q3, .inl (cI, 16, .inl (qd))), (q4, .inl (cI, 16 * L, .inl (qr)))]) [2, 3, 4, 5, 6] [0, 1, 7, 8, 9, 10, 11, 12, 13, 14, 15, 16] rfl rfl (by decide) (by decide) hP hD hS hA (va_runV (As := [.int (p0)]) (rest := []) ⟨hx, hb, hml, hown, hts⟩ (c_X3_find l D cI cJ cZ _ _ _ _ _ _ _ _ _ _ _ _ _ _ _ _ hSs hS16 hsb hW hW4) (cwV 1 hts (kw_V kw_199 kw_200 kw_201 kw_28 kw_202) rfl rfl rfl (by decide +kernel) ⟨Nat.le_of_ble_eq_true rfl, Nat.le_of_ble_eq_true rfl⟩) ⟨kP_blind, va_recv hK (hP.sub (ws' := [(t0, .inr (3, [.int (nI S), .int (nI Wy), .ref (t1), .ref (t2), .ref (t3), .int (fl), .int (nI sb), .ref (t4), .int (us)])), (t1, .inl (cI, S * Wy, .inl (tg))), (t2, .inl (cI, S * Wy, .inl (kd))), (t3, .inl (cI, S * Wy, .inl (tt))), (t4, .inl (cI, S * Wy, .inl (lu)))]) [2, 3, 4, 5, 6] rfl) (ci := 3) (q0 := 0) rfl rfl, kP_at (hP.sub [2, 3, 4, 5, 6] rfl) hK (hD.sub [2, 3, 4, 5, 6] (by decide) rfl)⟩ rfl rfl hl.1 rfl (lv_room (Nat.le_of_ble_eq_true rfl)) dX4_causeOf_5 ⟨Nat.zero_le _, Nat.zero_le _⟩) (fun H locs hP hD hS => ?_)
  have hP := hP.sub (ws' := [(b0, .inr (4, [.ref (t0), .ref (u0), .ref (r0), .ref (q0), .ref (b1), .int (ck), .int (ls_)])), (b1, .inl (cI, 7, .inl (an))), (t0, .inr (3, [.int (nI S), .int (nI Wy), .ref (t1), .ref (t2), .ref (t3), .int (fl), .int (nI sb), .ref (t4), .int (us)])), (t1, .inl (cI, S * Wy, .inl (tg))), (t2, .inl (cI, S * Wy, .inl (kd))), (t3, .inl (cI, S * Wy, .inl (tt))), (t4, .inl (cI, S * Wy, .inl (lu))), (u0, .inr (0, [.ref (u1), .ref (u2), .int (hh)])), (u1, .inl (cI, 64, .inl (hg))), (u2, .inl (cI, 64, .inl (hq))), (r0, .inr (2, [.int (nI L), .int (nI (rd)), .int (ro), .int (ru), .ref (r1)])), (r1, .inl (cI, L, .inl (rp))), (q0, .inr (1, [.int (nI (qs)), .int (nI (qf)), .int (nI L), .ref (q1), .ref (q2), .ref (q3), .ref (q4)])), (q1, .inl (cI, 16, .inl (qp))), (q2, .inl (cI, 16, .inl (qt))), (q3, .inl (cI, 16, .inl (qd))), (q4, .inl (cI, 16 * L, .inl (qr)))]) [0, 1, 12, 13, 14, 15, 16, 2, 3, 4, 5, 6, 7, 8, 9, 10, 11] rfl
  have hD := hD.sub (ws' := [(b0, .inr (4, [.ref (t0), .ref (u0), .ref (r0), .ref (q0), .ref (b1), .int (ck), .int (ls_)])), (b1, .inl (cI, 7, .inl (an))), (t0, .inr (3, [.int (nI S), .int (nI Wy), .ref (t1), .ref (t2), .ref (t3), .int (fl), .int (nI sb), .ref (t4), .int (us)])), (t1, .inl (cI, S * Wy, .inl (tg))), (t2, .inl (cI, S * Wy, .inl (kd))), (t3, .inl (cI, S * Wy, .inl (tt))), (t4, .inl (cI, S * Wy, .inl (lu))), (u0, .inr (0, [.ref (u1), .ref (u2), .int (hh)])), (u1, .inl (cI, 64, .inl (hg))), (u2, .inl (cI, 64, .inl (hq))), (r0, .inr (2, [.int (nI L), .int (nI (rd)), .int (ro), .int (ru), .ref (r1)])), (r1, .inl (cI, L, .inl (rp))), (q0, .inr (1, [.int (nI (qs)), .int (nI (qf)), .int (nI L), .ref (q1), .ref (q2), .ref (q3), .ref (q4)])), (q1, .inl (cI, 16, .inl (qp))), (q2, .inl (cI, 16, .inl (qt))), (q3, .inl (cI, 16, .inl (qd))), (q4, .inl (cI, 16 * L, .inl (qr)))]) [0, 1, 12, 13, 14, 15, 16, 2, 3, 4, 5, 6, 7, 8, 9, 10, 11] (by decide) rfl
  rcases hf : tf_find S Wy sb (tg, kd, tt, lu, fl, us) (p0) with _ | o
  ·
    refine kt_i (y := -1) (rfl) ?_
    refine lv_istore (lv' := [(4, .int (-1)), (0, .ref (b0)), (1, .int (p0)), (2, .int (p1)), (3, .int (p2))]) hx hb dX4_causeOf_8 hl (by decide) rfl (fun ls hl => ?_)
    refine lv_iload hx hb dX4_causeOf_10 (lv_at hl 0 rfl) ?_
    refine lv_iconst (v := (-1)) hx hb dX4_causeOf_12 (by decide) ?_
    refine lv_icmp_ne (tgt := 22) hx hb dX4_causeOf_13 (by decide) (fun c_13 => absurd rfl c_13) (fun c_13 => ?_)
    refine lv_iload_n hx hb dX4_causeOf_16 rfl (lv_at hl 4 rfl) ?_
    refine lv_if_eq (tgt := 22) hx hb dX4_causeOf_17 (by decide) (fun c_17 => ?_) (fun c_17 => ?_)
    ·
      refine lv_iload hx hb dX4_causeOf_22 (lv_at hl 0 rfl) ?_
      refine lv_iconst (v := (-1)) hx hb dX4_causeOf_24 (by decide) ?_
      refine lv_icmp_eq (tgt := 44) hx hb dX4_causeOf_25 (by decide) (fun c_25 => ?_) (fun c_25 => absurd rfl c_25)
      refine lv_iload_n hx hb dX4_causeOf_44 rfl (lv_at hl 3 rfl) ?_
      refine lv_iconst (v := 2) hx hb dX4_causeOf_45 (by decide) ?_
      refine lv_icmp_ne (tgt := 51) hx hb dX4_causeOf_46 (by decide) (fun c_46 => ?_) (fun c_46 => ?_)
      ·
        refine lv_iload_n hx hb dX4_causeOf_51 rfl (lv_at hl 3 rfl) ?_
        refine lv_iconst (v := 3) hx hb dX4_causeOf_52 (by decide) ?_
        refine lv_icmp_ne (tgt := 58) hx hb dX4_causeOf_53 (by decide) (fun c_53 => ?_) (fun c_53 => ?_)
        ·
          refine lv_iload_n hx hb dX4_causeOf_58 rfl (lv_at hl 4 rfl) ?_
          refine lv_if_eq (tgt := 67) hx hb dX4_causeOf_59 (by decide) (fun c_59 => ?_) (fun c_59 => absurd c_17 c_59)
          refine lv_iconst (v := 5) hx hb dX4_causeOf_67 (by decide) ?_
          exact kr_i (rfl) hx hb hr hlocks hP hK hD hS (by simp only [cf_cause, cf_tail, if_pos c_17, if_neg c_46, if_neg c_53, if_pos c_59]) dX4_causeOf_68
        ·
          refine lv_iconst (v := 4) hx hb dX4_causeOf_56 (by decide) ?_
          exact kr_i (rfl) hx hb hr hlocks hP hK hD hS (by simp only [cf_cause, cf_tail, if_pos c_17, if_neg c_46, if_pos c_53]) dX4_causeOf_57
      ·
        refine lv_iconst (v := 3) hx hb dX4_causeOf_49 (by decide) ?_
        exact kr_i (rfl) hx hb hr hlocks hP hK hD hS (by simp only [cf_cause, cf_tail, if_pos c_17, if_pos c_46]) dX4_causeOf_50
    ·
      refine lv_iconst (v := 1) hx hb dX4_causeOf_20 (by decide) ?_
      exact kr_i (rfl) hx hb hr hlocks hP hK hD hS (by simp only [cf_cause]; rw [if_neg c_17]) dX4_causeOf_21
  ·
    have hSW := ts_SW hS16 hW4
    have ho : o < S * Wy := (tf_find_lt hf).2.1
    refine kt_i (y := nI o) (rfl) ?_
    refine lv_istore (lv' := [(4, .int (nI o)), (0, .ref (b0)), (1, .int (p0)), (2, .int (p1)), (3, .int (p2))]) hx hb dX4_causeOf_8 hl (by decide) rfl (fun ls hl => ?_)
    refine lv_iload hx hb dX4_causeOf_10 (lv_at hl 0 rfl) ?_
    refine lv_iconst (v := (-1)) hx hb dX4_causeOf_12 (by decide) ?_
    refine lv_icmp_ne (tgt := 22) hx hb dX4_causeOf_13 (by decide) (fun c_13 => ?_) (fun c_13 => absurd c_13 (nI_nm1 (by omega)))
    refine lv_iload hx hb dX4_causeOf_22 (lv_at hl 0 rfl) ?_
    refine lv_iconst (v := (-1)) hx hb dX4_causeOf_24 (by decide) ?_
    refine lv_icmp_eq (tgt := 44) hx hb dX4_causeOf_25 (by decide) (fun c_25 => absurd c_25 (nI_nm1 (by omega))) (fun c_25 => ?_)
    refine lv_aload_n hx hb dX4_causeOf_28 rfl (lv_at hl 1 rfl) ?_
    refine va_get (D := D) (ci := 4) (v := .ref (t0)) (C := RX4) (T := TX4) (N := 7) hx hb hts (fun w h => List.mem_cons_of_mem _ (hiX4 w h)) hown hK hP 0 rfl rfl 0 (by decide) kf18 (fun _ h9 => h9) rfl dX4_causeOf_29 ?_
    refine va_get (D := D) (ci := 3) (v := .ref (t2)) (C := RX3) (T := TX3) (N := 9) hx hb hts (fun w h => List.mem_cons_of_mem _ (hiX3 w h)) hown hK hP 2 rfl rfl 3 (by decide) kf73 (fun _ h9 => h9) rfl dX4_causeOf_32 ?_
    refine lv_iload hx hb dX4_causeOf_35 (lv_at hl 0 rfl) ?_
    refine ka_ild hx hb hK hP 4 0 rfl rfl (k := o) (rfl) (⟨ho, by omega⟩) dX4_causeOf_37 ?_
    refine lv_iload_n hx hb dX4_causeOf_38 rfl (lv_at hl 3 rfl) ?_
    refine lv_icmp_eq (tgt := 44) hx hb dX4_causeOf_39 (by decide) (fun c_39 => ?_) (fun c_39 => ?_)
    ·
      refine lv_iload_n hx hb dX4_causeOf_44 rfl (lv_at hl 3 rfl) ?_
      refine lv_iconst (v := 2) hx hb dX4_causeOf_45 (by decide) ?_
      refine lv_icmp_ne (tgt := 51) hx hb dX4_causeOf_46 (by decide) (fun c_46 => ?_) (fun c_46 => ?_)
      ·
        refine lv_iload_n hx hb dX4_causeOf_51 rfl (lv_at hl 3 rfl) ?_
        refine lv_iconst (v := 3) hx hb dX4_causeOf_52 (by decide) ?_
        refine lv_icmp_ne (tgt := 58) hx hb dX4_causeOf_53 (by decide) (fun c_53 => ?_) (fun c_53 => ?_)
        ·
          refine lv_iload_n hx hb dX4_causeOf_58 rfl (lv_at hl 4 rfl) ?_
          refine lv_if_eq (tgt := 67) hx hb dX4_causeOf_59 (by decide) (fun c_59 => ?_) (fun c_59 => ?_)
          ·
            refine lv_iconst (v := 5) hx hb dX4_causeOf_67 (by decide) ?_
            exact kr_i (rfl) hx hb hr hlocks hP hK hD hS (by simp only [cf_cause, cf_tail, if_pos c_39, if_neg c_46, if_neg c_53, if_pos c_59]) dX4_causeOf_68
          ·
            refine lv_bipush (v := 6) hx hb dX4_causeOf_62 (by decide) ?_
            refine lv_goto (tgt := 68) hx hb dX4_causeOf_64 (by decide) ?_
            exact kr_i (rfl) hx hb hr hlocks hP hK hD hS (by simp only [cf_cause, cf_tail, if_pos c_39, if_neg c_46, if_neg c_53, if_neg c_59]) dX4_causeOf_68
        ·
          refine lv_iconst (v := 4) hx hb dX4_causeOf_56 (by decide) ?_
          exact kr_i (rfl) hx hb hr hlocks hP hK hD hS (by simp only [cf_cause, cf_tail, if_pos c_39, if_neg c_46, if_pos c_53]) dX4_causeOf_57
      ·
        refine lv_iconst (v := 3) hx hb dX4_causeOf_49 (by decide) ?_
        exact kr_i (rfl) hx hb hr hlocks hP hK hD hS (by simp only [cf_cause, cf_tail, if_pos c_39, if_pos c_46]) dX4_causeOf_50
    ·
      refine lv_iconst (v := 2) hx hb dX4_causeOf_42 (by decide) ?_
      exact kr_i (rfl) hx hb hr hlocks hP hK hD hS (by simp only [cf_cause]; rw [if_neg c_39]) dX4_causeOf_43

set_option maxHeartbeats 4000000 in
set_option maxRecDepth 100000 in
/-- what a miss does to ring and queue -/
theorem c_X4_repair (l : Launch) (D : va_G) (cI cJ cZ : ClassId) (sz : Nat) (b0 b1 t0 t1 t2 t3 t4 u0 u1 u2 r0 r1 q0 q1 q2 q3 q4 : Nat) (S Wy sb L : Nat) (tg kd tt lu : Fn) (fl us : Int32) (hg hq : Fn) (hh : Int32) (rp : Fn) (rd : Nat) (ro ru : Int32) (qp qt qd qr : Fn) (qs qf : Nat) (an : Fn) (ck ls_ : Int32) (p0 p1 p2 : Int32) (d0 : Nat) (hd0 : qd qf = nI d0) (hdL : d0 ≤ L) (hSs : S = 0 ∨ S = 2 ^ sb) (hS16 : S ≤ 16) (hsb : sb ≤ 4) (hW : 0 < Wy) (hW4 : Wy ≤ 4) (hd : rd ≤ L) (hL : L < 2 ^ 10) (hf : qf < 16) (hs : qs ≤ 16) : KV l yX4_repair wsX4_repair ({ frames := 4, cells := 0, slots := 0, locals := 81 } : Room) D (kTy cI cJ cZ) [.ref (b0), .int (p0), .int (p1), .int (p2)] [(b0, .inr (4, [.ref (t0), .ref (u0), .ref (r0), .ref (q0), .ref (b1), .int (ck), .int (ls_)])), (b1, .inl (cI, 7, .inl (an))), (t0, .inr (3, [.int (nI S), .int (nI Wy), .ref (t1), .ref (t2), .ref (t3), .int (fl), .int (nI sb), .ref (t4), .int (us)])), (t1, .inl (cI, S * Wy, .inl (tg))), (t2, .inl (cI, S * Wy, .inl (kd))), (t3, .inl (cI, S * Wy, .inl (tt))), (t4, .inl (cI, S * Wy, .inl (lu))), (u0, .inr (0, [.ref (u1), .ref (u2), .int (hh)])), (u1, .inl (cI, 64, .inl (hg))), (u2, .inl (cI, 64, .inl (hq))), (r0, .inr (2, [.int (nI L), .int (nI (rd)), .int (ro), .int (ru), .ref (r1)])), (r1, .inl (cI, L, .inl (rp))), (q0, .inr (1, [.int (nI (qs)), .int (nI (qf)), .int (nI L), .ref (q1), .ref (q2), .ref (q3), .ref (q4)])), (q1, .inl (cI, 16, .inl (qp))), (q2, .inl (cI, 16, .inl (qt))), (q3, .inl (cI, 16, .inl (qd))), (q4, .inl (cI, 16 * L, .inl (qr)))] sz (wTR b0 b1 t0 t1 t2 t3 t4 u0 u1 u2 r0 r1 q0 q1 q2 q3 q4 cI S Wy sb L ((tg, kd, tt, lu, fl, us), (hg, hq, hh), if p2 = 0 then cf_back L (qp, qt, qd, qr, qs, qf) (rp, rd, ro, ru) d0 else cf_move L (cf_back L (qp, qt, qd, qr, qs, qf) (rp, rd, ro, ru) d0) p1 p0, qf_clear (qp, qt, qd, qr, qs, qf), an, ck, ls_ + (nI qs - 1))) 0 0 := by
  refine Met.ofW (cc := cX4_repair) (maxL := 4) (ret := none) (by decide) rfl ?_
  intro p e s m args below meth c s₁ B hml hv
  obtain ⟨rfl, hsz, hP, hK, hD0⟩ := hv
  have hx := B.exec
  have hb := B.bytes
  have hr := B.returns
  have hts := atoms_spec (ws := wsX4_repair) B.pre
  have hown : s.vm.findClass RX4 = some m.cls := findClass_of_methodNamed B.named
  have hlocks := B.notSynchronized
  have kf123 := hts (.fieldLink RX4 123 "TargetRows" "lost" "I") (List.mem_cons_of_mem _ kw_179)
  have kf36 := hts (.fieldLink RX4 36 "TargetRows" "stack" "LTargetRows$Returns;") (List.mem_cons_of_mem _ kw_175)
  have kf43 := hts (.fieldLink RX4 43 "TargetRows" "queue" "LTargetRows$Queue;") (List.mem_cons_of_mem _ kw_176)
  have kf58 := hts (.fieldLink RX4 58 "TargetRows$Queue" "size" "I") (List.mem_cons_of_mem _ kw_151)
  subst hsz
  have hD := hD0.self (sz := s.heap.size)
  generalize hAe : va_A [(b0, .inr (4, [.ref (t0), .ref (u0), .ref (r0), .ref (q0), .ref (b1), .int (ck), .int (ls_)])), (b1, .inl (cI, 7, .inl (an))), (t0, .inr (3, [.int (nI S), .int (nI Wy), .ref (t1), .ref (t2), .ref (t3), .int (fl), .int (nI sb), .ref (t4), .int (us)])), (t1, .inl (cI, S * Wy, .inl (tg))), (t2, .inl (cI, S * Wy, .inl (kd))), (t3, .inl (cI, S * Wy, .inl (tt))), (t4, .inl (cI, S * Wy, .inl (lu))), (u0, .inr (0, [.ref (u1), .ref (u2), .int (hh)])), (u1, .inl (cI, 64, .inl (hg))), (u2, .inl (cI, 64, .inl (hq))), (r0, .inr (2, [.int (nI L), .int (nI (rd)), .int (ro), .int (ru), .ref (r1)])), (r1, .inl (cI, L, .inl (rp))), (q0, .inr (1, [.int (nI (qs)), .int (nI (qf)), .int (nI L), .ref (q1), .ref (q2), .ref (q3), .ref (q4)])), (q1, .inl (cI, 16, .inl (qp))), (q2, .inl (cI, 16, .inl (qt))), (q3, .inl (cI, 16, .inl (qd))), (q4, .inl (cI, 16 * L, .inl (qr)))] s.heap.size = A at hD ⊢
  have hA : ∀ q : Nat, s.heap.size ≤ q → A q := fun q h => by rw [← hAe]; exact Or.inr h
  have hS : va_S A s.heap s.heap [] := va_S.rf
  have hP : va_P D vwCl [(b0, .inr (4, [.ref (t0), .ref (u0), .ref (r0), .ref (q0), .ref (b1), .int (ck), .int (ls_)])), (b1, .inl (cI, 7, .inl (an))), (t0, .inr (3, [.int (nI S), .int (nI Wy), .ref (t1), .ref (t2), .ref (t3), .int (fl), .int (nI sb), .ref (t4), .int (us)])), (t1, .inl (cI, S * Wy, .inl (tg))), (t2, .inl (cI, S * Wy, .inl (kd))), (t3, .inl (cI, S * Wy, .inl (tt))), (t4, .inl (cI, S * Wy, .inl (lu))), (u0, .inr (0, [.ref (u1), .ref (u2), .int (hh)])), (u1, .inl (cI, 64, .inl (hg))), (u2, .inl (cI, 64, .inl (hq))), (r0, .inr (2, [.int (nI L), .int (nI (rd)), .int (ro), .int (ru), .ref (r1)])), (r1, .inl (cI, L, .inl (rp))), (q0, .inr (1, [.int (nI (qs)), .int (nI (qf)), .int (nI L), .ref (q1), .ref (q2), .ref (q3), .ref (q4)])), (q1, .inl (cI, 16, .inl (qp))), (q2, .inl (cI, 16, .inl (qt))), (q3, .inl (cI, 16, .inl (qd))), (q4, .inl (cI, 16 * L, .inl (qr)))] s.heap := hP
  have hD : va_D A [(b0, .inr (4, [.ref (t0), .ref (u0), .ref (r0), .ref (q0), .ref (b1), .int (ck), .int (ls_)])), (b1, .inl (cI, 7, .inl (an))), (t0, .inr (3, [.int (nI S), .int (nI Wy), .ref (t1), .ref (t2), .ref (t3), .int (fl), .int (nI sb), .ref (t4), .int (us)])), (t1, .inl (cI, S * Wy, .inl (tg))), (t2, .inl (cI, S * Wy, .inl (kd))), (t3, .inl (cI, S * Wy, .inl (tt))), (t4, .inl (cI, S * Wy, .inl (lu))), (u0, .inr (0, [.ref (u1), .ref (u2), .int (hh)])), (u1, .inl (cI, 64, .inl (hg))), (u2, .inl (cI, 64, .inl (hq))), (r0, .inr (2, [.int (nI L), .int (nI (rd)), .int (ro), .int (ru), .ref (r1)])), (r1, .inl (cI, L, .inl (rp))), (q0, .inr (1, [.int (nI (qs)), .int (nI (qf)), .int (nI L), .ref (q1), .ref (q2), .ref (q3), .ref (q4)])), (q1, .inl (cI, 16, .inl (qp))), (q2, .inl (cI, 16, .inl (qt))), (q3, .inl (cI, 16, .inl (qd))), (q4, .inl (cI, 16 * L, .inl (qr)))] := hD
  have hl := lv_entry ([.ref (b0), .int (p0), .int (p1), .int (p2)]) (n := 4) (Nat.le_of_ble_eq_true rfl)
  rw [lg_entry_eq]
  generalize (lg_sl ([.ref (b0), .int (p0), .int (p1), .int (p2)]) ++ List.replicate (4 - (lg_sl ([.ref (b0), .int (p0), .int (p1), .int (p2)])).length) Slot.unset).toArray = ls at hl ⊢
  have hl : lv_has ls 4 [(0, .ref (b0)), (1, .int (p0)), (2, .int (p1)), (3, .int (p2))] := hl
  refine lv_aload_n hx hb dX4_repair_0 rfl (lv_at hl 0 rfl) ?_
  refine va_get (D := D) (ci := 4) (v := .ref (q0)) (C := RX4) (T := TX4) (N := 7) hx hb hts (fun w h => List.mem_cons_of_mem _ (hiX4 w h)) hown hK hP 0 rfl rfl 3 (by decide) kf43 (fun _ h9 => h9) rfl dX4_repair_1 ?_
  refine lv_aload_n hx hb dX4_repair_4 rfl (lv_at hl 0 rfl) ?_
  refine va_get (D := D) (ci := 4) (v := .ref (r0)) (C := RX4) (T := TX4) (N := 7) hx hb hts (fun w h => List.mem_cons_of_mem _ (hiX4 w h)) hown hK hP 0 rfl rfl 2 (by decide) kf36 (fun _ h9 => h9) rfl dX4_repair_5 ?_
  refine kc_v (wc := [(q0, .inr (1, [.int (nI (qs)), .int (nI (qf)), .int (nI L), .ref (q1), .ref (q2), .ref (q3), .ref (q4)])), (q1, .inl (cI, 16, .inl (qp))), (q2, .inl (cI, 16, .inl (qt))), (q3, .inl (cI, 16, .inl (qd))), (q4, .inl (cI, 16 * L, .inl (qr))), (r0, .inr (2, [.int (nI L), .int (nI (rd)), .int (ro), .int (ru), .ref (r1)])), (r1, .inl (cI, L, .inl (rp)))]) (wr := [(b0, .inr (4, [.ref (t0), .ref (u0), .ref (r0), .ref (q0), .ref (b1), .int (ck), .int (ls_)])), (b1, .inl (cI, 7, .inl (an))), (t0, .inr (3, [.int (nI S), .int (nI Wy), .ref (t1), .ref (t2), .ref (t3), .int (fl), .int (nI sb), .ref (t4), .int (us)])), (t1, .inl (cI, S * Wy, .inl (tg))), (t2, .inl (cI, S * Wy, .inl (kd))), (t3, .inl (cI, S * Wy, .inl (tt))), (t4, .inl (cI, S * Wy, .inl (lu))), (u0, .inr (0, [.ref (u1), .ref (u2), .int (hh)])), (u1, .inl (cI, 64, .inl (hg))), (u2, .inl (cI, 64, .inl (hq)))]) [12, 13, 14, 15, 16, 10, 11] [0, 1, 2, 3, 4, 5, 6, 7, 8, 9] rfl rfl (by decide) (by decide) hP hD hS hA (va_runV (As := [.ref (r0)]) (rest := []) ⟨hx, hb, hml, hown, hts⟩ (c_X1_giveBack l D cI cJ cZ _ _ _ _ _ _ _ _ _ _ _ _ _ _ _ _ _ _ _ d0 hd0 hdL hf hL) (cwV 1 hts (kw_V kw_241 kw_242 kw_243 kw_32 kw_244) rfl rfl rfl (by decide +kernel) ⟨Nat.le_of_ble_eq_true rfl, Nat.le_of_ble_eq_true rfl⟩) ⟨kP_blind, va_recv hK (hP.sub (ws' := [(q0, .inr (1, [.int (nI (qs)), .int (nI (qf)), .int (nI L), .ref (q1), .ref (q2), .ref (q3), .ref (q4)])), (q1, .inl (cI, 16, .inl (qp))), (q2, .inl (cI, 16, .inl (qt))), (q3, .inl (cI, 16, .inl (qd))), (q4, .inl (cI, 16 * L, .inl (qr))), (r0, .inr (2, [.int (nI L), .int (nI (rd)), .int (ro), .int (ru), .ref (r1)])), (r1, .inl (cI, L, .inl (rp)))]) [12, 13, 14, 15, 16, 10, 11] rfl) (ci := 1) (q0 := 0) rfl rfl, kP_at (hP.sub [12, 13, 14, 15, 16, 10, 11] rfl) hK (hD.sub [12, 13, 14, 15, 16, 10, 11] (by decide) rfl)⟩ rfl rfl hl.1 rfl (lv_room (Nat.le_of_ble_eq_true rfl)) dX4_repair_8 ⟨Nat.zero_le _, Nat.zero_le _⟩) (fun H locs hP hD hS => ?_)
  have hP := hP.sub (ws' := [(b0, .inr (4, [.ref (t0), .ref (u0), .ref (r0), .ref (q0), .ref (b1), .int (ck), .int (ls_)])), (b1, .inl (cI, 7, .inl (an))), (t0, .inr (3, [.int (nI S), .int (nI Wy), .ref (t1), .ref (t2), .ref (t3), .int (fl), .int (nI sb), .ref (t4), .int (us)])), (t1, .inl (cI, S * Wy, .inl (tg))), (t2, .inl (cI, S * Wy, .inl (kd))), (t3, .inl (cI, S * Wy, .inl (tt))), (t4, .inl (cI, S * Wy, .inl (lu))), (u0, .inr (0, [.ref (u1), .ref (u2), .int (hh)])), (u1, .inl (cI, 64, .inl (hg))), (u2, .inl (cI, 64, .inl (hq))), (r0, .inr (2, [.int (nI L), .int (nI (d0)), .int (ro), .int (ru), .ref (r1)])), (r1, .inl (cI, L, .inl (va_cpy (qr) (rp) (qf * L) 0 (d0)))), (q0, .inr (1, [.int (nI (qs)), .int (nI (qf)), .int (nI L), .ref (q1), .ref (q2), .ref (q3), .ref (q4)])), (q1, .inl (cI, 16, .inl (qp))), (q2, .inl (cI, 16, .inl (qt))), (q3, .inl (cI, 16, .inl (qd))), (q4, .inl (cI, 16 * L, .inl (qr)))]) [0, 1, 2, 3, 4, 5, 6, 7, 8, 9, 15, 16, 10, 11, 12, 13, 14] rfl
  have hD := hD.sub (ws' := [(b0, .inr (4, [.ref (t0), .ref (u0), .ref (r0), .ref (q0), .ref (b1), .int (ck), .int (ls_)])), (b1, .inl (cI, 7, .inl (an))), (t0, .inr (3, [.int (nI S), .int (nI Wy), .ref (t1), .ref (t2), .ref (t3), .int (fl), .int (nI sb), .ref (t4), .int (us)])), (t1, .inl (cI, S * Wy, .inl (tg))), (t2, .inl (cI, S * Wy, .inl (kd))), (t3, .inl (cI, S * Wy, .inl (tt))), (t4, .inl (cI, S * Wy, .inl (lu))), (u0, .inr (0, [.ref (u1), .ref (u2), .int (hh)])), (u1, .inl (cI, 64, .inl (hg))), (u2, .inl (cI, 64, .inl (hq))), (r0, .inr (2, [.int (nI L), .int (nI (d0)), .int (ro), .int (ru), .ref (r1)])), (r1, .inl (cI, L, .inl (va_cpy (qr) (rp) (qf * L) 0 (d0)))), (q0, .inr (1, [.int (nI (qs)), .int (nI (qf)), .int (nI L), .ref (q1), .ref (q2), .ref (q3), .ref (q4)])), (q1, .inl (cI, 16, .inl (qp))), (q2, .inl (cI, 16, .inl (qt))), (q3, .inl (cI, 16, .inl (qd))), (q4, .inl (cI, 16 * L, .inl (qr)))]) [0, 1, 2, 3, 4, 5, 6, 7, 8, 9, 15, 16, 10, 11, 12, 13, 14] (by decide) rfl
  refine lv_aload_n hx hb dX4_repair_11 rfl (lv_at hl 0 rfl) ?_
  refine lv_dup hx hb dX4_repair_12 rfl ?_
  refine va_get (D := D) (ci := 4) (v := .int (ls_)) (C := RX4) (T := TX4) (N := 7) hx hb hts (fun w h => List.mem_cons_of_mem _ (hiX4 w h)) hown hK hP 0 rfl rfl 6 (by decide) kf123 (fun _ h9 => h9) rfl dX4_repair_13 ?_
  refine lv_aload_n hx hb dX4_repair_16 rfl (lv_at hl 0 rfl) ?_
  refine va_get (D := D) (ci := 4) (v := .ref (q0)) (C := RX4) (T := TX4) (N := 7) hx hb hts (fun w h => List.mem_cons_of_mem _ (hiX4 w h)) hown hK hP 0 rfl rfl 3 (by decide) kf43 (fun _ h9 => h9) rfl dX4_repair_17 ?_
  refine va_get (D := D) (ci := 1) (v := .int (nI (qs))) (C := RX1) (T := TX1) (N := 7) hx hb hts (fun w h => List.mem_cons_of_mem _ (hiX1 w h)) hown hK hP 12 rfl rfl 0 (by decide) kf58 (fun _ h9 => h9) rfl dX4_repair_20 ?_
  refine lv_iconst (v := 1) hx hb dX4_repair_23 (by decide) ?_
  refine lv_isub hx hb dX4_repair_24 ?_
  refine lv_iadd hx hb dX4_repair_25 ?_
  refine va_put (D := D) (ci := 4) (v := .int ((ls_) + ((nI (qs)) - (1)))) (ty := .int) (C := RX4) (T := TX4) (N := 7) hx hb hts (fun w h => List.mem_cons_of_mem _ (hiX4 w h)) tyX4 tyX4_ok nmX4 hown hK hP hD hS 0 rfl rfl 6 (by decide) kf123 (fun _ h9 => h9) rfl (by decide +kernel) rfl rfl (Nat.le_of_ble_eq_true rfl) dX4_repair_26 (fun H locs hP hD hS => ?_)
  have hP : va_P D vwCl [(b0, .inr (4, [.ref (t0), .ref (u0), .ref (r0), .ref (q0), .ref (b1), .int (ck), .int ((ls_) + ((nI (qs)) - (1)))])), (b1, .inl (cI, 7, .inl (an))), (t0, .inr (3, [.int (nI S), .int (nI Wy), .ref (t1), .ref (t2), .ref (t3), .int (fl), .int (nI sb), .ref (t4), .int (us)])), (t1, .inl (cI, S * Wy, .inl (tg))), (t2, .inl (cI, S * Wy, .inl (kd))), (t3, .inl (cI, S * Wy, .inl (tt))), (t4, .inl (cI, S * Wy, .inl (lu))), (u0, .inr (0, [.ref (u1), .ref (u2), .int (hh)])), (u1, .inl (cI, 64, .inl (hg))), (u2, .inl (cI, 64, .inl (hq))), (r0, .inr (2, [.int (nI L), .int (nI (d0)), .int (ro), .int (ru), .ref (r1)])), (r1, .inl (cI, L, .inl (va_cpy (qr) (rp) (qf * L) 0 (d0)))), (q0, .inr (1, [.int (nI (qs)), .int (nI (qf)), .int (nI L), .ref (q1), .ref (q2), .ref (q3), .ref (q4)])), (q1, .inl (cI, 16, .inl (qp))), (q2, .inl (cI, 16, .inl (qt))), (q3, .inl (cI, 16, .inl (qd))), (q4, .inl (cI, 16 * L, .inl (qr)))] H := hP
  have hD : va_D A [(b0, .inr (4, [.ref (t0), .ref (u0), .ref (r0), .ref (q0), .ref (b1), .int (ck), .int ((ls_) + ((nI (qs)) - (1)))])), (b1, .inl (cI, 7, .inl (an))), (t0, .inr (3, [.int (nI S), .int (nI Wy), .ref (t1), .ref (t2), .ref (t3), .int (fl), .int (nI sb), .ref (t4), .int (us)])), (t1, .inl (cI, S * Wy, .inl (tg))), (t2, .inl (cI, S * Wy, .inl (kd))), (t3, .inl (cI, S * Wy, .inl (tt))), (t4, .inl (cI, S * Wy, .inl (lu))), (u0, .inr (0, [.ref (u1), .ref (u2), .int (hh)])), (u1, .inl (cI, 64, .inl (hg))), (u2, .inl (cI, 64, .inl (hq))), (r0, .inr (2, [.int (nI L), .int (nI (d0)), .int (ro), .int (ru), .ref (r1)])), (r1, .inl (cI, L, .inl (va_cpy (qr) (rp) (qf * L) 0 (d0)))), (q0, .inr (1, [.int (nI (qs)), .int (nI (qf)), .int (nI L), .ref (q1), .ref (q2), .ref (q3), .ref (q4)])), (q1, .inl (cI, 16, .inl (qp))), (q2, .inl (cI, 16, .inl (qt))), (q3, .inl (cI, 16, .inl (qd))), (q4, .inl (cI, 16 * L, .inl (qr)))] := hD
  refine lv_aload_n hx hb dX4_repair_29 rfl (lv_at hl 0 rfl) ?_
  refine va_get (D := D) (ci := 4) (v := .ref (q0)) (C := RX4) (T := TX4) (N := 7) hx hb hts (fun w h => List.mem_cons_of_mem _ (hiX4 w h)) hown hK hP 0 rfl rfl 3 (by decide) kf43 (fun _ h9 => h9) rfl dX4_repair_30 ?_
  refine kc_v (wc := [(q0, .inr (1, [.int (nI (qs)), .int (nI (qf)), .int (nI L), .ref (q1), .ref (q2), .ref (q3), .ref (q4)])), (q1, .inl (cI, 16, .inl (qp))), (q2, .inl (cI, 16, .inl (qt))), (q3, .inl (cI, 16, .inl (qd))), (q4, .inl (cI, 16 * L, .inl (qr)))]) (wr := [(b0, .inr (4, [.ref (t0), .ref (u0), .ref (r0), .ref (q0), .ref (b1), .int (ck), .int ((ls_) + ((nI (qs)) - (1)))])), (b1, .inl (cI, 7, .inl (an))), (t0, .inr (3, [.int (nI S), .int (nI Wy), .ref (t1), .ref (t2), .ref (t3), .int (fl), .int (nI sb), .ref (t4), .int (us)])), (t1, .inl (cI, S * Wy, .inl (tg))), (t2, .inl (cI, S * Wy, .inl (kd))), (t3, .inl (cI, S * Wy, .inl (tt))), (t4, .inl (cI, S * Wy, .inl (lu))), (u0, .inr (0, [.ref (u1), .ref (u2), .int (hh)])), (u1, .inl (cI, 64, .inl (hg))), (u2, .inl (cI, 64, .inl (hq))), (r0, .inr (2, [.int (nI L), .int (nI (d0)), .int (ro), .int (ru), .ref (r1)])), (r1, .inl (cI, L, .inl (va_cpy (qr) (rp) (qf * L) 0 (d0))))]) [12, 13, 14, 15, 16] [0, 1, 2, 3, 4, 5, 6, 7, 8, 9, 10, 11] rfl rfl (by decide) (by decide) hP hD hS hA (va_runV (As := []) (rest := []) ⟨hx, hb, hml, hown, hts⟩ (c_X1_clear l D cI cJ cZ _ _ _ _ _ _ _ _ _ _ _ _ _) (cwV 0 hts (kw_V kw_252 kw_253 kw_254 kw_32 kw_255) rfl rfl rfl (by decide +kernel) ⟨Nat.le_of_ble_eq_true rfl, Nat.le_of_ble_eq_true rfl⟩) ⟨kP_blind, va_recv hK (hP.sub (ws' := [(q0, .inr (1, [.int (nI (qs)), .int (nI (qf)), .int (nI L), .ref (q1), .ref (q2), .ref (q3), .ref (q4)])), (q1, .inl (cI, 16, .inl (qp))), (q2, .inl (cI, 16, .inl (qt))), (q3, .inl (cI, 16, .inl (qd))), (q4, .inl (cI, 16 * L, .inl (qr)))]) [12, 13, 14, 15, 16] rfl) (ci := 1) (q0 := 0) rfl rfl, kP_at (hP.sub [12, 13, 14, 15, 16] rfl) hK (hD.sub [12, 13, 14, 15, 16] (by decide) rfl)⟩ rfl rfl hl.1 rfl (lv_room (Nat.le_of_ble_eq_true rfl)) dX4_repair_33 ⟨Nat.zero_le _, Nat.zero_le _⟩) (fun H locs hP hD hS => ?_)
  have hP := hP.sub (ws' := [(b0, .inr (4, [.ref (t0), .ref (u0), .ref (r0), .ref (q0), .ref (b1), .int (ck), .int ((ls_) + ((nI (qs)) - (1)))])), (b1, .inl (cI, 7, .inl (an))), (t0, .inr (3, [.int (nI S), .int (nI Wy), .ref (t1), .ref (t2), .ref (t3), .int (fl), .int (nI sb), .ref (t4), .int (us)])), (t1, .inl (cI, S * Wy, .inl (tg))), (t2, .inl (cI, S * Wy, .inl (kd))), (t3, .inl (cI, S * Wy, .inl (tt))), (t4, .inl (cI, S * Wy, .inl (lu))), (u0, .inr (0, [.ref (u1), .ref (u2), .int (hh)])), (u1, .inl (cI, 64, .inl (hg))), (u2, .inl (cI, 64, .inl (hq))), (r0, .inr (2, [.int (nI L), .int (nI (d0)), .int (ro), .int (ru), .ref (r1)])), (r1, .inl (cI, L, .inl (va_cpy (qr) (rp) (qf * L) 0 (d0)))), (q0, .inr (1, [.int (nI ((qf_clear (qp, qt, qd, qr, qs, qf)).2.2.2.2.1)), .int (nI ((qf_clear (qp, qt, qd, qr, qs, qf)).2.2.2.2.2)), .int (nI L), .ref (q1), .ref (q2), .ref (q3), .ref (q4)])), (q1, .inl (cI, 16, .inl ((qf_clear (qp, qt, qd, qr, qs, qf)).1))), (q2, .inl (cI, 16, .inl ((qf_clear (qp, qt, qd, qr, qs, qf)).2.1))), (q3, .inl (cI, 16, .inl ((qf_clear (qp, qt, qd, qr, qs, qf)).2.2.1))), (q4, .inl (cI, 16 * L, .inl ((qf_clear (qp, qt, qd, qr, qs, qf)).2.2.2.1)))]) [0, 1, 2, 3, 4, 5, 6, 7, 8, 9, 10, 11, 12, 13, 14, 15, 16] rfl
  have hD := hD.sub (ws' := [(b0, .inr (4, [.ref (t0), .ref (u0), .ref (r0), .ref (q0), .ref (b1), .int (ck), .int ((ls_) + ((nI (qs)) - (1)))])), (b1, .inl (cI, 7, .inl (an))), (t0, .inr (3, [.int (nI S), .int (nI Wy), .ref (t1), .ref (t2), .ref (t3), .int (fl), .int (nI sb), .ref (t4), .int (us)])), (t1, .inl (cI, S * Wy, .inl (tg))), (t2, .inl (cI, S * Wy, .inl (kd))), (t3, .inl (cI, S * Wy, .inl (tt))), (t4, .inl (cI, S * Wy, .inl (lu))), (u0, .inr (0, [.ref (u1), .ref (u2), .int (hh)])), (u1, .inl (cI, 64, .inl (hg))), (u2, .inl (cI, 64, .inl (hq))), (r0, .inr (2, [.int (nI L), .int (nI (d0)), .int (ro), .int (ru), .ref (r1)])), (r1, .inl (cI, L, .inl (va_cpy (qr) (rp) (qf * L) 0 (d0)))), (q0, .inr (1, [.int (nI ((qf_clear (qp, qt, qd, qr, qs, qf)).2.2.2.2.1)), .int (nI ((qf_clear (qp, qt, qd, qr, qs, qf)).2.2.2.2.2)), .int (nI L), .ref (q1), .ref (q2), .ref (q3), .ref (q4)])), (q1, .inl (cI, 16, .inl ((qf_clear (qp, qt, qd, qr, qs, qf)).1))), (q2, .inl (cI, 16, .inl ((qf_clear (qp, qt, qd, qr, qs, qf)).2.1))), (q3, .inl (cI, 16, .inl ((qf_clear (qp, qt, qd, qr, qs, qf)).2.2.1))), (q4, .inl (cI, 16 * L, .inl ((qf_clear (qp, qt, qd, qr, qs, qf)).2.2.2.1)))]) [0, 1, 2, 3, 4, 5, 6, 7, 8, 9, 10, 11, 12, 13, 14, 15, 16] (by decide) rfl
  refine lv_iload_n hx hb dX4_repair_36 rfl (lv_at hl 3 rfl) ?_
  refine lv_if_eq (tgt := 46) hx hb dX4_repair_37 (by decide) (fun c_37 => ?_) (fun c_37 => ?_)
  ·
    exact kr_v (congrArg (wTR b0 b1 t0 t1 t2 t3 t4 u0 u1 u2 r0 r1 q0 q1 q2 q3 q4 cI S Wy sb L ) (show (((tg, kd, tt, lu, fl, us), (hg, hq, hh), (va_cpy (qr) (rp) (qf * L) 0 (d0), d0, ro, ru), ((qf_clear (qp, qt, qd, qr, qs, qf)).1, (qf_clear (qp, qt, qd, qr, qs, qf)).2.1, (qf_clear (qp, qt, qd, qr, qs, qf)).2.2.1, (qf_clear (qp, qt, qd, qr, qs, qf)).2.2.2.1, (qf_clear (qp, qt, qd, qr, qs, qf)).2.2.2.2.1, (qf_clear (qp, qt, qd, qr, qs, qf)).2.2.2.2.2), an, ck, (ls_) + ((nI (qs)) - (1))) : Cs) = ((tg, kd, tt, lu, fl, us), (hg, hq, hh), if p2 = 0 then cf_back L (qp, qt, qd, qr, qs, qf) (rp, rd, ro, ru) d0 else cf_move L (cf_back L (qp, qt, qd, qr, qs, qf) (rp, rd, ro, ru) d0) p1 p0, qf_clear (qp, qt, qd, qr, qs, qf), an, ck, ls_ + (nI qs - 1)) from by simp only [cf_back, qf_clear, if_pos c_37])) hx hb hr hlocks hP hK hD hS trivial dX4_repair_46
  ·
    refine lv_aload_n hx hb dX4_repair_40 rfl (lv_at hl 0 rfl) ?_
    refine lv_iload_n hx hb dX4_repair_41 rfl (lv_at hl 2 rfl) ?_
    refine lv_iload_n hx hb dX4_repair_42 rfl (lv_at hl 1 rfl) ?_
    refine kc_v (wc := [(b0, .inr (4, [.ref (t0), .ref (u0), .ref (r0), .ref (q0), .ref (b1), .int (ck), .int ((ls_) + ((nI (qs)) - (1)))])), (b1, .inl (cI, 7, .inl (an))), (t0, .inr (3, [.int (nI S), .int (nI Wy), .ref (t1), .ref (t2), .ref (t3), .int (fl), .int (nI sb), .ref (t4), .int (us)])), (t1, .inl (cI, S * Wy, .inl (tg))), (t2, .inl (cI, S * Wy, .inl (kd))), (t3, .inl (cI, S * Wy, .inl (tt))), (t4, .inl (cI, S * Wy, .inl (lu))), (u0, .inr (0, [.ref (u1), .ref (u2), .int (hh)])), (u1, .inl (cI, 64, .inl (hg))), (u2, .inl (cI, 64, .inl (hq))), (r0, .inr (2, [.int (nI L), .int (nI (d0)), .int (ro), .int (ru), .ref (r1)])), (r1, .inl (cI, L, .inl (va_cpy (qr) (rp) (qf * L) 0 (d0)))), (q0, .inr (1, [.int (nI ((qf_clear (qp, qt, qd, qr, qs, qf)).2.2.2.2.1)), .int (nI ((qf_clear (qp, qt, qd, qr, qs, qf)).2.2.2.2.2)), .int (nI L), .ref (q1), .ref (q2), .ref (q3), .ref (q4)])), (q1, .inl (cI, 16, .inl ((qf_clear (qp, qt, qd, qr, qs, qf)).1))), (q2, .inl (cI, 16, .inl ((qf_clear (qp, qt, qd, qr, qs, qf)).2.1))), (q3, .inl (cI, 16, .inl ((qf_clear (qp, qt, qd, qr, qs, qf)).2.2.1))), (q4, .inl (cI, 16 * L, .inl ((qf_clear (qp, qt, qd, qr, qs, qf)).2.2.2.1)))]) (wr := []) [0, 1, 2, 3, 4, 5, 6, 7, 8, 9, 10, 11, 12, 13, 14, 15, 16] [] rfl rfl (by decide) (by decide) hP hD hS hA (va_runV (As := [.int (p1), .int (p0)]) (rest := []) ⟨hx, hb, hml, hown, hts⟩ (c_X4_moveStack l D cI cJ cZ _ _ _ _ _ _ _ _ _ _ _ _ _ _ _ _ _ _ _ _ _ _ _ _ _ _ _ _ _ _ _ _ _ _ _ _ _ _ _ _ _ _ _ _ _ _ hSs hS16 hsb hW hW4 hdL hL hf (Nat.zero_le _)) (cwV 2 hts (kw_V kw_356 kw_358 kw_6 kw_26 kw_359) rfl rfl rfl (by decide +kernel) ⟨Nat.le_of_ble_eq_true rfl, Nat.le_of_ble_eq_true rfl⟩) ⟨kP_blind, va_recv hK (hP.sub (ws' := [(b0, .inr (4, [.ref (t0), .ref (u0), .ref (r0), .ref (q0), .ref (b1), .int (ck), .int ((ls_) + ((nI (qs)) - (1)))])), (b1, .inl (cI, 7, .inl (an))), (t0, .inr (3, [.int (nI S), .int (nI Wy), .ref (t1), .ref (t2), .ref (t3), .int (fl), .int (nI sb), .ref (t4), .int (us)])), (t1, .inl (cI, S * Wy, .inl (tg))), (t2, .inl (cI, S * Wy, .inl (kd))), (t3, .inl (cI, S * Wy, .inl (tt))), (t4, .inl (cI, S * Wy, .inl (lu))), (u0, .inr (0, [.ref (u1), .ref (u2), .int (hh)])), (u1, .inl (cI, 64, .inl (hg))), (u2, .inl (cI, 64, .inl (hq))), (r0, .inr (2, [.int (nI L), .int (nI (d0)), .int (ro), .int (ru), .ref (r1)])), (r1, .inl (cI, L, .inl (va_cpy (qr) (rp) (qf * L) 0 (d0)))), (q0, .inr (1, [.int (nI ((qf_clear (qp, qt, qd, qr, qs, qf)).2.2.2.2.1)), .int (nI ((qf_clear (qp, qt, qd, qr, qs, qf)).2.2.2.2.2)), .int (nI L), .ref (q1), .ref (q2), .ref (q3), .ref (q4)])), (q1, .inl (cI, 16, .inl ((qf_clear (qp, qt, qd, qr, qs, qf)).1))), (q2, .inl (cI, 16, .inl ((qf_clear (qp, qt, qd, qr, qs, qf)).2.1))), (q3, .inl (cI, 16, .inl ((qf_clear (qp, qt, qd, qr, qs, qf)).2.2.1))), (q4, .inl (cI, 16 * L, .inl ((qf_clear (qp, qt, qd, qr, qs, qf)).2.2.2.1)))]) [0, 1, 2, 3, 4, 5, 6, 7, 8, 9, 10, 11, 12, 13, 14, 15, 16] rfl) (ci := 4) (q0 := 0) rfl rfl, kP_at (hP.sub [0, 1, 2, 3, 4, 5, 6, 7, 8, 9, 10, 11, 12, 13, 14, 15, 16] rfl) hK (hD.sub [0, 1, 2, 3, 4, 5, 6, 7, 8, 9, 10, 11, 12, 13, 14, 15, 16] (by decide) rfl)⟩ rfl rfl hl.1 rfl (lv_room (Nat.le_of_ble_eq_true rfl)) dX4_repair_43 ⟨Nat.zero_le _, Nat.zero_le _⟩) (fun H locs hP hD hS => ?_)
    have hP := hP.sub (ws' := [(b0, .inr (4, [.ref (t0), .ref (u0), .ref (r0), .ref (q0), .ref (b1), .int (ck), .int ((ls_) + ((nI (qs)) - (1)))])), (b1, .inl (cI, 7, .inl (an))), (t0, .inr (3, [.int (nI S), .int (nI Wy), .ref (t1), .ref (t2), .ref (t3), .int (fl), .int (nI sb), .ref (t4), .int (us)])), (t1, .inl (cI, S * Wy, .inl (tg))), (t2, .inl (cI, S * Wy, .inl (kd))), (t3, .inl (cI, S * Wy, .inl (tt))), (t4, .inl (cI, S * Wy, .inl (lu))), (u0, .inr (0, [.ref (u1), .ref (u2), .int (hh)])), (u1, .inl (cI, 64, .inl (hg))), (u2, .inl (cI, 64, .inl (hq))), (r0, .inr (2, [.int (nI L), .int (nI ((cf_move L (va_cpy (qr) (rp) (qf * L) 0 (d0), d0, ro, ru) (p1) (p0)).2.1)), .int ((cf_move L (va_cpy (qr) (rp) (qf * L) 0 (d0), d0, ro, ru) (p1) (p0)).2.2.1), .int ((cf_move L (va_cpy (qr) (rp) (qf * L) 0 (d0), d0, ro, ru) (p1) (p0)).2.2.2), .ref (r1)])), (r1, .inl (cI, L, .inl ((cf_move L (va_cpy (qr) (rp) (qf * L) 0 (d0), d0, ro, ru) (p1) (p0)).1))), (q0, .inr (1, [.int (nI ((qf_clear (qp, qt, qd, qr, qs, qf)).2.2.2.2.1)), .int (nI ((qf_clear (qp, qt, qd, qr, qs, qf)).2.2.2.2.2)), .int (nI L), .ref (q1), .ref (q2), .ref (q3), .ref (q4)])), (q1, .inl (cI, 16, .inl ((qf_clear (qp, qt, qd, qr, qs, qf)).1))), (q2, .inl (cI, 16, .inl ((qf_clear (qp, qt, qd, qr, qs, qf)).2.1))), (q3, .inl (cI, 16, .inl ((qf_clear (qp, qt, qd, qr, qs, qf)).2.2.1))), (q4, .inl (cI, 16 * L, .inl ((qf_clear (qp, qt, qd, qr, qs, qf)).2.2.2.1)))]) [0, 1, 2, 3, 4, 5, 6, 7, 8, 9, 10, 11, 12, 13, 14, 15, 16] rfl
    have hD := hD.sub (ws' := [(b0, .inr (4, [.ref (t0), .ref (u0), .ref (r0), .ref (q0), .ref (b1), .int (ck), .int ((ls_) + ((nI (qs)) - (1)))])), (b1, .inl (cI, 7, .inl (an))), (t0, .inr (3, [.int (nI S), .int (nI Wy), .ref (t1), .ref (t2), .ref (t3), .int (fl), .int (nI sb), .ref (t4), .int (us)])), (t1, .inl (cI, S * Wy, .inl (tg))), (t2, .inl (cI, S * Wy, .inl (kd))), (t3, .inl (cI, S * Wy, .inl (tt))), (t4, .inl (cI, S * Wy, .inl (lu))), (u0, .inr (0, [.ref (u1), .ref (u2), .int (hh)])), (u1, .inl (cI, 64, .inl (hg))), (u2, .inl (cI, 64, .inl (hq))), (r0, .inr (2, [.int (nI L), .int (nI ((cf_move L (va_cpy (qr) (rp) (qf * L) 0 (d0), d0, ro, ru) (p1) (p0)).2.1)), .int ((cf_move L (va_cpy (qr) (rp) (qf * L) 0 (d0), d0, ro, ru) (p1) (p0)).2.2.1), .int ((cf_move L (va_cpy (qr) (rp) (qf * L) 0 (d0), d0, ro, ru) (p1) (p0)).2.2.2), .ref (r1)])), (r1, .inl (cI, L, .inl ((cf_move L (va_cpy (qr) (rp) (qf * L) 0 (d0), d0, ro, ru) (p1) (p0)).1))), (q0, .inr (1, [.int (nI ((qf_clear (qp, qt, qd, qr, qs, qf)).2.2.2.2.1)), .int (nI ((qf_clear (qp, qt, qd, qr, qs, qf)).2.2.2.2.2)), .int (nI L), .ref (q1), .ref (q2), .ref (q3), .ref (q4)])), (q1, .inl (cI, 16, .inl ((qf_clear (qp, qt, qd, qr, qs, qf)).1))), (q2, .inl (cI, 16, .inl ((qf_clear (qp, qt, qd, qr, qs, qf)).2.1))), (q3, .inl (cI, 16, .inl ((qf_clear (qp, qt, qd, qr, qs, qf)).2.2.1))), (q4, .inl (cI, 16 * L, .inl ((qf_clear (qp, qt, qd, qr, qs, qf)).2.2.2.1)))]) [0, 1, 2, 3, 4, 5, 6, 7, 8, 9, 10, 11, 12, 13, 14, 15, 16] (by decide) rfl
    exact kr_v (congrArg (wTR b0 b1 t0 t1 t2 t3 t4 u0 u1 u2 r0 r1 q0 q1 q2 q3 q4 cI S Wy sb L ) (show (((tg, kd, tt, lu, fl, us), (hg, hq, hh), ((cf_move L (va_cpy (qr) (rp) (qf * L) 0 (d0), d0, ro, ru) (p1) (p0)).1, (cf_move L (va_cpy (qr) (rp) (qf * L) 0 (d0), d0, ro, ru) (p1) (p0)).2.1, (cf_move L (va_cpy (qr) (rp) (qf * L) 0 (d0), d0, ro, ru) (p1) (p0)).2.2.1, (cf_move L (va_cpy (qr) (rp) (qf * L) 0 (d0), d0, ro, ru) (p1) (p0)).2.2.2), ((qf_clear (qp, qt, qd, qr, qs, qf)).1, (qf_clear (qp, qt, qd, qr, qs, qf)).2.1, (qf_clear (qp, qt, qd, qr, qs, qf)).2.2.1, (qf_clear (qp, qt, qd, qr, qs, qf)).2.2.2.1, (qf_clear (qp, qt, qd, qr, qs, qf)).2.2.2.2.1, (qf_clear (qp, qt, qd, qr, qs, qf)).2.2.2.2.2), an, ck, (ls_) + ((nI (qs)) - (1))) : Cs) = ((tg, kd, tt, lu, fl, us), (hg, hq, hh), if p2 = 0 then cf_back L (qp, qt, qd, qr, qs, qf) (rp, rd, ro, ru) d0 else cf_move L (cf_back L (qp, qt, qd, qr, qs, qf) (rp, rd, ro, ru) d0) p1 p0, qf_clear (qp, qt, qd, qr, qs, qf), an, ck, ls_ + (nI qs - 1)) from by simp only [cf_back, qf_clear, if_neg c_37])) hx hb hr hlocks hP hK hD hS trivial dX4_repair_46

set_option maxHeartbeats 4000000 in
set_option maxRecDepth 100000 in
/-- what a taken branch writes -/
theorem c_X4_update (l : Launch) (D : va_G) (cI cJ cZ : ClassId) (sz : Nat) (b0 b1 t0 t1 t2 t3 t4 u0 u1 u2 r0 r1 q0 q1 q2 q3 q4 : Nat) (S Wy sb L : Nat) (tg kd tt lu : Fn) (fl us : Int32) (hg hq : Fn) (hh : Int32) (rp : Fn) (rd : Nat) (ro ru : Int32) (qp qt qd qr : Fn) (qs qf : Nat) (an : Fn) (ck ls_ : Int32) (p0 p1 p2 : Int32) (hSs : S = 0 ∨ S = 2 ^ sb) (hS16 : S ≤ 16) (hsb : sb ≤ 4) (hW : 0 < Wy) (hW4 : Wy ≤ 4) (hd : rd ≤ L) (hL : L < 2 ^ 10) (hf : qf < 16) (hs : qs ≤ 16) : KV l yX4_update wsX4_update ({ frames := 3, cells := 0, slots := 0, locals := 69 } : Room) D (kTy cI cJ cZ) [.ref (b0), .int (p0), .int (p1), .int (p2)] [(b0, .inr (4, [.ref (t0), .ref (u0), .ref (r0), .ref (q0), .ref (b1), .int (ck), .int (ls_)])), (b1, .inl (cI, 7, .inl (an))), (t0, .inr (3, [.int (nI S), .int (nI Wy), .ref (t1), .ref (t2), .ref (t3), .int (fl), .int (nI sb), .ref (t4), .int (us)])), (t1, .inl (cI, S * Wy, .inl (tg))), (t2, .inl (cI, S * Wy, .inl (kd))), (t3, .inl (cI, S * Wy, .inl (tt))), (t4, .inl (cI, S * Wy, .inl (lu))), (u0, .inr (0, [.ref (u1), .ref (u2), .int (hh)])), (u1, .inl (cI, 64, .inl (hg))), (u2, .inl (cI, 64, .inl (hq))), (r0, .inr (2, [.int (nI L), .int (nI (rd)), .int (ro), .int (ru), .ref (r1)])), (r1, .inl (cI, L, .inl (rp))), (q0, .inr (1, [.int (nI (qs)), .int (nI (qf)), .int (nI L), .ref (q1), .ref (q2), .ref (q3), .ref (q4)])), (q1, .inl (cI, 16, .inl (qp))), (q2, .inl (cI, 16, .inl (qt))), (q3, .inl (cI, 16, .inl (qd))), (q4, .inl (cI, 16 * L, .inl (qr)))] sz (wTR b0 b1 t0 t1 t2 t3 t4 u0 u1 u2 r0 r1 q0 q1 q2 q3 q4 cI S Wy sb L (tf_put S Wy sb (tg, kd, tt, lu, fl, us) p0 p1 p2, cf_updH (hg, hq, hh) p0 p1 p2, (rp, rd, ro, ru), (qp, qt, qd, qr, qs, qf), an, ck, ls_)) 0 0 := by
  refine Met.ofW (cc := cX4_update) (maxL := 4) (ret := none) (by decide) rfl ?_
  intro p e s m args below meth c s₁ B hml hv
  obtain ⟨rfl, hsz, hP, hK, hD0⟩ := hv
  have hx := B.exec
  have hb := B.bytes
  have hr := B.returns
  have hts := atoms_spec (ws := wsX4_update) B.pre
  have hown : s.vm.findClass RX4 = some m.cls := findClass_of_methodNamed B.named
  have hlocks := B.notSynchronized
  have kf18 := hts (.fieldLink RX4 18 "TargetRows" "table" "LTargetRows$Table;") (List.mem_cons_of_mem _ kw_173)
  have kf27 := hts (.fieldLink RX4 27 "TargetRows" "rows" "LTargetRows$HistoryRows;") (List.mem_cons_of_mem _ kw_174)
  subst hsz
  have hD := hD0.self (sz := s.heap.size)
  generalize hAe : va_A [(b0, .inr (4, [.ref (t0), .ref (u0), .ref (r0), .ref (q0), .ref (b1), .int (ck), .int (ls_)])), (b1, .inl (cI, 7, .inl (an))), (t0, .inr (3, [.int (nI S), .int (nI Wy), .ref (t1), .ref (t2), .ref (t3), .int (fl), .int (nI sb), .ref (t4), .int (us)])), (t1, .inl (cI, S * Wy, .inl (tg))), (t2, .inl (cI, S * Wy, .inl (kd))), (t3, .inl (cI, S * Wy, .inl (tt))), (t4, .inl (cI, S * Wy, .inl (lu))), (u0, .inr (0, [.ref (u1), .ref (u2), .int (hh)])), (u1, .inl (cI, 64, .inl (hg))), (u2, .inl (cI, 64, .inl (hq))), (r0, .inr (2, [.int (nI L), .int (nI (rd)), .int (ro), .int (ru), .ref (r1)])), (r1, .inl (cI, L, .inl (rp))), (q0, .inr (1, [.int (nI (qs)), .int (nI (qf)), .int (nI L), .ref (q1), .ref (q2), .ref (q3), .ref (q4)])), (q1, .inl (cI, 16, .inl (qp))), (q2, .inl (cI, 16, .inl (qt))), (q3, .inl (cI, 16, .inl (qd))), (q4, .inl (cI, 16 * L, .inl (qr)))] s.heap.size = A at hD ⊢
  have hA : ∀ q : Nat, s.heap.size ≤ q → A q := fun q h => by rw [← hAe]; exact Or.inr h
  have hS : va_S A s.heap s.heap [] := va_S.rf
  have hP : va_P D vwCl [(b0, .inr (4, [.ref (t0), .ref (u0), .ref (r0), .ref (q0), .ref (b1), .int (ck), .int (ls_)])), (b1, .inl (cI, 7, .inl (an))), (t0, .inr (3, [.int (nI S), .int (nI Wy), .ref (t1), .ref (t2), .ref (t3), .int (fl), .int (nI sb), .ref (t4), .int (us)])), (t1, .inl (cI, S * Wy, .inl (tg))), (t2, .inl (cI, S * Wy, .inl (kd))), (t3, .inl (cI, S * Wy, .inl (tt))), (t4, .inl (cI, S * Wy, .inl (lu))), (u0, .inr (0, [.ref (u1), .ref (u2), .int (hh)])), (u1, .inl (cI, 64, .inl (hg))), (u2, .inl (cI, 64, .inl (hq))), (r0, .inr (2, [.int (nI L), .int (nI (rd)), .int (ro), .int (ru), .ref (r1)])), (r1, .inl (cI, L, .inl (rp))), (q0, .inr (1, [.int (nI (qs)), .int (nI (qf)), .int (nI L), .ref (q1), .ref (q2), .ref (q3), .ref (q4)])), (q1, .inl (cI, 16, .inl (qp))), (q2, .inl (cI, 16, .inl (qt))), (q3, .inl (cI, 16, .inl (qd))), (q4, .inl (cI, 16 * L, .inl (qr)))] s.heap := hP
  have hD : va_D A [(b0, .inr (4, [.ref (t0), .ref (u0), .ref (r0), .ref (q0), .ref (b1), .int (ck), .int (ls_)])), (b1, .inl (cI, 7, .inl (an))), (t0, .inr (3, [.int (nI S), .int (nI Wy), .ref (t1), .ref (t2), .ref (t3), .int (fl), .int (nI sb), .ref (t4), .int (us)])), (t1, .inl (cI, S * Wy, .inl (tg))), (t2, .inl (cI, S * Wy, .inl (kd))), (t3, .inl (cI, S * Wy, .inl (tt))), (t4, .inl (cI, S * Wy, .inl (lu))), (u0, .inr (0, [.ref (u1), .ref (u2), .int (hh)])), (u1, .inl (cI, 64, .inl (hg))), (u2, .inl (cI, 64, .inl (hq))), (r0, .inr (2, [.int (nI L), .int (nI (rd)), .int (ro), .int (ru), .ref (r1)])), (r1, .inl (cI, L, .inl (rp))), (q0, .inr (1, [.int (nI (qs)), .int (nI (qf)), .int (nI L), .ref (q1), .ref (q2), .ref (q3), .ref (q4)])), (q1, .inl (cI, 16, .inl (qp))), (q2, .inl (cI, 16, .inl (qt))), (q3, .inl (cI, 16, .inl (qd))), (q4, .inl (cI, 16 * L, .inl (qr)))] := hD
  have hl := lv_entry ([.ref (b0), .int (p0), .int (p1), .int (p2)]) (n := 4) (Nat.le_of_ble_eq_true rfl)
  rw [lg_entry_eq]
  generalize (lg_sl ([.ref (b0), .int (p0), .int (p1), .int (p2)]) ++ List.replicate (4 - (lg_sl ([.ref (b0), .int (p0), .int (p1), .int (p2)])).length) Slot.unset).toArray = ls at hl ⊢
  have hl : lv_has ls 4 [(0, .ref (b0)), (1, .int (p0)), (2, .int (p1)), (3, .int (p2))] := hl
  refine lv_aload_n hx hb dX4_update_0 rfl (lv_at hl 0 rfl) ?_
  refine va_get (D := D) (ci := 4) (v := .ref (t0)) (C := RX4) (T := TX4) (N := 7) hx hb hts (fun w h => List.mem_cons_of_mem _ (hiX4 w h)) hown hK hP 0 rfl rfl 0 (by decide) kf18 (fun _ h9 => h9) rfl dX4_update_1 ?_
  refine lv_iload_n hx hb dX4_update_4 rfl (lv_at hl 1 rfl) ?_
  refine lv_iload_n hx hb dX4_update_5 rfl (lv_at hl 2 rfl) ?_
  refine lv_iload_n hx hb dX4_update_6 rfl (lv_at hl 3 rfl) ?_
  refine kc_v (wc := [(t0, .inr (3, [.int (nI S), .int (nI Wy), .ref (t1), .ref (t2), .ref (t3), .int (fl), .int (nI sb), .ref (t4), .int (us)])), (t1, .inl (cI, S * Wy, .inl (tg))), (t2, .inl (cI, S * Wy, .inl (kd))), (t3, .inl (cI, S * Wy, .inl (tt))), (t4, .inl (cI, S * Wy, .inl (lu)))]) (wr := [(b0, .inr (4, [.ref (t0), .ref (u0), .ref (r0), .ref (q0), .ref (b1), .int (ck), .int (ls_)])), (b1, .inl (cI, 7, .inl (an))), (u0, .inr (0, [.ref (u1), .ref (u2), .int (hh)])), (u1, .inl (cI, 64, .inl (hg))), (u2, .inl (cI, 64, .inl (hq))), (r0, .inr (2, [.int (nI L), .int (nI (rd)), .int (ro), .int (ru), .ref (r1)])), (r1, .inl (cI, L, .inl (rp))), (q0, .inr (1, [.int (nI (qs)), .int (nI (qf)), .int (nI L), .ref (q1), .ref (q2), .ref (q3), .ref (q4)])), (q1, .inl (cI, 16, .inl (qp))), (q2, .inl (cI, 16, .inl (qt))), (q3, .inl (cI, 16, .inl (qd))), (q4, .inl (cI, 16 * L, .inl (qr)))]) [2, 3, 4, 5, 6] [0, 1, 7, 8, 9, 10, 11, 12, 13, 14, 15, 16] rfl rfl (by decide) (by decide) hP hD hS hA (va_runV (As := [.int (p0), .int (p1), .int (p2)]) (rest := []) ⟨hx, hb, hml, hown, hts⟩ (c_X3_put l D cI cJ cZ _ _ _ _ _ _ _ _ _ _ _ _ _ _ _ _ _ _ hSs hS16 hsb hW hW4) (cwV 3 hts (kw_V kw_437 kw_438 kw_439 kw_28 kw_440) rfl rfl rfl (by decide +kernel) ⟨Nat.le_of_ble_eq_true rfl, Nat.le_of_ble_eq_true rfl⟩) ⟨kP_blind, va_recv hK (hP.sub (ws' := [(t0, .inr (3, [.int (nI S), .int (nI Wy), .ref (t1), .ref (t2), .ref (t3), .int (fl), .int (nI sb), .ref (t4), .int (us)])), (t1, .inl (cI, S * Wy, .inl (tg))), (t2, .inl (cI, S * Wy, .inl (kd))), (t3, .inl (cI, S * Wy, .inl (tt))), (t4, .inl (cI, S * Wy, .inl (lu)))]) [2, 3, 4, 5, 6] rfl) (ci := 3) (q0 := 0) rfl rfl, kP_at (hP.sub [2, 3, 4, 5, 6] rfl) hK (hD.sub [2, 3, 4, 5, 6] (by decide) rfl)⟩ rfl rfl hl.1 rfl (lv_room (Nat.le_of_ble_eq_true rfl)) dX4_update_7 ⟨Nat.zero_le _, Nat.zero_le _⟩) (fun H locs hP hD hS => ?_)
  have hP := hP.sub (ws' := [(b0, .inr (4, [.ref (t0), .ref (u0), .ref (r0), .ref (q0), .ref (b1), .int (ck), .int (ls_)])), (b1, .inl (cI, 7, .inl (an))), (t0, .inr (3, [.int (nI S), .int (nI Wy), .ref (t1), .ref (t2), .ref (t3), .int ((tf_put S Wy sb (tg, kd, tt, lu, fl, us) (p0) (p1) (p2)).2.2.2.2.1), .int (nI sb), .ref (t4), .int ((tf_put S Wy sb (tg, kd, tt, lu, fl, us) (p0) (p1) (p2)).2.2.2.2.2)])), (t1, .inl (cI, S * Wy, .inl ((tf_put S Wy sb (tg, kd, tt, lu, fl, us) (p0) (p1) (p2)).1))), (t2, .inl (cI, S * Wy, .inl ((tf_put S Wy sb (tg, kd, tt, lu, fl, us) (p0) (p1) (p2)).2.1))), (t3, .inl (cI, S * Wy, .inl ((tf_put S Wy sb (tg, kd, tt, lu, fl, us) (p0) (p1) (p2)).2.2.1))), (t4, .inl (cI, S * Wy, .inl ((tf_put S Wy sb (tg, kd, tt, lu, fl, us) (p0) (p1) (p2)).2.2.2.1))), (u0, .inr (0, [.ref (u1), .ref (u2), .int (hh)])), (u1, .inl (cI, 64, .inl (hg))), (u2, .inl (cI, 64, .inl (hq))), (r0, .inr (2, [.int (nI L), .int (nI (rd)), .int (ro), .int (ru), .ref (r1)])), (r1, .inl (cI, L, .inl (rp))), (q0, .inr (1, [.int (nI (qs)), .int (nI (qf)), .int (nI L), .ref (q1), .ref (q2), .ref (q3), .ref (q4)])), (q1, .inl (cI, 16, .inl (qp))), (q2, .inl (cI, 16, .inl (qt))), (q3, .inl (cI, 16, .inl (qd))), (q4, .inl (cI, 16 * L, .inl (qr)))]) [0, 1, 12, 13, 14, 15, 16, 2, 3, 4, 5, 6, 7, 8, 9, 10, 11] rfl
  have hD := hD.sub (ws' := [(b0, .inr (4, [.ref (t0), .ref (u0), .ref (r0), .ref (q0), .ref (b1), .int (ck), .int (ls_)])), (b1, .inl (cI, 7, .inl (an))), (t0, .inr (3, [.int (nI S), .int (nI Wy), .ref (t1), .ref (t2), .ref (t3), .int ((tf_put S Wy sb (tg, kd, tt, lu, fl, us) (p0) (p1) (p2)).2.2.2.2.1), .int (nI sb), .ref (t4), .int ((tf_put S Wy sb (tg, kd, tt, lu, fl, us) (p0) (p1) (p2)).2.2.2.2.2)])), (t1, .inl (cI, S * Wy, .inl ((tf_put S Wy sb (tg, kd, tt, lu, fl, us) (p0) (p1) (p2)).1))), (t2, .inl (cI, S * Wy, .inl ((tf_put S Wy sb (tg, kd, tt, lu, fl, us) (p0) (p1) (p2)).2.1))), (t3, .inl (cI, S * Wy, .inl ((tf_put S Wy sb (tg, kd, tt, lu, fl, us) (p0) (p1) (p2)).2.2.1))), (t4, .inl (cI, S * Wy, .inl ((tf_put S Wy sb (tg, kd, tt, lu, fl, us) (p0) (p1) (p2)).2.2.2.1))), (u0, .inr (0, [.ref (u1), .ref (u2), .int (hh)])), (u1, .inl (cI, 64, .inl (hg))), (u2, .inl (cI, 64, .inl (hq))), (r0, .inr (2, [.int (nI L), .int (nI (rd)), .int (ro), .int (ru), .ref (r1)])), (r1, .inl (cI, L, .inl (rp))), (q0, .inr (1, [.int (nI (qs)), .int (nI (qf)), .int (nI L), .ref (q1), .ref (q2), .ref (q3), .ref (q4)])), (q1, .inl (cI, 16, .inl (qp))), (q2, .inl (cI, 16, .inl (qt))), (q3, .inl (cI, 16, .inl (qd))), (q4, .inl (cI, 16 * L, .inl (qr)))]) [0, 1, 12, 13, 14, 15, 16, 2, 3, 4, 5, 6, 7, 8, 9, 10, 11] (by decide) rfl
  refine lv_iload_n hx hb dX4_update_10 rfl (lv_at hl 2 rfl) ?_
  refine lv_iconst (v := 3) hx hb dX4_update_11 (by decide) ?_
  refine lv_icmp_ne (tgt := 24) hx hb dX4_update_12 (by decide) (fun c_12 => ?_) (fun c_12 => ?_)
  ·
    refine lv_aload_n hx hb dX4_update_24 rfl (lv_at hl 0 rfl) ?_
    refine va_get (D := D) (ci := 4) (v := .ref (u0)) (C := RX4) (T := TX4) (N := 7) hx hb hts (fun w h => List.mem_cons_of_mem _ (hiX4 w h)) hown hK hP 0 rfl rfl 1 (by decide) kf27 (fun _ h9 => h9) rfl dX4_update_25 ?_
    refine lv_iload_n hx hb dX4_update_28 rfl (lv_at hl 3 rfl) ?_
    refine kc_v (wc := [(u0, .inr (0, [.ref (u1), .ref (u2), .int (hh)])), (u1, .inl (cI, 64, .inl (hg))), (u2, .inl (cI, 64, .inl (hq)))]) (wr := [(b0, .inr (4, [.ref (t0), .ref (u0), .ref (r0), .ref (q0), .ref (b1), .int (ck), .int (ls_)])), (b1, .inl (cI, 7, .inl (an))), (t0, .inr (3, [.int (nI S), .int (nI Wy), .ref (t1), .ref (t2), .ref (t3), .int ((tf_put S Wy sb (tg, kd, tt, lu, fl, us) (p0) (p1) (p2)).2.2.2.2.1), .int (nI sb), .ref (t4), .int ((tf_put S Wy sb (tg, kd, tt, lu, fl, us) (p0) (p1) (p2)).2.2.2.2.2)])), (t1, .inl (cI, S * Wy, .inl ((tf_put S Wy sb (tg, kd, tt, lu, fl, us) (p0) (p1) (p2)).1))), (t2, .inl (cI, S * Wy, .inl ((tf_put S Wy sb (tg, kd, tt, lu, fl, us) (p0) (p1) (p2)).2.1))), (t3, .inl (cI, S * Wy, .inl ((tf_put S Wy sb (tg, kd, tt, lu, fl, us) (p0) (p1) (p2)).2.2.1))), (t4, .inl (cI, S * Wy, .inl ((tf_put S Wy sb (tg, kd, tt, lu, fl, us) (p0) (p1) (p2)).2.2.2.1))), (r0, .inr (2, [.int (nI L), .int (nI (rd)), .int (ro), .int (ru), .ref (r1)])), (r1, .inl (cI, L, .inl (rp))), (q0, .inr (1, [.int (nI (qs)), .int (nI (qf)), .int (nI L), .ref (q1), .ref (q2), .ref (q3), .ref (q4)])), (q1, .inl (cI, 16, .inl (qp))), (q2, .inl (cI, 16, .inl (qt))), (q3, .inl (cI, 16, .inl (qd))), (q4, .inl (cI, 16 * L, .inl (qr)))]) [7, 8, 9] [0, 1, 2, 3, 4, 5, 6, 10, 11, 12, 13, 14, 15, 16] rfl rfl (by decide) (by decide) hP hD hS hA (va_runV (As := [.int (p2)]) (rest := []) ⟨hx, hb, hml, hown, hts⟩ (c_X0_remember l D cI cJ cZ _ _ _ _ _ _ _ _) (cwV 1 hts (kw_V kw_450 kw_451 kw_452 kw_30 kw_453) rfl rfl rfl (by decide +kernel) ⟨Nat.le_of_ble_eq_true rfl, Nat.le_of_ble_eq_true rfl⟩) ⟨kP_blind, va_recv hK (hP.sub (ws' := [(u0, .inr (0, [.ref (u1), .ref (u2), .int (hh)])), (u1, .inl (cI, 64, .inl (hg))), (u2, .inl (cI, 64, .inl (hq)))]) [7, 8, 9] rfl) (ci := 0) (q0 := 0) rfl rfl, kP_at (hP.sub [7, 8, 9] rfl) hK (hD.sub [7, 8, 9] (by decide) rfl)⟩ rfl rfl hl.1 rfl (lv_room (Nat.le_of_ble_eq_true rfl)) dX4_update_29 ⟨Nat.zero_le _, Nat.zero_le _⟩) (fun H locs hP hD hS => ?_)
    have hP := hP.sub (ws' := [(b0, .inr (4, [.ref (t0), .ref (u0), .ref (r0), .ref (q0), .ref (b1), .int (ck), .int (ls_)])), (b1, .inl (cI, 7, .inl (an))), (t0, .inr (3, [.int (nI S), .int (nI Wy), .ref (t1), .ref (t2), .ref (t3), .int ((tf_put S Wy sb (tg, kd, tt, lu, fl, us) (p0) (p1) (p2)).2.2.2.2.1), .int (nI sb), .ref (t4), .int ((tf_put S Wy sb (tg, kd, tt, lu, fl, us) (p0) (p1) (p2)).2.2.2.2.2)])), (t1, .inl (cI, S * Wy, .inl ((tf_put S Wy sb (tg, kd, tt, lu, fl, us) (p0) (p1) (p2)).1))), (t2, .inl (cI, S * Wy, .inl ((tf_put S Wy sb (tg, kd, tt, lu, fl, us) (p0) (p1) (p2)).2.1))), (t3, .inl (cI, S * Wy, .inl ((tf_put S Wy sb (tg, kd, tt, lu, fl, us) (p0) (p1) (p2)).2.2.1))), (t4, .inl (cI, S * Wy, .inl ((tf_put S Wy sb (tg, kd, tt, lu, fl, us) (p0) (p1) (p2)).2.2.2.1))), (u0, .inr (0, [.ref (u1), .ref (u2), .int ((hf_rem (hg, hq, hh) (p2)).2.2)])), (u1, .inl (cI, 64, .inl ((hf_rem (hg, hq, hh) (p2)).1))), (u2, .inl (cI, 64, .inl ((hf_rem (hg, hq, hh) (p2)).2.1))), (r0, .inr (2, [.int (nI L), .int (nI (rd)), .int (ro), .int (ru), .ref (r1)])), (r1, .inl (cI, L, .inl (rp))), (q0, .inr (1, [.int (nI (qs)), .int (nI (qf)), .int (nI L), .ref (q1), .ref (q2), .ref (q3), .ref (q4)])), (q1, .inl (cI, 16, .inl (qp))), (q2, .inl (cI, 16, .inl (qt))), (q3, .inl (cI, 16, .inl (qd))), (q4, .inl (cI, 16 * L, .inl (qr)))]) [0, 1, 2, 3, 4, 5, 6, 14, 15, 16, 7, 8, 9, 10, 11, 12, 13] rfl
    have hD := hD.sub (ws' := [(b0, .inr (4, [.ref (t0), .ref (u0), .ref (r0), .ref (q0), .ref (b1), .int (ck), .int (ls_)])), (b1, .inl (cI, 7, .inl (an))), (t0, .inr (3, [.int (nI S), .int (nI Wy), .ref (t1), .ref (t2), .ref (t3), .int ((tf_put S Wy sb (tg, kd, tt, lu, fl, us) (p0) (p1) (p2)).2.2.2.2.1), .int (nI sb), .ref (t4), .int ((tf_put S Wy sb (tg, kd, tt, lu, fl, us) (p0) (p1) (p2)).2.2.2.2.2)])), (t1, .inl (cI, S * Wy, .inl ((tf_put S Wy sb (tg, kd, tt, lu, fl, us) (p0) (p1) (p2)).1))), (t2, .inl (cI, S * Wy, .inl ((tf_put S Wy sb (tg, kd, tt, lu, fl, us) (p0) (p1) (p2)).2.1))), (t3, .inl (cI, S * Wy, .inl ((tf_put S Wy sb (tg, kd, tt, lu, fl, us) (p0) (p1) (p2)).2.2.1))), (t4, .inl (cI, S * Wy, .inl ((tf_put S Wy sb (tg, kd, tt, lu, fl, us) (p0) (p1) (p2)).2.2.2.1))), (u0, .inr (0, [.ref (u1), .ref (u2), .int ((hf_rem (hg, hq, hh) (p2)).2.2)])), (u1, .inl (cI, 64, .inl ((hf_rem (hg, hq, hh) (p2)).1))), (u2, .inl (cI, 64, .inl ((hf_rem (hg, hq, hh) (p2)).2.1))), (r0, .inr (2, [.int (nI L), .int (nI (rd)), .int (ro), .int (ru), .ref (r1)])), (r1, .inl (cI, L, .inl (rp))), (q0, .inr (1, [.int (nI (qs)), .int (nI (qf)), .int (nI L), .ref (q1), .ref (q2), .ref (q3), .ref (q4)])), (q1, .inl (cI, 16, .inl (qp))), (q2, .inl (cI, 16, .inl (qt))), (q3, .inl (cI, 16, .inl (qd))), (q4, .inl (cI, 16 * L, .inl (qr)))]) [0, 1, 2, 3, 4, 5, 6, 14, 15, 16, 7, 8, 9, 10, 11, 12, 13] (by decide) rfl
    exact kr_v (congrArg (wTR b0 b1 t0 t1 t2 t3 t4 u0 u1 u2 r0 r1 q0 q1 q2 q3 q4 cI S Wy sb L ) (show ((((tf_put S Wy sb (tg, kd, tt, lu, fl, us) (p0) (p1) (p2)).1, (tf_put S Wy sb (tg, kd, tt, lu, fl, us) (p0) (p1) (p2)).2.1, (tf_put S Wy sb (tg, kd, tt, lu, fl, us) (p0) (p1) (p2)).2.2.1, (tf_put S Wy sb (tg, kd, tt, lu, fl, us) (p0) (p1) (p2)).2.2.2.1, (tf_put S Wy sb (tg, kd, tt, lu, fl, us) (p0) (p1) (p2)).2.2.2.2.1, (tf_put S Wy sb (tg, kd, tt, lu, fl, us) (p0) (p1) (p2)).2.2.2.2.2), ((hf_rem (hg, hq, hh) (p2)).1, (hf_rem (hg, hq, hh) (p2)).2.1, (hf_rem (hg, hq, hh) (p2)).2.2), (rp, rd, ro, ru), (qp, qt, qd, qr, qs, qf), an, ck, ls_) : Cs) = (tf_put S Wy sb (tg, kd, tt, lu, fl, us) p0 p1 p2, cf_updH (hg, hq, hh) p0 p1 p2, (rp, rd, ro, ru), (qp, qt, qd, qr, qs, qf), an, ck, ls_) from by simp only [cf_updH, if_neg c_12])) hx hb hr hlocks hP hK hD hS trivial dX4_update_32
  ·
    refine lv_aload_n hx hb dX4_update_15 rfl (lv_at hl 0 rfl) ?_
    refine va_get (D := D) (ci := 4) (v := .ref (u0)) (C := RX4) (T := TX4) (N := 7) hx hb hts (fun w h => List.mem_cons_of_mem _ (hiX4 w h)) hown hK hP 0 rfl rfl 1 (by decide) kf27 (fun _ h9 => h9) rfl dX4_update_16 ?_
    refine lv_iload_n hx hb dX4_update_19 rfl (lv_at hl 1 rfl) ?_
    refine lv_iload_n hx hb dX4_update_20 rfl (lv_at hl 3 rfl) ?_
    refine kc_v (wc := [(u0, .inr (0, [.ref (u1), .ref (u2), .int (hh)])), (u1, .inl (cI, 64, .inl (hg))), (u2, .inl (cI, 64, .inl (hq)))]) (wr := [(b0, .inr (4, [.ref (t0), .ref (u0), .ref (r0), .ref (q0), .ref (b1), .int (ck), .int (ls_)])), (b1, .inl (cI, 7, .inl (an))), (t0, .inr (3, [.int (nI S), .int (nI Wy), .ref (t1), .ref (t2), .ref (t3), .int ((tf_put S Wy sb (tg, kd, tt, lu, fl, us) (p0) (p1) (p2)).2.2.2.2.1), .int (nI sb), .ref (t4), .int ((tf_put S Wy sb (tg, kd, tt, lu, fl, us) (p0) (p1) (p2)).2.2.2.2.2)])), (t1, .inl (cI, S * Wy, .inl ((tf_put S Wy sb (tg, kd, tt, lu, fl, us) (p0) (p1) (p2)).1))), (t2, .inl (cI, S * Wy, .inl ((tf_put S Wy sb (tg, kd, tt, lu, fl, us) (p0) (p1) (p2)).2.1))), (t3, .inl (cI, S * Wy, .inl ((tf_put S Wy sb (tg, kd, tt, lu, fl, us) (p0) (p1) (p2)).2.2.1))), (t4, .inl (cI, S * Wy, .inl ((tf_put S Wy sb (tg, kd, tt, lu, fl, us) (p0) (p1) (p2)).2.2.2.1))), (r0, .inr (2, [.int (nI L), .int (nI (rd)), .int (ro), .int (ru), .ref (r1)])), (r1, .inl (cI, L, .inl (rp))), (q0, .inr (1, [.int (nI (qs)), .int (nI (qf)), .int (nI L), .ref (q1), .ref (q2), .ref (q3), .ref (q4)])), (q1, .inl (cI, 16, .inl (qp))), (q2, .inl (cI, 16, .inl (qt))), (q3, .inl (cI, 16, .inl (qd))), (q4, .inl (cI, 16 * L, .inl (qr)))]) [7, 8, 9] [0, 1, 2, 3, 4, 5, 6, 10, 11, 12, 13, 14, 15, 16] rfl rfl (by decide) (by decide) hP hD hS hA (va_runV (As := [.int (p0), .int (p2)]) (rest := []) ⟨hx, hb, hml, hown, hts⟩ (c_X0_put l D cI cJ cZ _ _ _ _ _ _ _ _ _) (cwV 2 hts (kw_V kw_446 kw_447 kw_448 kw_30 kw_449) rfl rfl rfl (by decide +kernel) ⟨Nat.le_of_ble_eq_true rfl, Nat.le_of_ble_eq_true rfl⟩) ⟨kP_blind, va_recv hK (hP.sub (ws' := [(u0, .inr (0, [.ref (u1), .ref (u2), .int (hh)])), (u1, .inl (cI, 64, .inl (hg))), (u2, .inl (cI, 64, .inl (hq)))]) [7, 8, 9] rfl) (ci := 0) (q0 := 0) rfl rfl, kP_at (hP.sub [7, 8, 9] rfl) hK (hD.sub [7, 8, 9] (by decide) rfl)⟩ rfl rfl hl.1 rfl (lv_room (Nat.le_of_ble_eq_true rfl)) dX4_update_21 ⟨Nat.zero_le _, Nat.zero_le _⟩) (fun H locs hP hD hS => ?_)
    have hP := hP.sub (ws' := [(b0, .inr (4, [.ref (t0), .ref (u0), .ref (r0), .ref (q0), .ref (b1), .int (ck), .int (ls_)])), (b1, .inl (cI, 7, .inl (an))), (t0, .inr (3, [.int (nI S), .int (nI Wy), .ref (t1), .ref (t2), .ref (t3), .int ((tf_put S Wy sb (tg, kd, tt, lu, fl, us) (p0) (p1) (p2)).2.2.2.2.1), .int (nI sb), .ref (t4), .int ((tf_put S Wy sb (tg, kd, tt, lu, fl, us) (p0) (p1) (p2)).2.2.2.2.2)])), (t1, .inl (cI, S * Wy, .inl ((tf_put S Wy sb (tg, kd, tt, lu, fl, us) (p0) (p1) (p2)).1))), (t2, .inl (cI, S * Wy, .inl ((tf_put S Wy sb (tg, kd, tt, lu, fl, us) (p0) (p1) (p2)).2.1))), (t3, .inl (cI, S * Wy, .inl ((tf_put S Wy sb (tg, kd, tt, lu, fl, us) (p0) (p1) (p2)).2.2.1))), (t4, .inl (cI, S * Wy, .inl ((tf_put S Wy sb (tg, kd, tt, lu, fl, us) (p0) (p1) (p2)).2.2.2.1))), (u0, .inr (0, [.ref (u1), .ref (u2), .int ((hf_put (hg, hq, hh) (p0) (p2)).2.2)])), (u1, .inl (cI, 64, .inl ((hf_put (hg, hq, hh) (p0) (p2)).1))), (u2, .inl (cI, 64, .inl ((hf_put (hg, hq, hh) (p0) (p2)).2.1))), (r0, .inr (2, [.int (nI L), .int (nI (rd)), .int (ro), .int (ru), .ref (r1)])), (r1, .inl (cI, L, .inl (rp))), (q0, .inr (1, [.int (nI (qs)), .int (nI (qf)), .int (nI L), .ref (q1), .ref (q2), .ref (q3), .ref (q4)])), (q1, .inl (cI, 16, .inl (qp))), (q2, .inl (cI, 16, .inl (qt))), (q3, .inl (cI, 16, .inl (qd))), (q4, .inl (cI, 16 * L, .inl (qr)))]) [0, 1, 2, 3, 4, 5, 6, 14, 15, 16, 7, 8, 9, 10, 11, 12, 13] rfl
    have hD := hD.sub (ws' := [(b0, .inr (4, [.ref (t0), .ref (u0), .ref (r0), .ref (q0), .ref (b1), .int (ck), .int (ls_)])), (b1, .inl (cI, 7, .inl (an))), (t0, .inr (3, [.int (nI S), .int (nI Wy), .ref (t1), .ref (t2), .ref (t3), .int ((tf_put S Wy sb (tg, kd, tt, lu, fl, us) (p0) (p1) (p2)).2.2.2.2.1), .int (nI sb), .ref (t4), .int ((tf_put S Wy sb (tg, kd, tt, lu, fl, us) (p0) (p1) (p2)).2.2.2.2.2)])), (t1, .inl (cI, S * Wy, .inl ((tf_put S Wy sb (tg, kd, tt, lu, fl, us) (p0) (p1) (p2)).1))), (t2, .inl (cI, S * Wy, .inl ((tf_put S Wy sb (tg, kd, tt, lu, fl, us) (p0) (p1) (p2)).2.1))), (t3, .inl (cI, S * Wy, .inl ((tf_put S Wy sb (tg, kd, tt, lu, fl, us) (p0) (p1) (p2)).2.2.1))), (t4, .inl (cI, S * Wy, .inl ((tf_put S Wy sb (tg, kd, tt, lu, fl, us) (p0) (p1) (p2)).2.2.2.1))), (u0, .inr (0, [.ref (u1), .ref (u2), .int ((hf_put (hg, hq, hh) (p0) (p2)).2.2)])), (u1, .inl (cI, 64, .inl ((hf_put (hg, hq, hh) (p0) (p2)).1))), (u2, .inl (cI, 64, .inl ((hf_put (hg, hq, hh) (p0) (p2)).2.1))), (r0, .inr (2, [.int (nI L), .int (nI (rd)), .int (ro), .int (ru), .ref (r1)])), (r1, .inl (cI, L, .inl (rp))), (q0, .inr (1, [.int (nI (qs)), .int (nI (qf)), .int (nI L), .ref (q1), .ref (q2), .ref (q3), .ref (q4)])), (q1, .inl (cI, 16, .inl (qp))), (q2, .inl (cI, 16, .inl (qt))), (q3, .inl (cI, 16, .inl (qd))), (q4, .inl (cI, 16 * L, .inl (qr)))]) [0, 1, 2, 3, 4, 5, 6, 14, 15, 16, 7, 8, 9, 10, 11, 12, 13] (by decide) rfl
    refine lv_aload_n hx hb dX4_update_24 rfl (lv_at hl 0 rfl) ?_
    refine va_get (D := D) (ci := 4) (v := .ref (u0)) (C := RX4) (T := TX4) (N := 7) hx hb hts (fun w h => List.mem_cons_of_mem _ (hiX4 w h)) hown hK hP 0 rfl rfl 1 (by decide) kf27 (fun _ h9 => h9) rfl dX4_update_25 ?_
    refine lv_iload_n hx hb dX4_update_28 rfl (lv_at hl 3 rfl) ?_
    refine kc_v (wc := [(u0, .inr (0, [.ref (u1), .ref (u2), .int ((hf_put (hg, hq, hh) (p0) (p2)).2.2)])), (u1, .inl (cI, 64, .inl ((hf_put (hg, hq, hh) (p0) (p2)).1))), (u2, .inl (cI, 64, .inl ((hf_put (hg, hq, hh) (p0) (p2)).2.1)))]) (wr := [(b0, .inr (4, [.ref (t0), .ref (u0), .ref (r0), .ref (q0), .ref (b1), .int (ck), .int (ls_)])), (b1, .inl (cI, 7, .inl (an))), (t0, .inr (3, [.int (nI S), .int (nI Wy), .ref (t1), .ref (t2), .ref (t3), .int ((tf_put S Wy sb (tg, kd, tt, lu, fl, us) (p0) (p1) (p2)).2.2.2.2.1), .int (nI sb), .ref (t4), .int ((tf_put S Wy sb (tg, kd, tt, lu, fl, us) (p0) (p1) (p2)).2.2.2.2.2)])), (t1, .inl (cI, S * Wy, .inl ((tf_put S Wy sb (tg, kd, tt, lu, fl, us) (p0) (p1) (p2)).1))), (t2, .inl (cI, S * Wy, .inl ((tf_put S Wy sb (tg, kd, tt, lu, fl, us) (p0) (p1) (p2)).2.1))), (t3, .inl (cI, S * Wy, .inl ((tf_put S Wy sb (tg, kd, tt, lu, fl, us) (p0) (p1) (p2)).2.2.1))), (t4, .inl (cI, S * Wy, .inl ((tf_put S Wy sb (tg, kd, tt, lu, fl, us) (p0) (p1) (p2)).2.2.2.1))), (r0, .inr (2, [.int (nI L), .int (nI (rd)), .int (ro), .int (ru), .ref (r1)])), (r1, .inl (cI, L, .inl (rp))), (q0, .inr (1, [.int (nI (qs)), .int (nI (qf)), .int (nI L), .ref (q1), .ref (q2), .ref (q3), .ref (q4)])), (q1, .inl (cI, 16, .inl (qp))), (q2, .inl (cI, 16, .inl (qt))), (q3, .inl (cI, 16, .inl (qd))), (q4, .inl (cI, 16 * L, .inl (qr)))]) [7, 8, 9] [0, 1, 2, 3, 4, 5, 6, 10, 11, 12, 13, 14, 15, 16] rfl rfl (by decide) (by decide) hP hD hS hA (va_runV (As := [.int (p2)]) (rest := []) ⟨hx, hb, hml, hown, hts⟩ (c_X0_remember l D cI cJ cZ _ _ _ _ _ _ _ _) (cwV 1 hts (kw_V kw_450 kw_451 kw_452 kw_30 kw_453) rfl rfl rfl (by decide +kernel) ⟨Nat.le_of_ble_eq_true rfl, Nat.le_of_ble_eq_true rfl⟩) ⟨kP_blind, va_recv hK (hP.sub (ws' := [(u0, .inr (0, [.ref (u1), .ref (u2), .int ((hf_put (hg, hq, hh) (p0) (p2)).2.2)])), (u1, .inl (cI, 64, .inl ((hf_put (hg, hq, hh) (p0) (p2)).1))), (u2, .inl (cI, 64, .inl ((hf_put (hg, hq, hh) (p0) (p2)).2.1)))]) [7, 8, 9] rfl) (ci := 0) (q0 := 0) rfl rfl, kP_at (hP.sub [7, 8, 9] rfl) hK (hD.sub [7, 8, 9] (by decide) rfl)⟩ rfl rfl hl.1 rfl (lv_room (Nat.le_of_ble_eq_true rfl)) dX4_update_29 ⟨Nat.zero_le _, Nat.zero_le _⟩) (fun H locs hP hD hS => ?_)
    have hP := hP.sub (ws' := [(b0, .inr (4, [.ref (t0), .ref (u0), .ref (r0), .ref (q0), .ref (b1), .int (ck), .int (ls_)])), (b1, .inl (cI, 7, .inl (an))), (t0, .inr (3, [.int (nI S), .int (nI Wy), .ref (t1), .ref (t2), .ref (t3), .int ((tf_put S Wy sb (tg, kd, tt, lu, fl, us) (p0) (p1) (p2)).2.2.2.2.1), .int (nI sb), .ref (t4), .int ((tf_put S Wy sb (tg, kd, tt, lu, fl, us) (p0) (p1) (p2)).2.2.2.2.2)])), (t1, .inl (cI, S * Wy, .inl ((tf_put S Wy sb (tg, kd, tt, lu, fl, us) (p0) (p1) (p2)).1))), (t2, .inl (cI, S * Wy, .inl ((tf_put S Wy sb (tg, kd, tt, lu, fl, us) (p0) (p1) (p2)).2.1))), (t3, .inl (cI, S * Wy, .inl ((tf_put S Wy sb (tg, kd, tt, lu, fl, us) (p0) (p1) (p2)).2.2.1))), (t4, .inl (cI, S * Wy, .inl ((tf_put S Wy sb (tg, kd, tt, lu, fl, us) (p0) (p1) (p2)).2.2.2.1))), (u0, .inr (0, [.ref (u1), .ref (u2), .int ((hf_rem ((hf_put (hg, hq, hh) (p0) (p2)).1, (hf_put (hg, hq, hh) (p0) (p2)).2.1, (hf_put (hg, hq, hh) (p0) (p2)).2.2) (p2)).2.2)])), (u1, .inl (cI, 64, .inl ((hf_rem ((hf_put (hg, hq, hh) (p0) (p2)).1, (hf_put (hg, hq, hh) (p0) (p2)).2.1, (hf_put (hg, hq, hh) (p0) (p2)).2.2) (p2)).1))), (u2, .inl (cI, 64, .inl ((hf_rem ((hf_put (hg, hq, hh) (p0) (p2)).1, (hf_put (hg, hq, hh) (p0) (p2)).2.1, (hf_put (hg, hq, hh) (p0) (p2)).2.2) (p2)).2.1))), (r0, .inr (2, [.int (nI L), .int (nI (rd)), .int (ro), .int (ru), .ref (r1)])), (r1, .inl (cI, L, .inl (rp))), (q0, .inr (1, [.int (nI (qs)), .int (nI (qf)), .int (nI L), .ref (q1), .ref (q2), .ref (q3), .ref (q4)])), (q1, .inl (cI, 16, .inl (qp))), (q2, .inl (cI, 16, .inl (qt))), (q3, .inl (cI, 16, .inl (qd))), (q4, .inl (cI, 16 * L, .inl (qr)))]) [0, 1, 2, 3, 4, 5, 6, 14, 15, 16, 7, 8, 9, 10, 11, 12, 13] rfl
    have hD := hD.sub (ws' := [(b0, .inr (4, [.ref (t0), .ref (u0), .ref (r0), .ref (q0), .ref (b1), .int (ck), .int (ls_)])), (b1, .inl (cI, 7, .inl (an))), (t0, .inr (3, [.int (nI S), .int (nI Wy), .ref (t1), .ref (t2), .ref (t3), .int ((tf_put S Wy sb (tg, kd, tt, lu, fl, us) (p0) (p1) (p2)).2.2.2.2.1), .int (nI sb), .ref (t4), .int ((tf_put S Wy sb (tg, kd, tt, lu, fl, us) (p0) (p1) (p2)).2.2.2.2.2)])), (t1, .inl (cI, S * Wy, .inl ((tf_put S Wy sb (tg, kd, tt, lu, fl, us) (p0) (p1) (p2)).1))), (t2, .inl (cI, S * Wy, .inl ((tf_put S Wy sb (tg, kd, tt, lu, fl, us) (p0) (p1) (p2)).2.1))), (t3, .inl (cI, S * Wy, .inl ((tf_put S Wy sb (tg, kd, tt, lu, fl, us) (p0) (p1) (p2)).2.2.1))), (t4, .inl (cI, S * Wy, .inl ((tf_put S Wy sb (tg, kd, tt, lu, fl, us) (p0) (p1) (p2)).2.2.2.1))), (u0, .inr (0, [.ref (u1), .ref (u2), .int ((hf_rem ((hf_put (hg, hq, hh) (p0) (p2)).1, (hf_put (hg, hq, hh) (p0) (p2)).2.1, (hf_put (hg, hq, hh) (p0) (p2)).2.2) (p2)).2.2)])), (u1, .inl (cI, 64, .inl ((hf_rem ((hf_put (hg, hq, hh) (p0) (p2)).1, (hf_put (hg, hq, hh) (p0) (p2)).2.1, (hf_put (hg, hq, hh) (p0) (p2)).2.2) (p2)).1))), (u2, .inl (cI, 64, .inl ((hf_rem ((hf_put (hg, hq, hh) (p0) (p2)).1, (hf_put (hg, hq, hh) (p0) (p2)).2.1, (hf_put (hg, hq, hh) (p0) (p2)).2.2) (p2)).2.1))), (r0, .inr (2, [.int (nI L), .int (nI (rd)), .int (ro), .int (ru), .ref (r1)])), (r1, .inl (cI, L, .inl (rp))), (q0, .inr (1, [.int (nI (qs)), .int (nI (qf)), .int (nI L), .ref (q1), .ref (q2), .ref (q3), .ref (q4)])), (q1, .inl (cI, 16, .inl (qp))), (q2, .inl (cI, 16, .inl (qt))), (q3, .inl (cI, 16, .inl (qd))), (q4, .inl (cI, 16 * L, .inl (qr)))]) [0, 1, 2, 3, 4, 5, 6, 14, 15, 16, 7, 8, 9, 10, 11, 12, 13] (by decide) rfl
    exact kr_v (congrArg (wTR b0 b1 t0 t1 t2 t3 t4 u0 u1 u2 r0 r1 q0 q1 q2 q3 q4 cI S Wy sb L ) (show ((((tf_put S Wy sb (tg, kd, tt, lu, fl, us) (p0) (p1) (p2)).1, (tf_put S Wy sb (tg, kd, tt, lu, fl, us) (p0) (p1) (p2)).2.1, (tf_put S Wy sb (tg, kd, tt, lu, fl, us) (p0) (p1) (p2)).2.2.1, (tf_put S Wy sb (tg, kd, tt, lu, fl, us) (p0) (p1) (p2)).2.2.2.1, (tf_put S Wy sb (tg, kd, tt, lu, fl, us) (p0) (p1) (p2)).2.2.2.2.1, (tf_put S Wy sb (tg, kd, tt, lu, fl, us) (p0) (p1) (p2)).2.2.2.2.2), ((hf_rem ((hf_put (hg, hq, hh) (p0) (p2)).1, (hf_put (hg, hq, hh) (p0) (p2)).2.1, (hf_put (hg, hq, hh) (p0) (p2)).2.2) (p2)).1, (hf_rem ((hf_put (hg, hq, hh) (p0) (p2)).1, (hf_put (hg, hq, hh) (p0) (p2)).2.1, (hf_put (hg, hq, hh) (p0) (p2)).2.2) (p2)).2.1, (hf_rem ((hf_put (hg, hq, hh) (p0) (p2)).1, (hf_put (hg, hq, hh) (p0) (p2)).2.1, (hf_put (hg, hq, hh) (p0) (p2)).2.2) (p2)).2.2), (rp, rd, ro, ru), (qp, qt, qd, qr, qs, qf), an, ck, ls_) : Cs) = (tf_put S Wy sb (tg, kd, tt, lu, fl, us) p0 p1 p2, cf_updH (hg, hq, hh) p0 p1 p2, (rp, rd, ro, ru), (qp, qt, qd, qr, qs, qf), an, ck, ls_) from by simp only [cf_updH, if_pos c_12])) hx hb hr hlocks hP hK hD hS trivial dX4_update_32
end
section
set_option maxHeartbeats 4000000 in
set_option maxRecDepth 100000 in
/-- next, when there is room -/
theorem c_X4_next (l : Launch) (D : va_G) (cI cJ cZ : ClassId) (sz : Nat) (b0 b1 t0 t1 t2 t3 t4 u0 u1 u2 r0 r1 q0 q1 q2 q3 q4 : Nat) (S Wy sb L : Nat) (tg kd tt lu : Fn) (fl us : Int32) (hg hq : Fn) (hh : Int32) (rp : Fn) (rd : Nat) (ro ru : Int32) (qp qt qd qr : Fn) (qs qf : Nat) (an : Fn) (ck ls_ : Int32) (p0 : Int32) (hfull : qs < 16) (hSs : S = 0 ∨ S = 2 ^ sb) (hS16 : S ≤ 16) (hsb : sb ≤ 4) (hW : 0 < Wy) (hW4 : Wy ≤ 4) (hd : rd ≤ L) (hL : L < 2 ^ 10) (hf : qf < 16) (hs : qs ≤ 16) : KI l yX4_next wsX4_next ({ frames := 4, cells := 0, slots := 0, locals := 81 } : Room) D (kTy cI cJ cZ) [.ref (b0), .int (p0)] [(b0, .inr (4, [.ref (t0), .ref (u0), .ref (r0), .ref (q0), .ref (b1), .int (ck), .int (ls_)])), (b1, .inl (cI, 7, .inl (an))), (t0, .inr (3, [.int (nI S), .int (nI Wy), .ref (t1), .ref (t2), .ref (t3), .int (fl), .int (nI sb), .ref (t4), .int (us)])), (t1, .inl (cI, S * Wy, .inl (tg))), (t2, .inl (cI, S * Wy, .inl (kd))), (t3, .inl (cI, S * Wy, .inl (tt))), (t4, .inl (cI, S * Wy, .inl (lu))), (u0, .inr (0, [.ref (u1), .ref (u2), .int (hh)])), (u1, .inl (cI, 64, .inl (hg))), (u2, .inl (cI, 64, .inl (hq))), (r0, .inr (2, [.int (nI L), .int (nI (rd)), .int (ro), .int (ru), .ref (r1)])), (r1, .inl (cI, L, .inl (rp))), (q0, .inr (1, [.int (nI (qs)), .int (nI (qf)), .int (nI L), .ref (q1), .ref (q2), .ref (q3), .ref (q4)])), (q1, .inl (cI, 16, .inl (qp))), (q2, .inl (cI, 16, .inl (qt))), (q3, .inl (cI, 16, .inl (qd))), (q4, .inl (cI, 16 * L, .inl (qr)))] sz (wTR b0 b1 t0 t1 t2 t3 t4 u0 u1 u2 r0 r1 q0 q1 q2 q3 q4 cI S Wy sb L ((tg, kd, tt, lu, fl, us), (hg, hq, hh), cf_nextR L ((tg, kd, tt, lu, fl, us), (hg, hq, hh), (rp, rd, ro, ru), (qp, qt, qd, qr, qs, qf), an, ck, ls_) p0 (tf_find S Wy sb (tg, kd, tt, lu, fl, us) p0), qf_add L (qp, qt, qd, qr, qs, qf) p0 (cf_told ((tg, kd, tt, lu, fl, us), (hg, hq, hh), (rp, rd, ro, ru), (qp, qt, qd, qr, qs, qf), an, ck, ls_) p0 (tf_find S Wy sb (tg, kd, tt, lu, fl, us) p0)) (rp, rd, ro, ru), an, ck, ls_)) (cf_told ((tg, kd, tt, lu, fl, us), (hg, hq, hh), (rp, rd, ro, ru), (qp, qt, qd, qr, qs, qf), an, ck, ls_) p0 (tf_find S Wy sb (tg, kd, tt, lu, fl, us) p0)) 0 0 := by
  refine Met.ofW (cc := cX4_next) (maxL := 4) (ret := (some .int)) (by decide) rfl ?_
  intro p e s m args below meth c s₁ B hml hv
  obtain ⟨rfl, hsz, hP, hK, hD0⟩ := hv
  have hx := B.exec
  have hb := B.bytes
  have hr := B.returns
  have hts := atoms_spec (ws := wsX4_next) B.pre
  have hown : s.vm.findClass RX4 = some m.cls := findClass_of_methodNamed B.named
  have hlocks := B.notSynchronized
  have kf18 := hts (.fieldLink RX4 18 "TargetRows" "table" "LTargetRows$Table;") (List.mem_cons_of_mem _ kw_173)
  have kf36 := hts (.fieldLink RX4 36 "TargetRows" "stack" "LTargetRows$Returns;") (List.mem_cons_of_mem _ kw_175)
  have kf43 := hts (.fieldLink RX4 43 "TargetRows" "queue" "LTargetRows$Queue;") (List.mem_cons_of_mem _ kw_176)
  have kf58 := hts (.fieldLink RX4 58 "TargetRows$Queue" "size" "I") (List.mem_cons_of_mem _ kw_151)
  have kf73 := hts (.fieldLink RX4 73 "TargetRows$Table" "kinds" "[I") (List.mem_cons_of_mem _ kw_69)
  subst hsz
  have hD := hD0.self (sz := s.heap.size)
  generalize hAe : va_A [(b0, .inr (4, [.ref (t0), .ref (u0), .ref (r0), .ref (q0), .ref (b1), .int (ck), .int (ls_)])), (b1, .inl (cI, 7, .inl (an))), (t0, .inr (3, [.int (nI S), .int (nI Wy), .ref (t1), .ref (t2), .ref (t3), .int (fl), .int (nI sb), .ref (t4), .int (us)])), (t1, .inl (cI, S * Wy, .inl (tg))), (t2, .inl (cI, S * Wy, .inl (kd))), (t3, .inl (cI, S * Wy, .inl (tt))), (t4, .inl (cI, S * Wy, .inl (lu))), (u0, .inr (0, [.ref (u1), .ref (u2), .int (hh)])), (u1, .inl (cI, 64, .inl (hg))), (u2, .inl (cI, 64, .inl (hq))), (r0, .inr (2, [.int (nI L), .int (nI (rd)), .int (ro), .int (ru), .ref (r1)])), (r1, .inl (cI, L, .inl (rp))), (q0, .inr (1, [.int (nI (qs)), .int (nI (qf)), .int (nI L), .ref (q1), .ref (q2), .ref (q3), .ref (q4)])), (q1, .inl (cI, 16, .inl (qp))), (q2, .inl (cI, 16, .inl (qt))), (q3, .inl (cI, 16, .inl (qd))), (q4, .inl (cI, 16 * L, .inl (qr)))] s.heap.size = A at hD ⊢
  have hA : ∀ q : Nat, s.heap.size ≤ q → A q := fun q h => by rw [← hAe]; exact Or.inr h
  have hS : va_S A s.heap s.heap [] := va_S.rf
  have hP : va_P D vwCl [(b0, .inr (4, [.ref (t0), .ref (u0), .ref (r0), .ref (q0), .ref (b1), .int (ck), .int (ls_)])), (b1, .inl (cI, 7, .inl (an))), (t0, .inr (3, [.int (nI S), .int (nI Wy), .ref (t1), .ref (t2), .ref (t3), .int (fl), .int (nI sb), .ref (t4), .int (us)])), (t1, .inl (cI, S * Wy, .inl (tg))), (t2, .inl (cI, S * Wy, .inl (kd))), (t3, .inl (cI, S * Wy, .inl (tt))), (t4, .inl (cI, S * Wy, .inl (lu))), (u0, .inr (0, [.ref (u1), .ref (u2), .int (hh)])), (u1, .inl (cI, 64, .inl (hg))), (u2, .inl (cI, 64, .inl (hq))), (r0, .inr (2, [.int (nI L), .int (nI (rd)), .int (ro), .int (ru), .ref (r1)])), (r1, .inl (cI, L, .inl (rp))), (q0, .inr (1, [.int (nI (qs)), .int (nI (qf)), .int (nI L), .ref (q1), .ref (q2), .ref (q3), .ref (q4)])), (q1, .inl (cI, 16, .inl (qp))), (q2, .inl (cI, 16, .inl (qt))), (q3, .inl (cI, 16, .inl (qd))), (q4, .inl (cI, 16 * L, .inl (qr)))] s.heap := hP
  have hD : va_D A [(b0, .inr (4, [.ref (t0), .ref (u0), .ref (r0), .ref (q0), .ref (b1), .int (ck), .int (ls_)])), (b1, .inl (cI, 7, .inl (an))), (t0, .inr (3, [.int (nI S), .int (nI Wy), .ref (t1), .ref (t2), .ref (t3), .int (fl), .int (nI sb), .ref (t4), .int (us)])), (t1, .inl (cI, S * Wy, .inl (tg))), (t2, .inl (cI, S * Wy, .inl (kd))), (t3, .inl (cI, S * Wy, .inl (tt))), (t4, .inl (cI, S * Wy, .inl (lu))), (u0, .inr (0, [.ref (u1), .ref (u2), .int (hh)])), (u1, .inl (cI, 64, .inl (hg))), (u2, .inl (cI, 64, .inl (hq))), (r0, .inr (2, [.int (nI L), .int (nI (rd)), .int (ro), .int (ru), .ref (r1)])), (r1, .inl (cI, L, .inl (rp))), (q0, .inr (1, [.int (nI (qs)), .int (nI (qf)), .int (nI L), .ref (q1), .ref (q2), .ref (q3), .ref (q4)])), (q1, .inl (cI, 16, .inl (qp))), (q2, .inl (cI, 16, .inl (qt))), (q3, .inl (cI, 16, .inl (qd))), (q4, .inl (cI, 16 * L, .inl (qr)))] := hD
  have hl := lv_entry ([.ref (b0), .int (p0)]) (n := 4) (Nat.le_of_ble_eq_true rfl)
  rw [lg_entry_eq]
  generalize (lg_sl ([.ref (b0), .int (p0)]) ++ List.replicate (4 - (lg_sl ([.ref (b0), .int (p0)])).length) Slot.unset).toArray = ls at hl ⊢
  have hl : lv_has ls 4 [(0, .ref (b0)), (1, .int (p0))] := hl
  refine lv_aload_n hx hb dX4_next_0 rfl (lv_at hl 0 rfl) ?_
  refine va_get (D := D) (ci := 4) (v := .ref (q0)) (C := RX4) (T := TX4) (N := 7) hx hb hts (fun w h => List.mem_cons_of_mem _ (hiX4 w h)) hown hK hP 0 rfl rfl 3 (by decide) kf43 (fun _ h9 => h9) rfl dX4_next_1 ?_
  refine va_get (D := D) (ci := 1) (v := .int (nI (qs))) (C := RX1) (T := TX1) (N := 7) hx hb hts (fun w h => List.mem_cons_of_mem _ (hiX1 w h)) hown hK hP 12 rfl rfl 0 (by decide) kf58 (fun _ h9 => h9) rfl dX4_next_4 ?_
  refine lv_bipush (v := 16) hx hb dX4_next_7 (by decide) ?_
  refine lv_icmp_ne (tgt := 22) hx hb dX4_next_9 (by decide) (fun c_9 => ?_) (fun c_9 => absurd ((nI_eq (a := qs) (b := 16) (by omega) (by decide)).mp c_9) (by omega))
  refine lv_aload_n hx hb dX4_next_22 rfl (lv_at hl 0 rfl) ?_
  refine va_get (D := D) (ci := 4) (v := .ref (t0)) (C := RX4) (T := TX4) (N := 7) hx hb hts (fun w h => List.mem_cons_of_mem _ (hiX4 w h)) hown hK hP 0 rfl rfl 0 (by decide) kf18 (fun _ h9 => h9) rfl dX4_next_23 ?_
  refine lv_iload_n hx hb dX4_next_26 rfl (lv_at hl 1 rfl) ?_
  refine kc_i (wc := [(t0, .inr (3, [.int (nI S), .int (nI Wy), .ref (t1), .ref (t2), .ref (t3), .int (fl), .int (nI sb), .ref (t4), .int (us)])), (t1, .inl (cI, S * Wy, .inl (tg))), (t2, .inl (cI, S * Wy, .inl (kd))), (t3, .inl (cI, S * Wy, .inl (tt))), (t4, .inl (cI, S * Wy, .inl (lu)))]) (wr := [(b0, .inr (4, [.ref (t0), .ref (u0), .ref (r0), .ref (q0), .ref (b1), .int (ck), .int (ls_)])), (b1, .inl (cI, 7, .inl (an))), (u0, .inr (0, [.ref (u1), .ref (u2), .int (hh)])), (u1, .inl (cI, 64, .inl (hg))), (u2, .inl (cI, 64, .inl (hq))), (r0, .inr (2, [.int (nI L), .int (nI (rd)), .int (ro), .int (ru), .ref (r1)])), (r1, .inl (cI, L, .inl (rp))), (q0, .inr (1, [.int (nI (qs)), .int (nI (qf)), .int (nI L), .ref (q1), .ref (q2), .ref (q3), .ref (q4)])), (q1, .inl (cI, 16, .inl (qp))), (q2, .inl (cI, 16, .inl (qt))), (q3, .inl (cI, 16, .inl (qd))), (q4, .inl (cI, 16 * L, .inl (qr)))]) [2, 3, 4, 5, 6] [0, 1, 7, 8, 9, 10, 11, 12, 13, 14, 15, 16] rfl rfl (by decide) (by decide) hP hD hS hA (va_runV (As := [.int (p0)]) (rest := []) ⟨hx, hb, hml, hown, hts⟩ (c_X3_find l D cI cJ cZ _ _ _ _ _ _ _ _ _ _ _ _ _ _ _ _ hSs hS16 hsb hW hW4) (cwV 1 hts (kw_V kw_199 kw_200 kw_201 kw_28 kw_202) rfl rfl rfl (by decide +kernel) ⟨Nat.le_of_ble_eq_true rfl, Nat.le_of_ble_eq_true rfl⟩) ⟨kP_blind, va_recv hK (hP.sub (ws' := [(t0, .inr (3, [.int (nI S), .int (nI Wy), .ref (t1), .ref (t2), .ref (t3), .int (fl), .int (nI sb), .ref (t4), .int (us)])), (t1, .inl (cI, S * Wy, .inl (tg))), (t2, .inl (cI, S * Wy, .inl (kd))), (t3, .inl (cI, S * Wy, .inl (tt))), (t4, .inl (cI, S * Wy, .inl (lu)))]) [2, 3, 4, 5, 6] rfl) (ci := 3) (q0 := 0) rfl rfl, kP_at (hP.sub [2, 3, 4, 5, 6] rfl) hK (hD.sub [2, 3, 4, 5, 6] (by decide) rfl)⟩ rfl rfl hl.1 rfl (lv_room (Nat.le_of_ble_eq_true rfl)) dX4_next_27 ⟨Nat.zero_le _, Nat.zero_le _⟩) (fun H locs hP hD hS => ?_)
  have hP := hP.sub (ws' := [(b0, .inr (4, [.ref (t0), .ref (u0), .ref (r0), .ref (q0), .ref (b1), .int (ck), .int (ls_)])), (b1, .inl (cI, 7, .inl (an))), (t0, .inr (3, [.int (nI S), .int (nI Wy), .ref (t1), .ref (t2), .ref (t3), .int (fl), .int (nI sb), .ref (t4), .int (us)])), (t1, .inl (cI, S * Wy, .inl (tg))), (t2, .inl (cI, S * Wy, .inl (kd))), (t3, .inl (cI, S * Wy, .inl (tt))), (t4, .inl (cI, S * Wy, .inl (lu))), (u0, .inr (0, [.ref (u1), .ref (u2), .int (hh)])), (u1, .inl (cI, 64, .inl (hg))), (u2, .inl (cI, 64, .inl (hq))), (r0, .inr (2, [.int (nI L), .int (nI (rd)), .int (ro), .int (ru), .ref (r1)])), (r1, .inl (cI, L, .inl (rp))), (q0, .inr (1, [.int (nI (qs)), .int (nI (qf)), .int (nI L), .ref (q1), .ref (q2), .ref (q3), .ref (q4)])), (q1, .inl (cI, 16, .inl (qp))), (q2, .inl (cI, 16, .inl (qt))), (q3, .inl (cI, 16, .inl (qd))), (q4, .inl (cI, 16 * L, .inl (qr)))]) [0, 1, 12, 13, 14, 15, 16, 2, 3, 4, 5, 6, 7, 8, 9, 10, 11] rfl
  have hD := hD.sub (ws' := [(b0, .inr (4, [.ref (t0), .ref (u0), .ref (r0), .ref (q0), .ref (b1), .int (ck), .int (ls_)])), (b1, .inl (cI, 7, .inl (an))), (t0, .inr (3, [.int (nI S), .int (nI Wy), .ref (t1), .ref (t2), .ref (t3), .int (fl), .int (nI sb), .ref (t4), .int (us)])), (t1, .inl (cI, S * Wy, .inl (tg))), (t2, .inl (cI, S * Wy, .inl (kd))), (t3, .inl (cI, S * Wy, .inl (tt))), (t4, .inl (cI, S * Wy, .inl (lu))), (u0, .inr (0, [.ref (u1), .ref (u2), .int (hh)])), (u1, .inl (cI, 64, .inl (hg))), (u2, .inl (cI, 64, .inl (hq))), (r0, .inr (2, [.int (nI L), .int (nI (rd)), .int (ro), .int (ru), .ref (r1)])), (r1, .inl (cI, L, .inl (rp))), (q0, .inr (1, [.int (nI (qs)), .int (nI (qf)), .int (nI L), .ref (q1), .ref (q2), .ref (q3), .ref (q4)])), (q1, .inl (cI, 16, .inl (qp))), (q2, .inl (cI, 16, .inl (qt))), (q3, .inl (cI, 16, .inl (qd))), (q4, .inl (cI, 16 * L, .inl (qr)))]) [0, 1, 12, 13, 14, 15, 16, 2, 3, 4, 5, 6, 7, 8, 9, 10, 11] (by decide) rfl
  refine lv_istore_n (lv' := [(2, .int (tf_i (tf_find S Wy sb (tg, kd, tt, lu, fl, us) (p0)))), (0, .ref (b0)), (1, .int (p0))]) hx hb dX4_next_30 rfl hl (by decide) rfl (fun ls hl => ?_)
  refine lv_aload_n hx hb dX4_next_31 rfl (lv_at hl 1 rfl) ?_
  refine lv_iload_n hx hb dX4_next_32 rfl (lv_at hl 2 rfl) ?_
  refine lv_iload_n hx hb dX4_next_33 rfl (lv_at hl 0 rfl) ?_
  refine kc_i (wc := [(b0, .inr (4, [.ref (t0), .ref (u0), .ref (r0), .ref (q0), .ref (b1), .int (ck), .int (ls_)])), (b1, .inl (cI, 7, .inl (an))), (t0, .inr (3, [.int (nI S), .int (nI Wy), .ref (t1), .ref (t2), .ref (t3), .int (fl), .int (nI sb), .ref (t4), .int (us)])), (t1, .inl (cI, S * Wy, .inl (tg))), (t2, .inl (cI, S * Wy, .inl (kd))), (t3, .inl (cI, S * Wy, .inl (tt))), (t4, .inl (cI, S * Wy, .inl (lu))), (u0, .inr (0, [.ref (u1), .ref (u2), .int (hh)])), (u1, .inl (cI, 64, .inl (hg))), (u2, .inl (cI, 64, .inl (hq))), (r0, .inr (2, [.int (nI L), .int (nI (rd)), .int (ro), .int (ru), .ref (r1)])), (r1, .inl (cI, L, .inl (rp))), (q0, .inr (1, [.int (nI (qs)), .int (nI (qf)), .int (nI L), .ref (q1), .ref (q2), .ref (q3), .ref (q4)])), (q1, .inl (cI, 16, .inl (qp))), (q2, .inl (cI, 16, .inl (qt))), (q3, .inl (cI, 16, .inl (qd))), (q4, .inl (cI, 16 * L, .inl (qr)))]) (wr := []) [0, 1, 2, 3, 4, 5, 6, 7, 8, 9, 10, 11, 12, 13, 14, 15, 16] [] rfl rfl (by decide) (by decide) hP hD hS hA (va_runV (As := [.int (p0), .int (tf_i (tf_find S Wy sb (tg, kd, tt, lu, fl, us) (p0)))]) (rest := []) ⟨hx, hb, hml, hown, hts⟩ (c_X4_toldOf l D cI cJ cZ _ _ _ _ _ _ _ _ _ _ _ _ _ _ _ _ _ _ _ _ _ _ _ _ _ _ _ _ _ _ _ _ _ _ _ _ _ _ _ _ _ _ _ _ _ _ (fun o h => (tf_find_lt h).2.1) hSs hS16 hsb hW hW4 hd hL hf hs) (cwV 2 hts (kw_V kw_211 kw_213 kw_2 kw_26 kw_214) rfl rfl rfl (by decide +kernel) ⟨Nat.le_of_ble_eq_true rfl, Nat.le_of_ble_eq_true rfl⟩) ⟨kP_blind, va_recv hK (hP.sub (ws' := [(b0, .inr (4, [.ref (t0), .ref (u0), .ref (r0), .ref (q0), .ref (b1), .int (ck), .int (ls_)])), (b1, .inl (cI, 7, .inl (an))), (t0, .inr (3, [.int (nI S), .int (nI Wy), .ref (t1), .ref (t2), .ref (t3), .int (fl), .int (nI sb), .ref (t4), .int (us)])), (t1, .inl (cI, S * Wy, .inl (tg))), (t2, .inl (cI, S * Wy, .inl (kd))), (t3, .inl (cI, S * Wy, .inl (tt))), (t4, .inl (cI, S * Wy, .inl (lu))), (u0, .inr (0, [.ref (u1), .ref (u2), .int (hh)])), (u1, .inl (cI, 64, .inl (hg))), (u2, .inl (cI, 64, .inl (hq))), (r0, .inr (2, [.int (nI L), .int (nI (rd)), .int (ro), .int (ru), .ref (r1)])), (r1, .inl (cI, L, .inl (rp))), (q0, .inr (1, [.int (nI (qs)), .int (nI (qf)), .int (nI L), .ref (q1), .ref (q2), .ref (q3), .ref (q4)])), (q1, .inl (cI, 16, .inl (qp))), (q2, .inl (cI, 16, .inl (qt))), (q3, .inl (cI, 16, .inl (qd))), (q4, .inl (cI, 16 * L, .inl (qr)))]) [0, 1, 2, 3, 4, 5, 6, 7, 8, 9, 10, 11, 12, 13, 14, 15, 16] rfl) (ci := 4) (q0 := 0) rfl rfl, kP_at (hP.sub [0, 1, 2, 3, 4, 5, 6, 7, 8, 9, 10, 11, 12, 13, 14, 15, 16] rfl) hK (hD.sub [0, 1, 2, 3, 4, 5, 6, 7, 8, 9, 10, 11, 12, 13, 14, 15, 16] (by decide) rfl)⟩ rfl rfl hl.1 rfl (lv_room (Nat.le_of_ble_eq_true rfl)) dX4_next_34 ⟨Nat.zero_le _, Nat.zero_le _⟩) (fun H locs hP hD hS => ?_)
  have hP := hP.sub (ws' := [(b0, .inr (4, [.ref (t0), .ref (u0), .ref (r0), .ref (q0), .ref (b1), .int (ck), .int (ls_)])), (b1, .inl (cI, 7, .inl (an))), (t0, .inr (3, [.int (nI S), .int (nI Wy), .ref (t1), .ref (t2), .ref (t3), .int (fl), .int (nI sb), .ref (t4), .int (us)])), (t1, .inl (cI, S * Wy, .inl (tg))), (t2, .inl (cI, S * Wy, .inl (kd))), (t3, .inl (cI, S * Wy, .inl (tt))), (t4, .inl (cI, S * Wy, .inl (lu))), (u0, .inr (0, [.ref (u1), .ref (u2), .int (hh)])), (u1, .inl (cI, 64, .inl (hg))), (u2, .inl (cI, 64, .inl (hq))), (r0, .inr (2, [.int (nI L), .int (nI (rd)), .int (ro), .int (ru), .ref (r1)])), (r1, .inl (cI, L, .inl (rp))), (q0, .inr (1, [.int (nI (qs)), .int (nI (qf)), .int (nI L), .ref (q1), .ref (q2), .ref (q3), .ref (q4)])), (q1, .inl (cI, 16, .inl (qp))), (q2, .inl (cI, 16, .inl (qt))), (q3, .inl (cI, 16, .inl (qd))), (q4, .inl (cI, 16 * L, .inl (qr)))]) [0, 1, 2, 3, 4, 5, 6, 7, 8, 9, 10, 11, 12, 13, 14, 15, 16] rfl
  have hD := hD.sub (ws' := [(b0, .inr (4, [.ref (t0), .ref (u0), .ref (r0), .ref (q0), .ref (b1), .int (ck), .int (ls_)])), (b1, .inl (cI, 7, .inl (an))), (t0, .inr (3, [.int (nI S), .int (nI Wy), .ref (t1), .ref (t2), .ref (t3), .int (fl), .int (nI sb), .ref (t4), .int (us)])), (t1, .inl (cI, S * Wy, .inl (tg))), (t2, .inl (cI, S * Wy, .inl (kd))), (t3, .inl (cI, S * Wy, .inl (tt))), (t4, .inl (cI, S * Wy, .inl (lu))), (u0, .inr (0, [.ref (u1), .ref (u2), .int (hh)])), (u1, .inl (cI, 64, .inl (hg))), (u2, .inl (cI, 64, .inl (hq))), (r0, .inr (2, [.int (nI L), .int (nI (rd)), .int (ro), .int (ru), .ref (r1)])), (r1, .inl (cI, L, .inl (rp))), (q0, .inr (1, [.int (nI (qs)), .int (nI (qf)), .int (nI L), .ref (q1), .ref (q2), .ref (q3), .ref (q4)])), (q1, .inl (cI, 16, .inl (qp))), (q2, .inl (cI, 16, .inl (qt))), (q3, .inl (cI, 16, .inl (qd))), (q4, .inl (cI, 16 * L, .inl (qr)))]) [0, 1, 2, 3, 4, 5, 6, 7, 8, 9, 10, 11, 12, 13, 14, 15, 16] (by decide) rfl
  refine lv_istore_n (lv' := [(3, .int (cf_told ((tg, kd, tt, lu, fl, us), (hg, hq, hh), (rp, rd, ro, ru), (qp, qt, qd, qr, qs, qf), an, ck, ls_) (p0) (tf_find S Wy sb (tg, kd, tt, lu, fl, us) (p0)))), (2, .int (tf_i (tf_find S Wy sb (tg, kd, tt, lu, fl, us) (p0)))), (0, .ref (b0)), (1, .int (p0))]) hx hb dX4_next_37 rfl hl (by decide) rfl (fun ls hl => ?_)
  refine lv_aload_n hx hb dX4_next_38 rfl (lv_at hl 2 rfl) ?_
  refine va_get (D := D) (ci := 4) (v := .ref (q0)) (C := RX4) (T := TX4) (N := 7) hx hb hts (fun w h => List.mem_cons_of_mem _ (hiX4 w h)) hown hK hP 0 rfl rfl 3 (by decide) kf43 (fun _ h9 => h9) rfl dX4_next_39 ?_
  refine lv_iload_n hx hb dX4_next_42 rfl (lv_at hl 3 rfl) ?_
  refine lv_iload_n hx hb dX4_next_43 rfl (lv_at hl 0 rfl) ?_
  refine lv_aload_n hx hb dX4_next_44 rfl (lv_at hl 2 rfl) ?_
  refine va_get (D := D) (ci := 4) (v := .ref (r0)) (C := RX4) (T := TX4) (N := 7) hx hb hts (fun w h => List.mem_cons_of_mem _ (hiX4 w h)) hown hK hP 0 rfl rfl 2 (by decide) kf36 (fun _ h9 => h9) rfl dX4_next_45 ?_
  refine kc_v (wc := [(q0, .inr (1, [.int (nI (qs)), .int (nI (qf)), .int (nI L), .ref (q1), .ref (q2), .ref (q3), .ref (q4)])), (q1, .inl (cI, 16, .inl (qp))), (q2, .inl (cI, 16, .inl (qt))), (q3, .inl (cI, 16, .inl (qd))), (q4, .inl (cI, 16 * L, .inl (qr))), (r0, .inr (2, [.int (nI L), .int (nI (rd)), .int (ro), .int (ru), .ref (r1)])), (r1, .inl (cI, L, .inl (rp)))]) (wr := [(b0, .inr (4, [.ref (t0), .ref (u0), .ref (r0), .ref (q0), .ref (b1), .int (ck), .int (ls_)])), (b1, .inl (cI, 7, .inl (an))), (t0, .inr (3, [.int (nI S), .int (nI Wy), .ref (t1), .ref (t2), .ref (t3), .int (fl), .int (nI sb), .ref (t4), .int (us)])), (t1, .inl (cI, S * Wy, .inl (tg))), (t2, .inl (cI, S * Wy, .inl (kd))), (t3, .inl (cI, S * Wy, .inl (tt))), (t4, .inl (cI, S * Wy, .inl (lu))), (u0, .inr (0, [.ref (u1), .ref (u2), .int (hh)])), (u1, .inl (cI, 64, .inl (hg))), (u2, .inl (cI, 64, .inl (hq)))]) [12, 13, 14, 15, 16, 10, 11] [0, 1, 2, 3, 4, 5, 6, 7, 8, 9] rfl rfl (by decide) (by decide) hP hD hS hA (va_runV (As := [.int (p0), .int (cf_told ((tg, kd, tt, lu, fl, us), (hg, hq, hh), (rp, rd, ro, ru), (qp, qt, qd, qr, qs, qf), an, ck, ls_) (p0) (tf_find S Wy sb (tg, kd, tt, lu, fl, us) (p0))), .ref (r0)]) (rest := []) ⟨hx, hb, hml, hown, hts⟩ (c_X1_add l D cI cJ cZ _ _ _ _ _ _ _ _ _ _ _ _ _ _ _ _ _ _ _ _ _ hs hd hf hL) (cwV 3 hts (kw_V kw_344 kw_345 kw_346 kw_32 kw_347) rfl rfl rfl (by decide +kernel) ⟨Nat.le_of_ble_eq_true rfl, Nat.le_of_ble_eq_true rfl⟩) ⟨kP_blind, va_recv hK (hP.sub (ws' := [(q0, .inr (1, [.int (nI (qs)), .int (nI (qf)), .int (nI L), .ref (q1), .ref (q2), .ref (q3), .ref (q4)])), (q1, .inl (cI, 16, .inl (qp))), (q2, .inl (cI, 16, .inl (qt))), (q3, .inl (cI, 16, .inl (qd))), (q4, .inl (cI, 16 * L, .inl (qr))), (r0, .inr (2, [.int (nI L), .int (nI (rd)), .int (ro), .int (ru), .ref (r1)])), (r1, .inl (cI, L, .inl (rp)))]) [12, 13, 14, 15, 16, 10, 11] rfl) (ci := 1) (q0 := 0) rfl rfl, kP_at (hP.sub [12, 13, 14, 15, 16, 10, 11] rfl) hK (hD.sub [12, 13, 14, 15, 16, 10, 11] (by decide) rfl)⟩ rfl rfl hl.1 rfl (lv_room (Nat.le_of_ble_eq_true rfl)) dX4_next_48 ⟨Nat.zero_le _, Nat.zero_le _⟩) (fun H locs hP hD hS => ?_)
  have hP := hP.sub (ws' := [(b0, .inr (4, [.ref (t0), .ref (u0), .ref (r0), .ref (q0), .ref (b1), .int (ck), .int (ls_)])), (b1, .inl (cI, 7, .inl (an))), (t0, .inr (3, [.int (nI S), .int (nI Wy), .ref (t1), .ref (t2), .ref (t3), .int (fl), .int (nI sb), .ref (t4), .int (us)])), (t1, .inl (cI, S * Wy, .inl (tg))), (t2, .inl (cI, S * Wy, .inl (kd))), (t3, .inl (cI, S * Wy, .inl (tt))), (t4, .inl (cI, S * Wy, .inl (lu))), (u0, .inr (0, [.ref (u1), .ref (u2), .int (hh)])), (u1, .inl (cI, 64, .inl (hg))), (u2, .inl (cI, 64, .inl (hq))), (r0, .inr (2, [.int (nI L), .int (nI (rd)), .int (ro), .int (ru), .ref (r1)])), (r1, .inl (cI, L, .inl (rp))), (q0, .inr (1, [.int (nI ((qf_add L (qp, qt, qd, qr, qs, qf) (p0) (cf_told ((tg, kd, tt, lu, fl, us), (hg, hq, hh), (rp, rd, ro, ru), (qp, qt, qd, qr, qs, qf), an, ck, ls_) (p0) (tf_find S Wy sb (tg, kd, tt, lu, fl, us) (p0))) (rp, rd, ro, ru)).2.2.2.2.1)), .int (nI ((qf_add L (qp, qt, qd, qr, qs, qf) (p0) (cf_told ((tg, kd, tt, lu, fl, us), (hg, hq, hh), (rp, rd, ro, ru), (qp, qt, qd, qr, qs, qf), an, ck, ls_) (p0) (tf_find S Wy sb (tg, kd, tt, lu, fl, us) (p0))) (rp, rd, ro, ru)).2.2.2.2.2)), .int (nI L), .ref (q1), .ref (q2), .ref (q3), .ref (q4)])), (q1, .inl (cI, 16, .inl ((qf_add L (qp, qt, qd, qr, qs, qf) (p0) (cf_told ((tg, kd, tt, lu, fl, us), (hg, hq, hh), (rp, rd, ro, ru), (qp, qt, qd, qr, qs, qf), an, ck, ls_) (p0) (tf_find S Wy sb (tg, kd, tt, lu, fl, us) (p0))) (rp, rd, ro, ru)).1))), (q2, .inl (cI, 16, .inl ((qf_add L (qp, qt, qd, qr, qs, qf) (p0) (cf_told ((tg, kd, tt, lu, fl, us), (hg, hq, hh), (rp, rd, ro, ru), (qp, qt, qd, qr, qs, qf), an, ck, ls_) (p0) (tf_find S Wy sb (tg, kd, tt, lu, fl, us) (p0))) (rp, rd, ro, ru)).2.1))), (q3, .inl (cI, 16, .inl ((qf_add L (qp, qt, qd, qr, qs, qf) (p0) (cf_told ((tg, kd, tt, lu, fl, us), (hg, hq, hh), (rp, rd, ro, ru), (qp, qt, qd, qr, qs, qf), an, ck, ls_) (p0) (tf_find S Wy sb (tg, kd, tt, lu, fl, us) (p0))) (rp, rd, ro, ru)).2.2.1))), (q4, .inl (cI, 16 * L, .inl ((qf_add L (qp, qt, qd, qr, qs, qf) (p0) (cf_told ((tg, kd, tt, lu, fl, us), (hg, hq, hh), (rp, rd, ro, ru), (qp, qt, qd, qr, qs, qf), an, ck, ls_) (p0) (tf_find S Wy sb (tg, kd, tt, lu, fl, us) (p0))) (rp, rd, ro, ru)).2.2.2.1)))]) [0, 1, 2, 3, 4, 5, 6, 7, 8, 9, 15, 16, 10, 11, 12, 13, 14] rfl
  have hD := hD.sub (ws' := [(b0, .inr (4, [.ref (t0), .ref (u0), .ref (r0), .ref (q0), .ref (b1), .int (ck), .int (ls_)])), (b1, .inl (cI, 7, .inl (an))), (t0, .inr (3, [.int (nI S), .int (nI Wy), .ref (t1), .ref (t2), .ref (t3), .int (fl), .int (nI sb), .ref (t4), .int (us)])), (t1, .inl (cI, S * Wy, .inl (tg))), (t2, .inl (cI, S * Wy, .inl (kd))), (t3, .inl (cI, S * Wy, .inl (tt))), (t4, .inl (cI, S * Wy, .inl (lu))), (u0, .inr (0, [.ref (u1), .ref (u2), .int (hh)])), (u1, .inl (cI, 64, .inl (hg))), (u2, .inl (cI, 64, .inl (hq))), (r0, .inr (2, [.int (nI L), .int (nI (rd)), .int (ro), .int (ru), .ref (r1)])), (r1, .inl (cI, L, .inl (rp))), (q0, .inr (1, [.int (nI ((qf_add L (qp, qt, qd, qr, qs, qf) (p0) (cf_told ((tg, kd, tt, lu, fl, us), (hg, hq, hh), (rp, rd, ro, ru), (qp, qt, qd, qr, qs, qf), an, ck, ls_) (p0) (tf_find S Wy sb (tg, kd, tt, lu, fl, us) (p0))) (rp, rd, ro, ru)).2.2.2.2.1)), .int (nI ((qf_add L (qp, qt, qd, qr, qs, qf) (p0) (cf_told ((tg, kd, tt, lu, fl, us), (hg, hq, hh), (rp, rd, ro, ru), (qp, qt, qd, qr, qs, qf), an, ck, ls_) (p0) (tf_find S Wy sb (tg, kd, tt, lu, fl, us) (p0))) (rp, rd, ro, ru)).2.2.2.2.2)), .int (nI L), .ref (q1), .ref (q2), .ref (q3), .ref (q4)])), (q1, .inl (cI, 16, .inl ((qf_add L (qp, qt, qd, qr, qs, qf) (p0) (cf_told ((tg, kd, tt, lu, fl, us), (hg, hq, hh), (rp, rd, ro, ru), (qp, qt, qd, qr, qs, qf), an, ck, ls_) (p0) (tf_find S Wy sb (tg, kd, tt, lu, fl, us) (p0))) (rp, rd, ro, ru)).1))), (q2, .inl (cI, 16, .inl ((qf_add L (qp, qt, qd, qr, qs, qf) (p0) (cf_told ((tg, kd, tt, lu, fl, us), (hg, hq, hh), (rp, rd, ro, ru), (qp, qt, qd, qr, qs, qf), an, ck, ls_) (p0) (tf_find S Wy sb (tg, kd, tt, lu, fl, us) (p0))) (rp, rd, ro, ru)).2.1))), (q3, .inl (cI, 16, .inl ((qf_add L (qp, qt, qd, qr, qs, qf) (p0) (cf_told ((tg, kd, tt, lu, fl, us), (hg, hq, hh), (rp, rd, ro, ru), (qp, qt, qd, qr, qs, qf), an, ck, ls_) (p0) (tf_find S Wy sb (tg, kd, tt, lu, fl, us) (p0))) (rp, rd, ro, ru)).2.2.1))), (q4, .inl (cI, 16 * L, .inl ((qf_add L (qp, qt, qd, qr, qs, qf) (p0) (cf_told ((tg, kd, tt, lu, fl, us), (hg, hq, hh), (rp, rd, ro, ru), (qp, qt, qd, qr, qs, qf), an, ck, ls_) (p0) (tf_find S Wy sb (tg, kd, tt, lu, fl, us) (p0))) (rp, rd, ro, ru)).2.2.2.1)))]) [0, 1, 2, 3, 4, 5, 6, 7, 8, 9, 15, 16, 10, 11, 12, 13, 14] (by decide) rfl
  refine lv_iload_n hx hb dX4_next_51 rfl (lv_at hl 1 rfl) ?_
  rcases hfo : tf_find S Wy sb (tg, kd, tt, lu, fl, us) (p0) with _ | o
  ·
    refine kt_i (y := -1) (rfl) ?_
    refine lv_iconst (v := (-1)) hx hb dX4_next_52 (by decide) ?_
    refine lv_icmp_eq (tgt := 70) hx hb dX4_next_53 (by decide) (fun c_53 => ?_) (fun c_53 => absurd rfl c_53)
    refine lv_iload_n hx hb dX4_next_70 rfl (lv_at hl 0 rfl) ?_
    exact kr_i (congrArg (wTR b0 b1 t0 t1 t2 t3 t4 u0 u1 u2 r0 r1 q0 q1 q2 q3 q4 cI S Wy sb L ) (show (((tg, kd, tt, lu, fl, us), (hg, hq, hh), (rp, rd, ro, ru), ((qf_add L (qp, qt, qd, qr, qs, qf) (p0) (cf_told ((tg, kd, tt, lu, fl, us), (hg, hq, hh), (rp, rd, ro, ru), (qp, qt, qd, qr, qs, qf), an, ck, ls_) (p0) (tf_find S Wy sb (tg, kd, tt, lu, fl, us) (p0))) (rp, rd, ro, ru)).1, (qf_add L (qp, qt, qd, qr, qs, qf) (p0) (cf_told ((tg, kd, tt, lu, fl, us), (hg, hq, hh), (rp, rd, ro, ru), (qp, qt, qd, qr, qs, qf), an, ck, ls_) (p0) (tf_find S Wy sb (tg, kd, tt, lu, fl, us) (p0))) (rp, rd, ro, ru)).2.1, (qf_add L (qp, qt, qd, qr, qs, qf) (p0) (cf_told ((tg, kd, tt, lu, fl, us), (hg, hq, hh), (rp, rd, ro, ru), (qp, qt, qd, qr, qs, qf), an, ck, ls_) (p0) (tf_find S Wy sb (tg, kd, tt, lu, fl, us) (p0))) (rp, rd, ro, ru)).2.2.1, (qf_add L (qp, qt, qd, qr, qs, qf) (p0) (cf_told ((tg, kd, tt, lu, fl, us), (hg, hq, hh), (rp, rd, ro, ru), (qp, qt, qd, qr, qs, qf), an, ck, ls_) (p0) (tf_find S Wy sb (tg, kd, tt, lu, fl, us) (p0))) (rp, rd, ro, ru)).2.2.2.1, (qf_add L (qp, qt, qd, qr, qs, qf) (p0) (cf_told ((tg, kd, tt, lu, fl, us), (hg, hq, hh), (rp, rd, ro, ru), (qp, qt, qd, qr, qs, qf), an, ck, ls_) (p0) (tf_find S Wy sb (tg, kd, tt, lu, fl, us) (p0))) (rp, rd, ro, ru)).2.2.2.2.1, (qf_add L (qp, qt, qd, qr, qs, qf) (p0) (cf_told ((tg, kd, tt, lu, fl, us), (hg, hq, hh), (rp, rd, ro, ru), (qp, qt, qd, qr, qs, qf), an, ck, ls_) (p0) (tf_find S Wy sb (tg, kd, tt, lu, fl, us) (p0))) (rp, rd, ro, ru)).2.2.2.2.2), an, ck, ls_) : Cs) = ((tg, kd, tt, lu, fl, us), (hg, hq, hh), cf_nextR L ((tg, kd, tt, lu, fl, us), (hg, hq, hh), (rp, rd, ro, ru), (qp, qt, qd, qr, qs, qf), an, ck, ls_) p0 none, qf_add L (qp, qt, qd, qr, qs, qf) p0 (cf_told ((tg, kd, tt, lu, fl, us), (hg, hq, hh), (rp, rd, ro, ru), (qp, qt, qd, qr, qs, qf), an, ck, ls_) p0 none) (rp, rd, ro, ru), an, ck, ls_) from by simp only [cf_nextR, hfo])) hx hb hr hlocks hP hK hD hS (by rw [hfo]) dX4_next_71
  ·
    have hSW := ts_SW hS16 hW4
    have ho : o < S * Wy := (tf_find_lt hfo).2.1
    refine kt_i (y := nI o) (rfl) ?_
    refine lv_iconst (v := (-1)) hx hb dX4_next_52 (by decide) ?_
    refine lv_icmp_eq (tgt := 70) hx hb dX4_next_53 (by decide) (fun c_53 => absurd c_53 (nI_nm1 (by omega))) (fun c_53 => ?_)
    refine lv_aload_n hx hb dX4_next_56 rfl (lv_at hl 2 rfl) ?_
    refine lv_aload_n hx hb dX4_next_57 rfl (lv_at hl 2 rfl) ?_
    refine va_get (D := D) (ci := 4) (v := .ref (t0)) (C := RX4) (T := TX4) (N := 7) hx hb hts (fun w h => List.mem_cons_of_mem _ (hiX4 w h)) hown hK hP 0 rfl rfl 0 (by decide) kf18 (fun _ h9 => h9) rfl dX4_next_58 ?_
    refine va_get (D := D) (ci := 3) (v := .ref (t2)) (C := RX3) (T := TX3) (N := 9) hx hb hts (fun w h => List.mem_cons_of_mem _ (hiX3 w h)) hown hK hP 2 rfl rfl 3 (by decide) kf73 (fun _ h9 => h9) rfl dX4_next_61 ?_
    refine lv_iload_n hx hb dX4_next_64 rfl (lv_at hl 1 rfl) ?_
    refine kt_i (y := nI o) (by rw [hfo]; rfl) ?_
    refine ka_ild hx hb hK hP 4 0 rfl rfl (k := o) (rfl) (⟨ho, by omega⟩) dX4_next_65 ?_
    refine lv_iload_n hx hb dX4_next_66 rfl (lv_at hl 3 rfl) ?_
    refine kc_v (wc := [(b0, .inr (4, [.ref (t0), .ref (u0), .ref (r0), .ref (q0), .ref (b1), .int (ck), .int (ls_)])), (b1, .inl (cI, 7, .inl (an))), (t0, .inr (3, [.int (nI S), .int (nI Wy), .ref (t1), .ref (t2), .ref (t3), .int (fl), .int (nI sb), .ref (t4), .int (us)])), (t1, .inl (cI, S * Wy, .inl (tg))), (t2, .inl (cI, S * Wy, .inl (kd))), (t3, .inl (cI, S * Wy, .inl (tt))), (t4, .inl (cI, S * Wy, .inl (lu))), (u0, .inr (0, [.ref (u1), .ref (u2), .int (hh)])), (u1, .inl (cI, 64, .inl (hg))), (u2, .inl (cI, 64, .inl (hq))), (r0, .inr (2, [.int (nI L), .int (nI (rd)), .int (ro), .int (ru), .ref (r1)])), (r1, .inl (cI, L, .inl (rp))), (q0, .inr (1, [.int (nI ((qf_add L (qp, qt, qd, qr, qs, qf) (p0) (cf_told ((tg, kd, tt, lu, fl, us), (hg, hq, hh), (rp, rd, ro, ru), (qp, qt, qd, qr, qs, qf), an, ck, ls_) (p0) (tf_find S Wy sb (tg, kd, tt, lu, fl, us) (p0))) (rp, rd, ro, ru)).2.2.2.2.1)), .int (nI ((qf_add L (qp, qt, qd, qr, qs, qf) (p0) (cf_told ((tg, kd, tt, lu, fl, us), (hg, hq, hh), (rp, rd, ro, ru), (qp, qt, qd, qr, qs, qf), an, ck, ls_) (p0) (tf_find S Wy sb (tg, kd, tt, lu, fl, us) (p0))) (rp, rd, ro, ru)).2.2.2.2.2)), .int (nI L), .ref (q1), .ref (q2), .ref (q3), .ref (q4)])), (q1, .inl (cI, 16, .inl ((qf_add L (qp, qt, qd, qr, qs, qf) (p0) (cf_told ((tg, kd, tt, lu, fl, us), (hg, hq, hh), (rp, rd, ro, ru), (qp, qt, qd, qr, qs, qf), an, ck, ls_) (p0) (tf_find S Wy sb (tg, kd, tt, lu, fl, us) (p0))) (rp, rd, ro, ru)).1))), (q2, .inl (cI, 16, .inl ((qf_add L (qp, qt, qd, qr, qs, qf) (p0) (cf_told ((tg, kd, tt, lu, fl, us), (hg, hq, hh), (rp, rd, ro, ru), (qp, qt, qd, qr, qs, qf), an, ck, ls_) (p0) (tf_find S Wy sb (tg, kd, tt, lu, fl, us) (p0))) (rp, rd, ro, ru)).2.1))), (q3, .inl (cI, 16, .inl ((qf_add L (qp, qt, qd, qr, qs, qf) (p0) (cf_told ((tg, kd, tt, lu, fl, us), (hg, hq, hh), (rp, rd, ro, ru), (qp, qt, qd, qr, qs, qf), an, ck, ls_) (p0) (tf_find S Wy sb (tg, kd, tt, lu, fl, us) (p0))) (rp, rd, ro, ru)).2.2.1))), (q4, .inl (cI, 16 * L, .inl ((qf_add L (qp, qt, qd, qr, qs, qf) (p0) (cf_told ((tg, kd, tt, lu, fl, us), (hg, hq, hh), (rp, rd, ro, ru), (qp, qt, qd, qr, qs, qf), an, ck, ls_) (p0) (tf_find S Wy sb (tg, kd, tt, lu, fl, us) (p0))) (rp, rd, ro, ru)).2.2.2.1)))]) (wr := []) [0, 1, 2, 3, 4, 5, 6, 7, 8, 9, 10, 11, 12, 13, 14, 15, 16] [] rfl rfl (by decide) (by decide) hP hD hS hA (va_runV (As := [.int ((kd) (o)), .int (p0)]) (rest := []) ⟨hx, hb, hml, hown, hts⟩ (c_X4_moveStack l D cI cJ cZ _ _ _ _ _ _ _ _ _ _ _ _ _ _ _ _ _ _ _ _ _ _ _ _ _ _ _ _ _ _ _ _ _ _ _ _ _ _ _ _ _ _ _ _ _ _ hSs hS16 hsb hW hW4 hd hL hf hfull) (cwV 2 hts (kw_V kw_356 kw_358 kw_6 kw_26 kw_359) rfl rfl rfl (by decide +kernel) ⟨Nat.le_of_ble_eq_true rfl, Nat.le_of_ble_eq_true rfl⟩) ⟨kP_blind, va_recv hK (hP.sub (ws' := [(b0, .inr (4, [.ref (t0), .ref (u0), .ref (r0), .ref (q0), .ref (b1), .int (ck), .int (ls_)])), (b1, .inl (cI, 7, .inl (an))), (t0, .inr (3, [.int (nI S), .int (nI Wy), .ref (t1), .ref (t2), .ref (t3), .int (fl), .int (nI sb), .ref (t4), .int (us)])), (t1, .inl (cI, S * Wy, .inl (tg))), (t2, .inl (cI, S * Wy, .inl (kd))), (t3, .inl (cI, S * Wy, .inl (tt))), (t4, .inl (cI, S * Wy, .inl (lu))), (u0, .inr (0, [.ref (u1), .ref (u2), .int (hh)])), (u1, .inl (cI, 64, .inl (hg))), (u2, .inl (cI, 64, .inl (hq))), (r0, .inr (2, [.int (nI L), .int (nI (rd)), .int (ro), .int (ru), .ref (r1)])), (r1, .inl (cI, L, .inl (rp))), (q0, .inr (1, [.int (nI ((qf_add L (qp, qt, qd, qr, qs, qf) (p0) (cf_told ((tg, kd, tt, lu, fl, us), (hg, hq, hh), (rp, rd, ro, ru), (qp, qt, qd, qr, qs, qf), an, ck, ls_) (p0) (tf_find S Wy sb (tg, kd, tt, lu, fl, us) (p0))) (rp, rd, ro, ru)).2.2.2.2.1)), .int (nI ((qf_add L (qp, qt, qd, qr, qs, qf) (p0) (cf_told ((tg, kd, tt, lu, fl, us), (hg, hq, hh), (rp, rd, ro, ru), (qp, qt, qd, qr, qs, qf), an, ck, ls_) (p0) (tf_find S Wy sb (tg, kd, tt, lu, fl, us) (p0))) (rp, rd, ro, ru)).2.2.2.2.2)), .int (nI L), .ref (q1), .ref (q2), .ref (q3), .ref (q4)])), (q1, .inl (cI, 16, .inl ((qf_add L (qp, qt, qd, qr, qs, qf) (p0) (cf_told ((tg, kd, tt, lu, fl, us), (hg, hq, hh), (rp, rd, ro, ru), (qp, qt, qd, qr, qs, qf), an, ck, ls_) (p0) (tf_find S Wy sb (tg, kd, tt, lu, fl, us) (p0))) (rp, rd, ro, ru)).1))), (q2, .inl (cI, 16, .inl ((qf_add L (qp, qt, qd, qr, qs, qf) (p0) (cf_told ((tg, kd, tt, lu, fl, us), (hg, hq, hh), (rp, rd, ro, ru), (qp, qt, qd, qr, qs, qf), an, ck, ls_) (p0) (tf_find S Wy sb (tg, kd, tt, lu, fl, us) (p0))) (rp, rd, ro, ru)).2.1))), (q3, .inl (cI, 16, .inl ((qf_add L (qp, qt, qd, qr, qs, qf) (p0) (cf_told ((tg, kd, tt, lu, fl, us), (hg, hq, hh), (rp, rd, ro, ru), (qp, qt, qd, qr, qs, qf), an, ck, ls_) (p0) (tf_find S Wy sb (tg, kd, tt, lu, fl, us) (p0))) (rp, rd, ro, ru)).2.2.1))), (q4, .inl (cI, 16 * L, .inl ((qf_add L (qp, qt, qd, qr, qs, qf) (p0) (cf_told ((tg, kd, tt, lu, fl, us), (hg, hq, hh), (rp, rd, ro, ru), (qp, qt, qd, qr, qs, qf), an, ck, ls_) (p0) (tf_find S Wy sb (tg, kd, tt, lu, fl, us) (p0))) (rp, rd, ro, ru)).2.2.2.1)))]) [0, 1, 2, 3, 4, 5, 6, 7, 8, 9, 10, 11, 12, 13, 14, 15, 16] rfl) (ci := 4) (q0 := 0) rfl rfl, kP_at (hP.sub [0, 1, 2, 3, 4, 5, 6, 7, 8, 9, 10, 11, 12, 13, 14, 15, 16] rfl) hK (hD.sub [0, 1, 2, 3, 4, 5, 6, 7, 8, 9, 10, 11, 12, 13, 14, 15, 16] (by decide) rfl)⟩ rfl rfl hl.1 rfl (lv_room (Nat.le_of_ble_eq_true rfl)) dX4_next_67 ⟨Nat.zero_le _, Nat.zero_le _⟩) (fun H locs hP hD hS => ?_)
    have hP := hP.sub (ws' := [(b0, .inr (4, [.ref (t0), .ref (u0), .ref (r0), .ref (q0), .ref (b1), .int (ck), .int (ls_)])), (b1, .inl (cI, 7, .inl (an))), (t0, .inr (3, [.int (nI S), .int (nI Wy), .ref (t1), .ref (t2), .ref (t3), .int (fl), .int (nI sb), .ref (t4), .int (us)])), (t1, .inl (cI, S * Wy, .inl (tg))), (t2, .inl (cI, S * Wy, .inl (kd))), (t3, .inl (cI, S * Wy, .inl (tt))), (t4, .inl (cI, S * Wy, .inl (lu))), (u0, .inr (0, [.ref (u1), .ref (u2), .int (hh)])), (u1, .inl (cI, 64, .inl (hg))), (u2, .inl (cI, 64, .inl (hq))), (r0, .inr (2, [.int (nI L), .int (nI ((cf_move L (rp, rd, ro, ru) ((kd) (o)) (p0)).2.1)), .int ((cf_move L (rp, rd, ro, ru) ((kd) (o)) (p0)).2.2.1), .int ((cf_move L (rp, rd, ro, ru) ((kd) (o)) (p0)).2.2.2), .ref (r1)])), (r1, .inl (cI, L, .inl ((cf_move L (rp, rd, ro, ru) ((kd) (o)) (p0)).1))), (q0, .inr (1, [.int (nI ((qf_add L (qp, qt, qd, qr, qs, qf) (p0) (cf_told ((tg, kd, tt, lu, fl, us), (hg, hq, hh), (rp, rd, ro, ru), (qp, qt, qd, qr, qs, qf), an, ck, ls_) (p0) (tf_find S Wy sb (tg, kd, tt, lu, fl, us) (p0))) (rp, rd, ro, ru)).2.2.2.2.1)), .int (nI ((qf_add L (qp, qt, qd, qr, qs, qf) (p0) (cf_told ((tg, kd, tt, lu, fl, us), (hg, hq, hh), (rp, rd, ro, ru), (qp, qt, qd, qr, qs, qf), an, ck, ls_) (p0) (tf_find S Wy sb (tg, kd, tt, lu, fl, us) (p0))) (rp, rd, ro, ru)).2.2.2.2.2)), .int (nI L), .ref (q1), .ref (q2), .ref (q3), .ref (q4)])), (q1, .inl (cI, 16, .inl ((qf_add L (qp, qt, qd, qr, qs, qf) (p0) (cf_told ((tg, kd, tt, lu, fl, us), (hg, hq, hh), (rp, rd, ro, ru), (qp, qt, qd, qr, qs, qf), an, ck, ls_) (p0) (tf_find S Wy sb (tg, kd, tt, lu, fl, us) (p0))) (rp, rd, ro, ru)).1))), (q2, .inl (cI, 16, .inl ((qf_add L (qp, qt, qd, qr, qs, qf) (p0) (cf_told ((tg, kd, tt, lu, fl, us), (hg, hq, hh), (rp, rd, ro, ru), (qp, qt, qd, qr, qs, qf), an, ck, ls_) (p0) (tf_find S Wy sb (tg, kd, tt, lu, fl, us) (p0))) (rp, rd, ro, ru)).2.1))), (q3, .inl (cI, 16, .inl ((qf_add L (qp, qt, qd, qr, qs, qf) (p0) (cf_told ((tg, kd, tt, lu, fl, us), (hg, hq, hh), (rp, rd, ro, ru), (qp, qt, qd, qr, qs, qf), an, ck, ls_) (p0) (tf_find S Wy sb (tg, kd, tt, lu, fl, us) (p0))) (rp, rd, ro, ru)).2.2.1))), (q4, .inl (cI, 16 * L, .inl ((qf_add L (qp, qt, qd, qr, qs, qf) (p0) (cf_told ((tg, kd, tt, lu, fl, us), (hg, hq, hh), (rp, rd, ro, ru), (qp, qt, qd, qr, qs, qf), an, ck, ls_) (p0) (tf_find S Wy sb (tg, kd, tt, lu, fl, us) (p0))) (rp, rd, ro, ru)).2.2.2.1)))]) [0, 1, 2, 3, 4, 5, 6, 7, 8, 9, 10, 11, 12, 13, 14, 15, 16] rfl
    have hD := hD.sub (ws' := [(b0, .inr (4, [.ref (t0), .ref (u0), .ref (r0), .ref (q0), .ref (b1), .int (ck), .int (ls_)])), (b1, .inl (cI, 7, .inl (an))), (t0, .inr (3, [.int (nI S), .int (nI Wy), .ref (t1), .ref (t2), .ref (t3), .int (fl), .int (nI sb), .ref (t4), .int (us)])), (t1, .inl (cI, S * Wy, .inl (tg))), (t2, .inl (cI, S * Wy, .inl (kd))), (t3, .inl (cI, S * Wy, .inl (tt))), (t4, .inl (cI, S * Wy, .inl (lu))), (u0, .inr (0, [.ref (u1), .ref (u2), .int (hh)])), (u1, .inl (cI, 64, .inl (hg))), (u2, .inl (cI, 64, .inl (hq))), (r0, .inr (2, [.int (nI L), .int (nI ((cf_move L (rp, rd, ro, ru) ((kd) (o)) (p0)).2.1)), .int ((cf_move L (rp, rd, ro, ru) ((kd) (o)) (p0)).2.2.1), .int ((cf_move L (rp, rd, ro, ru) ((kd) (o)) (p0)).2.2.2), .ref (r1)])), (r1, .inl (cI, L, .inl ((cf_move L (rp, rd, ro, ru) ((kd) (o)) (p0)).1))), (q0, .inr (1, [.int (nI ((qf_add L (qp, qt, qd, qr, qs, qf) (p0) (cf_told ((tg, kd, tt, lu, fl, us), (hg, hq, hh), (rp, rd, ro, ru), (qp, qt, qd, qr, qs, qf), an, ck, ls_) (p0) (tf_find S Wy sb (tg, kd, tt, lu, fl, us) (p0))) (rp, rd, ro, ru)).2.2.2.2.1)), .int (nI ((qf_add L (qp, qt, qd, qr, qs, qf) (p0) (cf_told ((tg, kd, tt, lu, fl, us), (hg, hq, hh), (rp, rd, ro, ru), (qp, qt, qd, qr, qs, qf), an, ck, ls_) (p0) (tf_find S Wy sb (tg, kd, tt, lu, fl, us) (p0))) (rp, rd, ro, ru)).2.2.2.2.2)), .int (nI L), .ref (q1), .ref (q2), .ref (q3), .ref (q4)])), (q1, .inl (cI, 16, .inl ((qf_add L (qp, qt, qd, qr, qs, qf) (p0) (cf_told ((tg, kd, tt, lu, fl, us), (hg, hq, hh), (rp, rd, ro, ru), (qp, qt, qd, qr, qs, qf), an, ck, ls_) (p0) (tf_find S Wy sb (tg, kd, tt, lu, fl, us) (p0))) (rp, rd, ro, ru)).1))), (q2, .inl (cI, 16, .inl ((qf_add L (qp, qt, qd, qr, qs, qf) (p0) (cf_told ((tg, kd, tt, lu, fl, us), (hg, hq, hh), (rp, rd, ro, ru), (qp, qt, qd, qr, qs, qf), an, ck, ls_) (p0) (tf_find S Wy sb (tg, kd, tt, lu, fl, us) (p0))) (rp, rd, ro, ru)).2.1))), (q3, .inl (cI, 16, .inl ((qf_add L (qp, qt, qd, qr, qs, qf) (p0) (cf_told ((tg, kd, tt, lu, fl, us), (hg, hq, hh), (rp, rd, ro, ru), (qp, qt, qd, qr, qs, qf), an, ck, ls_) (p0) (tf_find S Wy sb (tg, kd, tt, lu, fl, us) (p0))) (rp, rd, ro, ru)).2.2.1))), (q4, .inl (cI, 16 * L, .inl ((qf_add L (qp, qt, qd, qr, qs, qf) (p0) (cf_told ((tg, kd, tt, lu, fl, us), (hg, hq, hh), (rp, rd, ro, ru), (qp, qt, qd, qr, qs, qf), an, ck, ls_) (p0) (tf_find S Wy sb (tg, kd, tt, lu, fl, us) (p0))) (rp, rd, ro, ru)).2.2.2.1)))]) [0, 1, 2, 3, 4, 5, 6, 7, 8, 9, 10, 11, 12, 13, 14, 15, 16] (by decide) rfl
    refine lv_iload_n hx hb dX4_next_70 rfl (lv_at hl 0 rfl) ?_
    exact kr_i (congrArg (wTR b0 b1 t0 t1 t2 t3 t4 u0 u1 u2 r0 r1 q0 q1 q2 q3 q4 cI S Wy sb L ) (show (((tg, kd, tt, lu, fl, us), (hg, hq, hh), ((cf_move L (rp, rd, ro, ru) ((kd) (o)) (p0)).1, (cf_move L (rp, rd, ro, ru) ((kd) (o)) (p0)).2.1, (cf_move L (rp, rd, ro, ru) ((kd) (o)) (p0)).2.2.1, (cf_move L (rp, rd, ro, ru) ((kd) (o)) (p0)).2.2.2), ((qf_add L (qp, qt, qd, qr, qs, qf) (p0) (cf_told ((tg, kd, tt, lu, fl, us), (hg, hq, hh), (rp, rd, ro, ru), (qp, qt, qd, qr, qs, qf), an, ck, ls_) (p0) (tf_find S Wy sb (tg, kd, tt, lu, fl, us) (p0))) (rp, rd, ro, ru)).1, (qf_add L (qp, qt, qd, qr, qs, qf) (p0) (cf_told ((tg, kd, tt, lu, fl, us), (hg, hq, hh), (rp, rd, ro, ru), (qp, qt, qd, qr, qs, qf), an, ck, ls_) (p0) (tf_find S Wy sb (tg, kd, tt, lu, fl, us) (p0))) (rp, rd, ro, ru)).2.1, (qf_add L (qp, qt, qd, qr, qs, qf) (p0) (cf_told ((tg, kd, tt, lu, fl, us), (hg, hq, hh), (rp, rd, ro, ru), (qp, qt, qd, qr, qs, qf), an, ck, ls_) (p0) (tf_find S Wy sb (tg, kd, tt, lu, fl, us) (p0))) (rp, rd, ro, ru)).2.2.1, (qf_add L (qp, qt, qd, qr, qs, qf) (p0) (cf_told ((tg, kd, tt, lu, fl, us), (hg, hq, hh), (rp, rd, ro, ru), (qp, qt, qd, qr, qs, qf), an, ck, ls_) (p0) (tf_find S Wy sb (tg, kd, tt, lu, fl, us) (p0))) (rp, rd, ro, ru)).2.2.2.1, (qf_add L (qp, qt, qd, qr, qs, qf) (p0) (cf_told ((tg, kd, tt, lu, fl, us), (hg, hq, hh), (rp, rd, ro, ru), (qp, qt, qd, qr, qs, qf), an, ck, ls_) (p0) (tf_find S Wy sb (tg, kd, tt, lu, fl, us) (p0))) (rp, rd, ro, ru)).2.2.2.2.1, (qf_add L (qp, qt, qd, qr, qs, qf) (p0) (cf_told ((tg, kd, tt, lu, fl, us), (hg, hq, hh), (rp, rd, ro, ru), (qp, qt, qd, qr, qs, qf), an, ck, ls_) (p0) (tf_find S Wy sb (tg, kd, tt, lu, fl, us) (p0))) (rp, rd, ro, ru)).2.2.2.2.2), an, ck, ls_) : Cs) = ((tg, kd, tt, lu, fl, us), (hg, hq, hh), cf_nextR L ((tg, kd, tt, lu, fl, us), (hg, hq, hh), (rp, rd, ro, ru), (qp, qt, qd, qr, qs, qf), an, ck, ls_) p0 (some o), qf_add L (qp, qt, qd, qr, qs, qf) p0 (cf_told ((tg, kd, tt, lu, fl, us), (hg, hq, hh), (rp, rd, ro, ru), (qp, qt, qd, qr, qs, qf), an, ck, ls_) p0 (some o)) (rp, rd, ro, ru), an, ck, ls_) from by simp only [cf_nextR, hfo])) hx hb hr hlocks hP hK hD hS (by rw [hfo]) dX4_next_71

set_option maxHeartbeats 4000000 in
set_option maxRecDepth 100000 in
/-- flush -/
theorem c_X4_flush (l : Launch) (D : va_G) (cI cJ cZ : ClassId) (sz : Nat) (b0 b1 t0 t1 t2 t3 t4 u0 u1 u2 r0 r1 q0 q1 q2 q3 q4 : Nat) (S Wy sb L : Nat) (tg kd tt lu : Fn) (fl us : Int32) (hg hq : Fn) (hh : Int32) (rp : Fn) (rd : Nat) (ro ru : Int32) (qp qt qd qr : Fn) (qs qf : Nat) (an : Fn) (ck ls_ : Int32) (d0 : Nat) (hd0 : qd qf = nI d0) (hdL : d0 ≤ L) (hSs : S = 0 ∨ S = 2 ^ sb) (hS16 : S ≤ 16) (hsb : sb ≤ 4) (hW : 0 < Wy) (hW4 : Wy ≤ 4) (hd : rd ≤ L) (hL : L < 2 ^ 10) (hf : qf < 16) (hs : qs ≤ 16) : KI l yX4_flush wsX4_flush ({ frames := 3, cells := 0, slots := 0, locals := 62 } : Room) D (kTy cI cJ cZ) [.ref (b0)] [(b0, .inr (4, [.ref (t0), .ref (u0), .ref (r0), .ref (q0), .ref (b1), .int (ck), .int (ls_)])), (b1, .inl (cI, 7, .inl (an))), (t0, .inr (3, [.int (nI S), .int (nI Wy), .ref (t1), .ref (t2), .ref (t3), .int (fl), .int (nI sb), .ref (t4), .int (us)])), (t1, .inl (cI, S * Wy, .inl (tg))), (t2, .inl (cI, S * Wy, .inl (kd))), (t3, .inl (cI, S * Wy, .inl (tt))), (t4, .inl (cI, S * Wy, .inl (lu))), (u0, .inr (0, [.ref (u1), .ref (u2), .int (hh)])), (u1, .inl (cI, 64, .inl (hg))), (u2, .inl (cI, 64, .inl (hq))), (r0, .inr (2, [.int (nI L), .int (nI (rd)), .int (ro), .int (ru), .ref (r1)])), (r1, .inl (cI, L, .inl (rp))), (q0, .inr (1, [.int (nI (qs)), .int (nI (qf)), .int (nI L), .ref (q1), .ref (q2), .ref (q3), .ref (q4)])), (q1, .inl (cI, 16, .inl (qp))), (q2, .inl (cI, 16, .inl (qt))), (q3, .inl (cI, 16, .inl (qd))), (q4, .inl (cI, 16 * L, .inl (qr)))] sz (wTR b0 b1 t0 t1 t2 t3 t4 u0 u1 u2 r0 r1 q0 q1 q2 q3 q4 cI S Wy sb L (cf_flush L ((tg, kd, tt, lu, fl, us), (hg, hq, hh), (rp, rd, ro, ru), (qp, qt, qd, qr, qs, qf), an, ck, ls_) d0)) (nI qs) 0 0 := by
  refine Met.ofW (cc := cX4_flush) (maxL := 2) (ret := (some .int)) (by decide) rfl ?_
  intro p e s m args below meth c s₁ B hml hv
  obtain ⟨rfl, hsz, hP, hK, hD0⟩ := hv
  have hx := B.exec
  have hb := B.bytes
  have hr := B.returns
  have hts := atoms_spec (ws := wsX4_flush) B.pre
  have hown : s.vm.findClass RX4 = some m.cls := findClass_of_methodNamed B.named
  have hlocks := B.notSynchronized
  have kf123 := hts (.fieldLink RX4 123 "TargetRows" "lost" "I") (List.mem_cons_of_mem _ kw_179)
  have kf36 := hts (.fieldLink RX4 36 "TargetRows" "stack" "LTargetRows$Returns;") (List.mem_cons_of_mem _ kw_175)
  have kf43 := hts (.fieldLink RX4 43 "TargetRows" "queue" "LTargetRows$Queue;") (List.mem_cons_of_mem _ kw_176)
  have kf58 := hts (.fieldLink RX4 58 "TargetRows$Queue" "size" "I") (List.mem_cons_of_mem _ kw_151)
  subst hsz
  have hD := hD0.self (sz := s.heap.size)
  generalize hAe : va_A [(b0, .inr (4, [.ref (t0), .ref (u0), .ref (r0), .ref (q0), .ref (b1), .int (ck), .int (ls_)])), (b1, .inl (cI, 7, .inl (an))), (t0, .inr (3, [.int (nI S), .int (nI Wy), .ref (t1), .ref (t2), .ref (t3), .int (fl), .int (nI sb), .ref (t4), .int (us)])), (t1, .inl (cI, S * Wy, .inl (tg))), (t2, .inl (cI, S * Wy, .inl (kd))), (t3, .inl (cI, S * Wy, .inl (tt))), (t4, .inl (cI, S * Wy, .inl (lu))), (u0, .inr (0, [.ref (u1), .ref (u2), .int (hh)])), (u1, .inl (cI, 64, .inl (hg))), (u2, .inl (cI, 64, .inl (hq))), (r0, .inr (2, [.int (nI L), .int (nI (rd)), .int (ro), .int (ru), .ref (r1)])), (r1, .inl (cI, L, .inl (rp))), (q0, .inr (1, [.int (nI (qs)), .int (nI (qf)), .int (nI L), .ref (q1), .ref (q2), .ref (q3), .ref (q4)])), (q1, .inl (cI, 16, .inl (qp))), (q2, .inl (cI, 16, .inl (qt))), (q3, .inl (cI, 16, .inl (qd))), (q4, .inl (cI, 16 * L, .inl (qr)))] s.heap.size = A at hD ⊢
  have hA : ∀ q : Nat, s.heap.size ≤ q → A q := fun q h => by rw [← hAe]; exact Or.inr h
  have hS : va_S A s.heap s.heap [] := va_S.rf
  have hP : va_P D vwCl [(b0, .inr (4, [.ref (t0), .ref (u0), .ref (r0), .ref (q0), .ref (b1), .int (ck), .int (ls_)])), (b1, .inl (cI, 7, .inl (an))), (t0, .inr (3, [.int (nI S), .int (nI Wy), .ref (t1), .ref (t2), .ref (t3), .int (fl), .int (nI sb), .ref (t4), .int (us)])), (t1, .inl (cI, S * Wy, .inl (tg))), (t2, .inl (cI, S * Wy, .inl (kd))), (t3, .inl (cI, S * Wy, .inl (tt))), (t4, .inl (cI, S * Wy, .inl (lu))), (u0, .inr (0, [.ref (u1), .ref (u2), .int (hh)])), (u1, .inl (cI, 64, .inl (hg))), (u2, .inl (cI, 64, .inl (hq))), (r0, .inr (2, [.int (nI L), .int (nI (rd)), .int (ro), .int (ru), .ref (r1)])), (r1, .inl (cI, L, .inl (rp))), (q0, .inr (1, [.int (nI (qs)), .int (nI (qf)), .int (nI L), .ref (q1), .ref (q2), .ref (q3), .ref (q4)])), (q1, .inl (cI, 16, .inl (qp))), (q2, .inl (cI, 16, .inl (qt))), (q3, .inl (cI, 16, .inl (qd))), (q4, .inl (cI, 16 * L, .inl (qr)))] s.heap := hP
  have hD : va_D A [(b0, .inr (4, [.ref (t0), .ref (u0), .ref (r0), .ref (q0), .ref (b1), .int (ck), .int (ls_)])), (b1, .inl (cI, 7, .inl (an))), (t0, .inr (3, [.int (nI S), .int (nI Wy), .ref (t1), .ref (t2), .ref (t3), .int (fl), .int (nI sb), .ref (t4), .int (us)])), (t1, .inl (cI, S * Wy, .inl (tg))), (t2, .inl (cI, S * Wy, .inl (kd))), (t3, .inl (cI, S * Wy, .inl (tt))), (t4, .inl (cI, S * Wy, .inl (lu))), (u0, .inr (0, [.ref (u1), .ref (u2), .int (hh)])), (u1, .inl (cI, 64, .inl (hg))), (u2, .inl (cI, 64, .inl (hq))), (r0, .inr (2, [.int (nI L), .int (nI (rd)), .int (ro), .int (ru), .ref (r1)])), (r1, .inl (cI, L, .inl (rp))), (q0, .inr (1, [.int (nI (qs)), .int (nI (qf)), .int (nI L), .ref (q1), .ref (q2), .ref (q3), .ref (q4)])), (q1, .inl (cI, 16, .inl (qp))), (q2, .inl (cI, 16, .inl (qt))), (q3, .inl (cI, 16, .inl (qd))), (q4, .inl (cI, 16 * L, .inl (qr)))] := hD
  have hl := lv_entry ([.ref (b0)]) (n := 2) (Nat.le_of_ble_eq_true rfl)
  rw [lg_entry_eq]
  generalize (lg_sl ([.ref (b0)]) ++ List.replicate (2 - (lg_sl ([.ref (b0)])).length) Slot.unset).toArray = ls at hl ⊢
  have hl : lv_has ls 2 [(0, .ref (b0))] := hl
  refine lv_aload_n hx hb dX4_flush_0 rfl (lv_at hl 0 rfl) ?_
  refine va_get (D := D) (ci := 4) (v := .ref (q0)) (C := RX4) (T := TX4) (N := 7) hx hb hts (fun w h => List.mem_cons_of_mem _ (hiX4 w h)) hown hK hP 0 rfl rfl 3 (by decide) kf43 (fun _ h9 => h9) rfl dX4_flush_1 ?_
  refine va_get (D := D) (ci := 1) (v := .int (nI (qs))) (C := RX1) (T := TX1) (N := 7) hx hb hts (fun w h => List.mem_cons_of_mem _ (hiX1 w h)) hown hK hP 12 rfl rfl 0 (by decide) kf58 (fun _ h9 => h9) rfl dX4_flush_4 ?_
  refine lv_istore_n (lv' := [(1, .int (nI (qs))), (0, .ref (b0))]) hx hb dX4_flush_7 rfl hl (by decide) rfl (fun ls hl => ?_)
  refine lv_iload_n hx hb dX4_flush_8 rfl (lv_at hl 0 rfl) ?_
  refine lv_if_le (tgt := 40) hx hb dX4_flush_9 (by decide) (fun c_9 => ?_) (fun c_9 => ?_)
  ·
    have hq0 : qs = 0 := by
      rcases Nat.eq_zero_or_pos qs with q | q
      · exact q
      · exact absurd c_9 (nI_nle q (by omega))
    refine lv_iload_n hx hb dX4_flush_40 rfl (lv_at hl 0 rfl) ?_
    exact kr_i (congrArg (wTR b0 b1 t0 t1 t2 t3 t4 u0 u1 u2 r0 r1 q0 q1 q2 q3 q4 cI S Wy sb L ) (show (((tg, kd, tt, lu, fl, us), (hg, hq, hh), (rp, rd, ro, ru), (qp, qt, qd, qr, qs, qf), an, ck, ls_) : Cs) = cf_flush L ((tg, kd, tt, lu, fl, us), (hg, hq, hh), (rp, rd, ro, ru), (qp, qt, qd, qr, qs, qf), an, ck, ls_) d0 from by simp only [cf_flush, cf_back, qf_clear, if_pos hq0])) hx hb hr hlocks hP hK hD hS (rfl) dX4_flush_41
  ·
    have hq0 : qs ≠ 0 := fun q => c_9 (by rw [q]; decide)
    refine lv_aload_n hx hb dX4_flush_12 rfl (lv_at hl 1 rfl) ?_
    refine va_get (D := D) (ci := 4) (v := .ref (q0)) (C := RX4) (T := TX4) (N := 7) hx hb hts (fun w h => List.mem_cons_of_mem _ (hiX4 w h)) hown hK hP 0 rfl rfl 3 (by decide) kf43 (fun _ h9 => h9) rfl dX4_flush_13 ?_
    refine lv_aload_n hx hb dX4_flush_16 rfl (lv_at hl 1 rfl) ?_
    refine va_get (D := D) (ci := 4) (v := .ref (r0)) (C := RX4) (T := TX4) (N := 7) hx hb hts (fun w h => List.mem_cons_of_mem _ (hiX4 w h)) hown hK hP 0 rfl rfl 2 (by decide) kf36 (fun _ h9 => h9) rfl dX4_flush_17 ?_
    refine kc_v (wc := [(q0, .inr (1, [.int (nI (qs)), .int (nI (qf)), .int (nI L), .ref (q1), .ref (q2), .ref (q3), .ref (q4)])), (q1, .inl (cI, 16, .inl (qp))), (q2, .inl (cI, 16, .inl (qt))), (q3, .inl (cI, 16, .inl (qd))), (q4, .inl (cI, 16 * L, .inl (qr))), (r0, .inr (2, [.int (nI L), .int (nI (rd)), .int (ro), .int (ru), .ref (r1)])), (r1, .inl (cI, L, .inl (rp)))]) (wr := [(b0, .inr (4, [.ref (t0), .ref (u0), .ref (r0), .ref (q0), .ref (b1), .int (ck), .int (ls_)])), (b1, .inl (cI, 7, .inl (an))), (t0, .inr (3, [.int (nI S), .int (nI Wy), .ref (t1), .ref (t2), .ref (t3), .int (fl), .int (nI sb), .ref (t4), .int (us)])), (t1, .inl (cI, S * Wy, .inl (tg))), (t2, .inl (cI, S * Wy, .inl (kd))), (t3, .inl (cI, S * Wy, .inl (tt))), (t4, .inl (cI, S * Wy, .inl (lu))), (u0, .inr (0, [.ref (u1), .ref (u2), .int (hh)])), (u1, .inl (cI, 64, .inl (hg))), (u2, .inl (cI, 64, .inl (hq)))]) [12, 13, 14, 15, 16, 10, 11] [0, 1, 2, 3, 4, 5, 6, 7, 8, 9] rfl rfl (by decide) (by decide) hP hD hS hA (va_runV (As := [.ref (r0)]) (rest := []) ⟨hx, hb, hml, hown, hts⟩ (c_X1_giveBack l D cI cJ cZ _ _ _ _ _ _ _ _ _ _ _ _ _ _ _ _ _ _ _ d0 hd0 hdL hf hL) (cwV 1 hts (kw_V kw_241 kw_242 kw_243 kw_32 kw_244) rfl rfl rfl (by decide +kernel) ⟨Nat.le_of_ble_eq_true rfl, Nat.le_of_ble_eq_true rfl⟩) ⟨kP_blind, va_recv hK (hP.sub (ws' := [(q0, .inr (1, [.int (nI (qs)), .int (nI (qf)), .int (nI L), .ref (q1), .ref (q2), .ref (q3), .ref (q4)])), (q1, .inl (cI, 16, .inl (qp))), (q2, .inl (cI, 16, .inl (qt))), (q3, .inl (cI, 16, .inl (qd))), (q4, .inl (cI, 16 * L, .inl (qr))), (r0, .inr (2, [.int (nI L), .int (nI (rd)), .int (ro), .int (ru), .ref (r1)])), (r1, .inl (cI, L, .inl (rp)))]) [12, 13, 14, 15, 16, 10, 11] rfl) (ci := 1) (q0 := 0) rfl rfl, kP_at (hP.sub [12, 13, 14, 15, 16, 10, 11] rfl) hK (hD.sub [12, 13, 14, 15, 16, 10, 11] (by decide) rfl)⟩ rfl rfl hl.1 rfl (lv_room (Nat.le_of_ble_eq_true rfl)) dX4_flush_20 ⟨Nat.zero_le _, Nat.zero_le _⟩) (fun H locs hP hD hS => ?_)
    have hP := hP.sub (ws' := [(b0, .inr (4, [.ref (t0), .ref (u0), .ref (r0), .ref (q0), .ref (b1), .int (ck), .int (ls_)])), (b1, .inl (cI, 7, .inl (an))), (t0, .inr (3, [.int (nI S), .int (nI Wy), .ref (t1), .ref (t2), .ref (t3), .int (fl), .int (nI sb), .ref (t4), .int (us)])), (t1, .inl (cI, S * Wy, .inl (tg))), (t2, .inl (cI, S * Wy, .inl (kd))), (t3, .inl (cI, S * Wy, .inl (tt))), (t4, .inl (cI, S * Wy, .inl (lu))), (u0, .inr (0, [.ref (u1), .ref (u2), .int (hh)])), (u1, .inl (cI, 64, .inl (hg))), (u2, .inl (cI, 64, .inl (hq))), (r0, .inr (2, [.int (nI L), .int (nI (d0)), .int (ro), .int (ru), .ref (r1)])), (r1, .inl (cI, L, .inl (va_cpy (qr) (rp) (qf * L) 0 (d0)))), (q0, .inr (1, [.int (nI (qs)), .int (nI (qf)), .int (nI L), .ref (q1), .ref (q2), .ref (q3), .ref (q4)])), (q1, .inl (cI, 16, .inl (qp))), (q2, .inl (cI, 16, .inl (qt))), (q3, .inl (cI, 16, .inl (qd))), (q4, .inl (cI, 16 * L, .inl (qr)))]) [0, 1, 2, 3, 4, 5, 6, 7, 8, 9, 15, 16, 10, 11, 12, 13, 14] rfl
    have hD := hD.sub (ws' := [(b0, .inr (4, [.ref (t0), .ref (u0), .ref (r0), .ref (q0), .ref (b1), .int (ck), .int (ls_)])), (b1, .inl (cI, 7, .inl (an))), (t0, .inr (3, [.int (nI S), .int (nI Wy), .ref (t1), .ref (t2), .ref (t3), .int (fl), .int (nI sb), .ref (t4), .int (us)])), (t1, .inl (cI, S * Wy, .inl (tg))), (t2, .inl (cI, S * Wy, .inl (kd))), (t3, .inl (cI, S * Wy, .inl (tt))), (t4, .inl (cI, S * Wy, .inl (lu))), (u0, .inr (0, [.ref (u1), .ref (u2), .int (hh)])), (u1, .inl (cI, 64, .inl (hg))), (u2, .inl (cI, 64, .inl (hq))), (r0, .inr (2, [.int (nI L), .int (nI (d0)), .int (ro), .int (ru), .ref (r1)])), (r1, .inl (cI, L, .inl (va_cpy (qr) (rp) (qf * L) 0 (d0)))), (q0, .inr (1, [.int (nI (qs)), .int (nI (qf)), .int (nI L), .ref (q1), .ref (q2), .ref (q3), .ref (q4)])), (q1, .inl (cI, 16, .inl (qp))), (q2, .inl (cI, 16, .inl (qt))), (q3, .inl (cI, 16, .inl (qd))), (q4, .inl (cI, 16 * L, .inl (qr)))]) [0, 1, 2, 3, 4, 5, 6, 7, 8, 9, 15, 16, 10, 11, 12, 13, 14] (by decide) rfl
    refine lv_aload_n hx hb dX4_flush_23 rfl (lv_at hl 1 rfl) ?_
    refine va_get (D := D) (ci := 4) (v := .ref (q0)) (C := RX4) (T := TX4) (N := 7) hx hb hts (fun w h => List.mem_cons_of_mem _ (hiX4 w h)) hown hK hP 0 rfl rfl 3 (by decide) kf43 (fun _ h9 => h9) rfl dX4_flush_24 ?_
    refine kc_v (wc := [(q0, .inr (1, [.int (nI (qs)), .int (nI (qf)), .int (nI L), .ref (q1), .ref (q2), .ref (q3), .ref (q4)])), (q1, .inl (cI, 16, .inl (qp))), (q2, .inl (cI, 16, .inl (qt))), (q3, .inl (cI, 16, .inl (qd))), (q4, .inl (cI, 16 * L, .inl (qr)))]) (wr := [(b0, .inr (4, [.ref (t0), .ref (u0), .ref (r0), .ref (q0), .ref (b1), .int (ck), .int (ls_)])), (b1, .inl (cI, 7, .inl (an))), (t0, .inr (3, [.int (nI S), .int (nI Wy), .ref (t1), .ref (t2), .ref (t3), .int (fl), .int (nI sb), .ref (t4), .int (us)])), (t1, .inl (cI, S * Wy, .inl (tg))), (t2, .inl (cI, S * Wy, .inl (kd))), (t3, .inl (cI, S * Wy, .inl (tt))), (t4, .inl (cI, S * Wy, .inl (lu))), (u0, .inr (0, [.ref (u1), .ref (u2), .int (hh)])), (u1, .inl (cI, 64, .inl (hg))), (u2, .inl (cI, 64, .inl (hq))), (r0, .inr (2, [.int (nI L), .int (nI (d0)), .int (ro), .int (ru), .ref (r1)])), (r1, .inl (cI, L, .inl (va_cpy (qr) (rp) (qf * L) 0 (d0))))]) [12, 13, 14, 15, 16] [0, 1, 2, 3, 4, 5, 6, 7, 8, 9, 10, 11] rfl rfl (by decide) (by decide) hP hD hS hA (va_runV (As := []) (rest := []) ⟨hx, hb, hml, hown, hts⟩ (c_X1_clear l D cI cJ cZ _ _ _ _ _ _ _ _ _ _ _ _ _) (cwV 0 hts (kw_V kw_252 kw_253 kw_254 kw_32 kw_255) rfl rfl rfl (by decide +kernel) ⟨Nat.le_of_ble_eq_true rfl, Nat.le_of_ble_eq_true rfl⟩) ⟨kP_blind, va_recv hK (hP.sub (ws' := [(q0, .inr (1, [.int (nI (qs)), .int (nI (qf)), .int (nI L), .ref (q1), .ref (q2), .ref (q3), .ref (q4)])), (q1, .inl (cI, 16, .inl (qp))), (q2, .inl (cI, 16, .inl (qt))), (q3, .inl (cI, 16, .inl (qd))), (q4, .inl (cI, 16 * L, .inl (qr)))]) [12, 13, 14, 15, 16] rfl) (ci := 1) (q0 := 0) rfl rfl, kP_at (hP.sub [12, 13, 14, 15, 16] rfl) hK (hD.sub [12, 13, 14, 15, 16] (by decide) rfl)⟩ rfl rfl hl.1 rfl (lv_room (Nat.le_of_ble_eq_true rfl)) dX4_flush_27 ⟨Nat.zero_le _, Nat.zero_le _⟩) (fun H locs hP hD hS => ?_)
    have hP := hP.sub (ws' := [(b0, .inr (4, [.ref (t0), .ref (u0), .ref (r0), .ref (q0), .ref (b1), .int (ck), .int (ls_)])), (b1, .inl (cI, 7, .inl (an))), (t0, .inr (3, [.int (nI S), .int (nI Wy), .ref (t1), .ref (t2), .ref (t3), .int (fl), .int (nI sb), .ref (t4), .int (us)])), (t1, .inl (cI, S * Wy, .inl (tg))), (t2, .inl (cI, S * Wy, .inl (kd))), (t3, .inl (cI, S * Wy, .inl (tt))), (t4, .inl (cI, S * Wy, .inl (lu))), (u0, .inr (0, [.ref (u1), .ref (u2), .int (hh)])), (u1, .inl (cI, 64, .inl (hg))), (u2, .inl (cI, 64, .inl (hq))), (r0, .inr (2, [.int (nI L), .int (nI (d0)), .int (ro), .int (ru), .ref (r1)])), (r1, .inl (cI, L, .inl (va_cpy (qr) (rp) (qf * L) 0 (d0)))), (q0, .inr (1, [.int (nI ((qf_clear (qp, qt, qd, qr, qs, qf)).2.2.2.2.1)), .int (nI ((qf_clear (qp, qt, qd, qr, qs, qf)).2.2.2.2.2)), .int (nI L), .ref (q1), .ref (q2), .ref (q3), .ref (q4)])), (q1, .inl (cI, 16, .inl ((qf_clear (qp, qt, qd, qr, qs, qf)).1))), (q2, .inl (cI, 16, .inl ((qf_clear (qp, qt, qd, qr, qs, qf)).2.1))), (q3, .inl (cI, 16, .inl ((qf_clear (qp, qt, qd, qr, qs, qf)).2.2.1))), (q4, .inl (cI, 16 * L, .inl ((qf_clear (qp, qt, qd, qr, qs, qf)).2.2.2.1)))]) [0, 1, 2, 3, 4, 5, 6, 7, 8, 9, 10, 11, 12, 13, 14, 15, 16] rfl
    have hD := hD.sub (ws' := [(b0, .inr (4, [.ref (t0), .ref (u0), .ref (r0), .ref (q0), .ref (b1), .int (ck), .int (ls_)])), (b1, .inl (cI, 7, .inl (an))), (t0, .inr (3, [.int (nI S), .int (nI Wy), .ref (t1), .ref (t2), .ref (t3), .int (fl), .int (nI sb), .ref (t4), .int (us)])), (t1, .inl (cI, S * Wy, .inl (tg))), (t2, .inl (cI, S * Wy, .inl (kd))), (t3, .inl (cI, S * Wy, .inl (tt))), (t4, .inl (cI, S * Wy, .inl (lu))), (u0, .inr (0, [.ref (u1), .ref (u2), .int (hh)])), (u1, .inl (cI, 64, .inl (hg))), (u2, .inl (cI, 64, .inl (hq))), (r0, .inr (2, [.int (nI L), .int (nI (d0)), .int (ro), .int (ru), .ref (r1)])), (r1, .inl (cI, L, .inl (va_cpy (qr) (rp) (qf * L) 0 (d0)))), (q0, .inr (1, [.int (nI ((qf_clear (qp, qt, qd, qr, qs, qf)).2.2.2.2.1)), .int (nI ((qf_clear (qp, qt, qd, qr, qs, qf)).2.2.2.2.2)), .int (nI L), .ref (q1), .ref (q2), .ref (q3), .ref (q4)])), (q1, .inl (cI, 16, .inl ((qf_clear (qp, qt, qd, qr, qs, qf)).1))), (q2, .inl (cI, 16, .inl ((qf_clear (qp, qt, qd, qr, qs, qf)).2.1))), (q3, .inl (cI, 16, .inl ((qf_clear (qp, qt, qd, qr, qs, qf)).2.2.1))), (q4, .inl (cI, 16 * L, .inl ((qf_clear (qp, qt, qd, qr, qs, qf)).2.2.2.1)))]) [0, 1, 2, 3, 4, 5, 6, 7, 8, 9, 10, 11, 12, 13, 14, 15, 16] (by decide) rfl
    refine lv_aload_n hx hb dX4_flush_30 rfl (lv_at hl 1 rfl) ?_
    refine lv_dup hx hb dX4_flush_31 rfl ?_
    refine va_get (D := D) (ci := 4) (v := .int (ls_)) (C := RX4) (T := TX4) (N := 7) hx hb hts (fun w h => List.mem_cons_of_mem _ (hiX4 w h)) hown hK hP 0 rfl rfl 6 (by decide) kf123 (fun _ h9 => h9) rfl dX4_flush_32 ?_
    refine lv_iload_n hx hb dX4_flush_35 rfl (lv_at hl 0 rfl) ?_
    refine lv_iadd hx hb dX4_flush_36 ?_
    refine va_put (D := D) (ci := 4) (v := .int ((ls_) + (nI (qs)))) (ty := .int) (C := RX4) (T := TX4) (N := 7) hx hb hts (fun w h => List.mem_cons_of_mem _ (hiX4 w h)) tyX4 tyX4_ok nmX4 hown hK hP hD hS 0 rfl rfl 6 (by decide) kf123 (fun _ h9 => h9) rfl (by decide +kernel) rfl rfl (Nat.le_of_ble_eq_true rfl) dX4_flush_37 (fun H locs hP hD hS => ?_)
    have hP : va_P D vwCl [(b0, .inr (4, [.ref (t0), .ref (u0), .ref (r0), .ref (q0), .ref (b1), .int (ck), .int ((ls_) + (nI (qs)))])), (b1, .inl (cI, 7, .inl (an))), (t0, .inr (3, [.int (nI S), .int (nI Wy), .ref (t1), .ref (t2), .ref (t3), .int (fl), .int (nI sb), .ref (t4), .int (us)])), (t1, .inl (cI, S * Wy, .inl (tg))), (t2, .inl (cI, S * Wy, .inl (kd))), (t3, .inl (cI, S * Wy, .inl (tt))), (t4, .inl (cI, S * Wy, .inl (lu))), (u0, .inr (0, [.ref (u1), .ref (u2), .int (hh)])), (u1, .inl (cI, 64, .inl (hg))), (u2, .inl (cI, 64, .inl (hq))), (r0, .inr (2, [.int (nI L), .int (nI (d0)), .int (ro), .int (ru), .ref (r1)])), (r1, .inl (cI, L, .inl (va_cpy (qr) (rp) (qf * L) 0 (d0)))), (q0, .inr (1, [.int (nI ((qf_clear (qp, qt, qd, qr, qs, qf)).2.2.2.2.1)), .int (nI ((qf_clear (qp, qt, qd, qr, qs, qf)).2.2.2.2.2)), .int (nI L), .ref (q1), .ref (q2), .ref (q3), .ref (q4)])), (q1, .inl (cI, 16, .inl ((qf_clear (qp, qt, qd, qr, qs, qf)).1))), (q2, .inl (cI, 16, .inl ((qf_clear (qp, qt, qd, qr, qs, qf)).2.1))), (q3, .inl (cI, 16, .inl ((qf_clear (qp, qt, qd, qr, qs, qf)).2.2.1))), (q4, .inl (cI, 16 * L, .inl ((qf_clear (qp, qt, qd, qr, qs, qf)).2.2.2.1)))] H := hP
    have hD : va_D A [(b0, .inr (4, [.ref (t0), .ref (u0), .ref (r0), .ref (q0), .ref (b1), .int (ck), .int ((ls_) + (nI (qs)))])), (b1, .inl (cI, 7, .inl (an))), (t0, .inr (3, [.int (nI S), .int (nI Wy), .ref (t1), .ref (t2), .ref (t3), .int (fl), .int (nI sb), .ref (t4), .int (us)])), (t1, .inl (cI, S * Wy, .inl (tg))), (t2, .inl (cI, S * Wy, .inl (kd))), (t3, .inl (cI, S * Wy, .inl (tt))), (t4, .inl (cI, S * Wy, .inl (lu))), (u0, .inr (0, [.ref (u1), .ref (u2), .int (hh)])), (u1, .inl (cI, 64, .inl (hg))), (u2, .inl (cI, 64, .inl (hq))), (r0, .inr (2, [.int (nI L), .int (nI (d0)), .int (ro), .int (ru), .ref (r1)])), (r1, .inl (cI, L, .inl (va_cpy (qr) (rp) (qf * L) 0 (d0)))), (q0, .inr (1, [.int (nI ((qf_clear (qp, qt, qd, qr, qs, qf)).2.2.2.2.1)), .int (nI ((qf_clear (qp, qt, qd, qr, qs, qf)).2.2.2.2.2)), .int (nI L), .ref (q1), .ref (q2), .ref (q3), .ref (q4)])), (q1, .inl (cI, 16, .inl ((qf_clear (qp, qt, qd, qr, qs, qf)).1))), (q2, .inl (cI, 16, .inl ((qf_clear (qp, qt, qd, qr, qs, qf)).2.1))), (q3, .inl (cI, 16, .inl ((qf_clear (qp, qt, qd, qr, qs, qf)).2.2.1))), (q4, .inl (cI, 16 * L, .inl ((qf_clear (qp, qt, qd, qr, qs, qf)).2.2.2.1)))] := hD
    refine lv_iload_n hx hb dX4_flush_40 rfl (lv_at hl 0 rfl) ?_
    exact kr_i (congrArg (wTR b0 b1 t0 t1 t2 t3 t4 u0 u1 u2 r0 r1 q0 q1 q2 q3 q4 cI S Wy sb L ) (show (((tg, kd, tt, lu, fl, us), (hg, hq, hh), (va_cpy (qr) (rp) (qf * L) 0 (d0), d0, ro, ru), ((qf_clear (qp, qt, qd, qr, qs, qf)).1, (qf_clear (qp, qt, qd, qr, qs, qf)).2.1, (qf_clear (qp, qt, qd, qr, qs, qf)).2.2.1, (qf_clear (qp, qt, qd, qr, qs, qf)).2.2.2.1, (qf_clear (qp, qt, qd, qr, qs, qf)).2.2.2.2.1, (qf_clear (qp, qt, qd, qr, qs, qf)).2.2.2.2.2), an, ck, (ls_) + (nI (qs))) : Cs) = cf_flush L ((tg, kd, tt, lu, fl, us), (hg, hq, hh), (rp, rd, ro, ru), (qp, qt, qd, qr, qs, qf), an, ck, ls_) d0 from by simp only [cf_flush, cf_back, qf_clear, if_neg hq0])) hx hb hr hlocks hP hK hD hS (rfl) dX4_flush_41

set_option maxHeartbeats 4000000 in
set_option maxRecDepth 100000 in
/-- storage -/
theorem c_X4_storage (l : Launch) (D : va_G) (cI cJ cZ : ClassId) (sz : Nat) (b0 b1 t0 t1 t2 t3 t4 u0 u1 u2 r0 r1 q0 q1 q2 q3 q4 : Nat) (S Wy sb L : Nat) (tg kd tt lu : Fn) (fl us : Int32) (hg hq : Fn) (hh : Int32) (rp : Fn) (rd : Nat) (ro ru : Int32) (qp qt qd qr : Fn) (qs qf : Nat) (an : Fn) (ck ls_ : Int32) : KI l yX4_storage wsX4_storage ({ frames := 0, cells := 0, slots := 0, locals := 0 } : Room) D (kTy cI cJ cZ) [.ref (b0)] [(b0, .inr (4, [.ref (t0), .ref (u0), .ref (r0), .ref (q0), .ref (b1), .int (ck), .int (ls_)])), (b1, .inl (cI, 7, .inl (an))), (t0, .inr (3, [.int (nI S), .int (nI Wy), .ref (t1), .ref (t2), .ref (t3), .int (fl), .int (nI sb), .ref (t4), .int (us)])), (t1, .inl (cI, S * Wy, .inl (tg))), (t2, .inl (cI, S * Wy, .inl (kd))), (t3, .inl (cI, S * Wy, .inl (tt))), (t4, .inl (cI, S * Wy, .inl (lu))), (u0, .inr (0, [.ref (u1), .ref (u2), .int (hh)])), (u1, .inl (cI, 64, .inl (hg))), (u2, .inl (cI, 64, .inl (hq))), (r0, .inr (2, [.int (nI L), .int (nI (rd)), .int (ro), .int (ru), .ref (r1)])), (r1, .inl (cI, L, .inl (rp))), (q0, .inr (1, [.int (nI (qs)), .int (nI (qf)), .int (nI L), .ref (q1), .ref (q2), .ref (q3), .ref (q4)])), (q1, .inl (cI, 16, .inl (qp))), (q2, .inl (cI, 16, .inl (qt))), (q3, .inl (cI, 16, .inl (qd))), (q4, .inl (cI, 16 * L, .inl (qr)))] sz (wTR b0 b1 t0 t1 t2 t3 t4 u0 u1 u2 r0 r1 q0 q1 q2 q3 q4 cI S Wy sb L ((tg, kd, tt, lu, fl, us), (hg, hq, hh), (rp, rd, ro, ru), (qp, qt, qd, qr, qs, qf), an, ck, ls_)) ((((nI S * nI Wy) * 42 + 2560) + nI L * 32) + 24) 0 0 := by
  refine Met.ofW (cc := cX4_storage) (maxL := 1) (ret := (some .int)) (by decide) rfl ?_
  intro p e s m args below meth c s₁ B hml hv
  obtain ⟨rfl, hsz, hP, hK, hD0⟩ := hv
  have hx := B.exec
  have hb := B.bytes
  have hr := B.returns
  have hts := atoms_spec (ws := wsX4_storage) B.pre
  have hown : s.vm.findClass RX4 = some m.cls := findClass_of_methodNamed B.named
  have hlocks := B.notSynchronized
  have kf126 := hts (.fieldLink RX4 126 "TargetRows$Table" "sets" "I") (List.mem_cons_of_mem _ kw_63)
  have kf129 := hts (.fieldLink RX4 129 "TargetRows$Table" "ways" "I") (List.mem_cons_of_mem _ kw_65)
  have kf159 := hts (.fieldLink RX4 159 "TargetRows$Returns" "limit" "I") (List.mem_cons_of_mem _ kw_124)
  have kf18 := hts (.fieldLink RX4 18 "TargetRows" "table" "LTargetRows$Table;") (List.mem_cons_of_mem _ kw_173)
  have kf36 := hts (.fieldLink RX4 36 "TargetRows" "stack" "LTargetRows$Returns;") (List.mem_cons_of_mem _ kw_175)
  subst hsz
  have hD := hD0.self (sz := s.heap.size)
  generalize hAe : va_A [(b0, .inr (4, [.ref (t0), .ref (u0), .ref (r0), .ref (q0), .ref (b1), .int (ck), .int (ls_)])), (b1, .inl (cI, 7, .inl (an))), (t0, .inr (3, [.int (nI S), .int (nI Wy), .ref (t1), .ref (t2), .ref (t3), .int (fl), .int (nI sb), .ref (t4), .int (us)])), (t1, .inl (cI, S * Wy, .inl (tg))), (t2, .inl (cI, S * Wy, .inl (kd))), (t3, .inl (cI, S * Wy, .inl (tt))), (t4, .inl (cI, S * Wy, .inl (lu))), (u0, .inr (0, [.ref (u1), .ref (u2), .int (hh)])), (u1, .inl (cI, 64, .inl (hg))), (u2, .inl (cI, 64, .inl (hq))), (r0, .inr (2, [.int (nI L), .int (nI (rd)), .int (ro), .int (ru), .ref (r1)])), (r1, .inl (cI, L, .inl (rp))), (q0, .inr (1, [.int (nI (qs)), .int (nI (qf)), .int (nI L), .ref (q1), .ref (q2), .ref (q3), .ref (q4)])), (q1, .inl (cI, 16, .inl (qp))), (q2, .inl (cI, 16, .inl (qt))), (q3, .inl (cI, 16, .inl (qd))), (q4, .inl (cI, 16 * L, .inl (qr)))] s.heap.size = A at hD ⊢
  have hA : ∀ q : Nat, s.heap.size ≤ q → A q := fun q h => by rw [← hAe]; exact Or.inr h
  have hS : va_S A s.heap s.heap [] := va_S.rf
  have hP : va_P D vwCl [(b0, .inr (4, [.ref (t0), .ref (u0), .ref (r0), .ref (q0), .ref (b1), .int (ck), .int (ls_)])), (b1, .inl (cI, 7, .inl (an))), (t0, .inr (3, [.int (nI S), .int (nI Wy), .ref (t1), .ref (t2), .ref (t3), .int (fl), .int (nI sb), .ref (t4), .int (us)])), (t1, .inl (cI, S * Wy, .inl (tg))), (t2, .inl (cI, S * Wy, .inl (kd))), (t3, .inl (cI, S * Wy, .inl (tt))), (t4, .inl (cI, S * Wy, .inl (lu))), (u0, .inr (0, [.ref (u1), .ref (u2), .int (hh)])), (u1, .inl (cI, 64, .inl (hg))), (u2, .inl (cI, 64, .inl (hq))), (r0, .inr (2, [.int (nI L), .int (nI (rd)), .int (ro), .int (ru), .ref (r1)])), (r1, .inl (cI, L, .inl (rp))), (q0, .inr (1, [.int (nI (qs)), .int (nI (qf)), .int (nI L), .ref (q1), .ref (q2), .ref (q3), .ref (q4)])), (q1, .inl (cI, 16, .inl (qp))), (q2, .inl (cI, 16, .inl (qt))), (q3, .inl (cI, 16, .inl (qd))), (q4, .inl (cI, 16 * L, .inl (qr)))] s.heap := hP
  have hD : va_D A [(b0, .inr (4, [.ref (t0), .ref (u0), .ref (r0), .ref (q0), .ref (b1), .int (ck), .int (ls_)])), (b1, .inl (cI, 7, .inl (an))), (t0, .inr (3, [.int (nI S), .int (nI Wy), .ref (t1), .ref (t2), .ref (t3), .int (fl), .int (nI sb), .ref (t4), .int (us)])), (t1, .inl (cI, S * Wy, .inl (tg))), (t2, .inl (cI, S * Wy, .inl (kd))), (t3, .inl (cI, S * Wy, .inl (tt))), (t4, .inl (cI, S * Wy, .inl (lu))), (u0, .inr (0, [.ref (u1), .ref (u2), .int (hh)])), (u1, .inl (cI, 64, .inl (hg))), (u2, .inl (cI, 64, .inl (hq))), (r0, .inr (2, [.int (nI L), .int (nI (rd)), .int (ro), .int (ru), .ref (r1)])), (r1, .inl (cI, L, .inl (rp))), (q0, .inr (1, [.int (nI (qs)), .int (nI (qf)), .int (nI L), .ref (q1), .ref (q2), .ref (q3), .ref (q4)])), (q1, .inl (cI, 16, .inl (qp))), (q2, .inl (cI, 16, .inl (qt))), (q3, .inl (cI, 16, .inl (qd))), (q4, .inl (cI, 16 * L, .inl (qr)))] := hD
  have hl := lv_entry ([.ref (b0)]) (n := 1) (Nat.le_of_ble_eq_true rfl)
  rw [lg_entry_eq]
  generalize (lg_sl ([.ref (b0)]) ++ List.replicate (1 - (lg_sl ([.ref (b0)])).length) Slot.unset).toArray = ls at hl ⊢
  have hl : lv_has ls 1 [(0, .ref (b0))] := hl
  refine lv_aload_n hx hb dX4_storage_0 rfl (lv_at hl 0 rfl) ?_
  refine va_get (D := D) (ci := 4) (v := .ref (t0)) (C := RX4) (T := TX4) (N := 7) hx hb hts (fun w h => List.mem_cons_of_mem _ (hiX4 w h)) hown hK hP 0 rfl rfl 0 (by decide) kf18 (fun _ h9 => h9) rfl dX4_storage_1 ?_
  refine va_get (D := D) (ci := 3) (v := .int (nI S)) (C := RX3) (T := TX3) (N := 9) hx hb hts (fun w h => List.mem_cons_of_mem _ (hiX3 w h)) hown hK hP 2 rfl rfl 0 (by decide) kf126 (fun _ h9 => h9) rfl dX4_storage_4 ?_
  refine lv_aload_n hx hb dX4_storage_7 rfl (lv_at hl 0 rfl) ?_
  refine va_get (D := D) (ci := 4) (v := .ref (t0)) (C := RX4) (T := TX4) (N := 7) hx hb hts (fun w h => List.mem_cons_of_mem _ (hiX4 w h)) hown hK hP 0 rfl rfl 0 (by decide) kf18 (fun _ h9 => h9) rfl dX4_storage_8 ?_
  refine va_get (D := D) (ci := 3) (v := .int (nI Wy)) (C := RX3) (T := TX3) (N := 9) hx hb hts (fun w h => List.mem_cons_of_mem _ (hiX3 w h)) hown hK hP 2 rfl rfl 1 (by decide) kf129 (fun _ h9 => h9) rfl dX4_storage_11 ?_
  refine lv_imul hx hb dX4_storage_14 ?_
  refine lv_bipush (v := 42) hx hb dX4_storage_15 (by decide) ?_
  refine lv_imul hx hb dX4_storage_17 ?_
  refine lv_sipush (v := 2560) hx hb dX4_storage_18 (by decide) ?_
  refine lv_iadd hx hb dX4_storage_21 ?_
  refine lv_aload_n hx hb dX4_storage_22 rfl (lv_at hl 0 rfl) ?_
  refine va_get (D := D) (ci := 4) (v := .ref (r0)) (C := RX4) (T := TX4) (N := 7) hx hb hts (fun w h => List.mem_cons_of_mem _ (hiX4 w h)) hown hK hP 0 rfl rfl 2 (by decide) kf36 (fun _ h9 => h9) rfl dX4_storage_23 ?_
  refine va_get (D := D) (ci := 2) (v := .int (nI L)) (C := RX2) (T := TX2) (N := 5) hx hb hts (fun w h => List.mem_cons_of_mem _ (hiX2 w h)) hown hK hP 10 rfl rfl 0 (by decide) kf159 (fun _ h9 => h9) rfl dX4_storage_26 ?_
  refine lv_bipush (v := 32) hx hb dX4_storage_29 (by decide) ?_
  refine lv_imul hx hb dX4_storage_31 ?_
  refine lv_iadd hx hb dX4_storage_32 ?_
  refine lv_bipush (v := 24) hx hb dX4_storage_33 (by decide) ?_
  refine lv_iadd hx hb dX4_storage_35 ?_
  exact kr_i (rfl) hx hb hr hlocks hP hK hD hS (rfl) dX4_storage_36

set_option maxHeartbeats 4000000 in
set_option maxRecDepth 100000 in
/-- check, where it throws nothing -/
theorem c_X4_check (l : Launch) (D : va_G) (cI cJ cZ : ClassId) (sz : Nat) (b0 b1 t0 t1 t2 t3 t4 u0 u1 u2 r0 r1 q0 q1 q2 q3 q4 : Nat) (S Wy sb L : Nat) (tg kd tt lu : Fn) (fl us : Int32) (hg hq : Fn) (hh : Int32) (rp : Fn) (rd : Nat) (ro ru : Int32) (qp qt qd qr : Fn) (qs qf : Nat) (an : Fn) (ck ls_ : Int32) (p0 p1 p2 : Int32) (hk0 : ¬ p0 < 0) (hk3 : p0 ≤ 3) (hqs : 0 < qs) (d0 : Nat) (hd0 : qd qf = nI d0) (hdL : d0 ≤ L) (hSs : S = 0 ∨ S = 2 ^ sb) (hS16 : S ≤ 16) (hsb : sb ≤ 4) (hW : 0 < Wy) (hW4 : Wy ≤ 4) (hd : rd ≤ L) (hL : L < 2 ^ 10) (hf : qf < 16) (hs : qs ≤ 16) : KI l yX4_check wsX4_check ({ frames := 5, cells := 0, slots := 0, locals := 104 } : Room) D (kTy cI cJ cZ) [.ref (b0), .int (p0), .int (p1), .int (p2)] [(b0, .inr (4, [.ref (t0), .ref (u0), .ref (r0), .ref (q0), .ref (b1), .int (ck), .int (ls_)])), (b1, .inl (cI, 7, .inl (an))), (t0, .inr (3, [.int (nI S), .int (nI Wy), .ref (t1), .ref (t2), .ref (t3), .int (fl), .int (nI sb), .ref (t4), .int (us)])), (t1, .inl (cI, S * Wy, .inl (tg))), (t2, .inl (cI, S * Wy, .inl (kd))), (t3, .inl (cI, S * Wy, .inl (tt))), (t4, .inl (cI, S * Wy, .inl (lu))), (u0, .inr (0, [.ref (u1), .ref (u2), .int (hh)])), (u1, .inl (cI, 64, .inl (hg))), (u2, .inl (cI, 64, .inl (hq))), (r0, .inr (2, [.int (nI L), .int (nI (rd)), .int (ro), .int (ru), .ref (r1)])), (r1, .inl (cI, L, .inl (rp))), (q0, .inr (1, [.int (nI (qs)), .int (nI (qf)), .int (nI L), .ref (q1), .ref (q2), .ref (q3), .ref (q4)])), (q1, .inl (cI, 16, .inl (qp))), (q2, .inl (cI, 16, .inl (qt))), (q3, .inl (cI, 16, .inl (qd))), (q4, .inl (cI, 16 * L, .inl (qr)))] sz (wTR b0 b1 t0 t1 t2 t3 t4 u0 u1 u2 r0 r1 q0 q1 q2 q3 q4 cI S Wy sb L (cf_chk S Wy sb L ((tg, kd, tt, lu, fl, us), (hg, hq, hh), (rp, rd, ro, ru), (qp, qt, qd, qr, qs, qf), an, ck, ls_) d0 p0 p1 p2)) (cf_ans S Wy sb ((tg, kd, tt, lu, fl, us), (hg, hq, hh), (rp, rd, ro, ru), (qp, qt, qd, qr, qs, qf), an, ck, ls_) p0 p1 p2) 0 0 := by
  refine Met.ofW (cc := cX4_check) (maxL := 7) (ret := (some .int)) (by decide) rfl ?_
  intro p e s m args below meth c s₁ B hml hv
  obtain ⟨rfl, hsz, hP, hK, hD0⟩ := hv
  have hx := B.exec
  have hb := B.bytes
  have hr := B.returns
  have hts := atoms_spec (ws := wsX4_check) B.pre
  have hown : s.vm.findClass RX4 = some m.cls := findClass_of_methodNamed B.named
  have hlocks := B.notSynchronized
  have kf113 := hts (.fieldLink RX4 113 "TargetRows" "checked" "I") (List.mem_cons_of_mem _ kw_178)
  have kf43 := hts (.fieldLink RX4 43 "TargetRows" "queue" "LTargetRows$Queue;") (List.mem_cons_of_mem _ kw_176)
  have kf47 := hts (.fieldLink RX4 47 "TargetRows" "answers" "[I") (List.mem_cons_of_mem _ kw_177)
  have kf58 := hts (.fieldLink RX4 58 "TargetRows$Queue" "size" "I") (List.mem_cons_of_mem _ kw_151)
  subst hsz
  have hD := hD0.self (sz := s.heap.size)
  generalize hAe : va_A [(b0, .inr (4, [.ref (t0), .ref (u0), .ref (r0), .ref (q0), .ref (b1), .int (ck), .int (ls_)])), (b1, .inl (cI, 7, .inl (an))), (t0, .inr (3, [.int (nI S), .int (nI Wy), .ref (t1), .ref (t2), .ref (t3), .int (fl), .int (nI sb), .ref (t4), .int (us)])), (t1, .inl (cI, S * Wy, .inl (tg))), (t2, .inl (cI, S * Wy, .inl (kd))), (t3, .inl (cI, S * Wy, .inl (tt))), (t4, .inl (cI, S * Wy, .inl (lu))), (u0, .inr (0, [.ref (u1), .ref (u2), .int (hh)])), (u1, .inl (cI, 64, .inl (hg))), (u2, .inl (cI, 64, .inl (hq))), (r0, .inr (2, [.int (nI L), .int (nI (rd)), .int (ro), .int (ru), .ref (r1)])), (r1, .inl (cI, L, .inl (rp))), (q0, .inr (1, [.int (nI (qs)), .int (nI (qf)), .int (nI L), .ref (q1), .ref (q2), .ref (q3), .ref (q4)])), (q1, .inl (cI, 16, .inl (qp))), (q2, .inl (cI, 16, .inl (qt))), (q3, .inl (cI, 16, .inl (qd))), (q4, .inl (cI, 16 * L, .inl (qr)))] s.heap.size = A at hD ⊢
  have hA : ∀ q : Nat, s.heap.size ≤ q → A q := fun q h => by rw [← hAe]; exact Or.inr h
  have hS : va_S A s.heap s.heap [] := va_S.rf
  have hP : va_P D vwCl [(b0, .inr (4, [.ref (t0), .ref (u0), .ref (r0), .ref (q0), .ref (b1), .int (ck), .int (ls_)])), (b1, .inl (cI, 7, .inl (an))), (t0, .inr (3, [.int (nI S), .int (nI Wy), .ref (t1), .ref (t2), .ref (t3), .int (fl), .int (nI sb), .ref (t4), .int (us)])), (t1, .inl (cI, S * Wy, .inl (tg))), (t2, .inl (cI, S * Wy, .inl (kd))), (t3, .inl (cI, S * Wy, .inl (tt))), (t4, .inl (cI, S * Wy, .inl (lu))), (u0, .inr (0, [.ref (u1), .ref (u2), .int (hh)])), (u1, .inl (cI, 64, .inl (hg))), (u2, .inl (cI, 64, .inl (hq))), (r0, .inr (2, [.int (nI L), .int (nI (rd)), .int (ro), .int (ru), .ref (r1)])), (r1, .inl (cI, L, .inl (rp))), (q0, .inr (1, [.int (nI (qs)), .int (nI (qf)), .int (nI L), .ref (q1), .ref (q2), .ref (q3), .ref (q4)])), (q1, .inl (cI, 16, .inl (qp))), (q2, .inl (cI, 16, .inl (qt))), (q3, .inl (cI, 16, .inl (qd))), (q4, .inl (cI, 16 * L, .inl (qr)))] s.heap := hP
  have hD : va_D A [(b0, .inr (4, [.ref (t0), .ref (u0), .ref (r0), .ref (q0), .ref (b1), .int (ck), .int (ls_)])), (b1, .inl (cI, 7, .inl (an))), (t0, .inr (3, [.int (nI S), .int (nI Wy), .ref (t1), .ref (t2), .ref (t3), .int (fl), .int (nI sb), .ref (t4), .int (us)])), (t1, .inl (cI, S * Wy, .inl (tg))), (t2, .inl (cI, S * Wy, .inl (kd))), (t3, .inl (cI, S * Wy, .inl (tt))), (t4, .inl (cI, S * Wy, .inl (lu))), (u0, .inr (0, [.ref (u1), .ref (u2), .int (hh)])), (u1, .inl (cI, 64, .inl (hg))), (u2, .inl (cI, 64, .inl (hq))), (r0, .inr (2, [.int (nI L), .int (nI (rd)), .int (ro), .int (ru), .ref (r1)])), (r1, .inl (cI, L, .inl (rp))), (q0, .inr (1, [.int (nI (qs)), .int (nI (qf)), .int (nI L), .ref (q1), .ref (q2), .ref (q3), .ref (q4)])), (q1, .inl (cI, 16, .inl (qp))), (q2, .inl (cI, 16, .inl (qt))), (q3, .inl (cI, 16, .inl (qd))), (q4, .inl (cI, 16 * L, .inl (qr)))] := hD
  have hl := lv_entry ([.ref (b0), .int (p0), .int (p1), .int (p2)]) (n := 7) (Nat.le_of_ble_eq_true rfl)
  rw [lg_entry_eq]
  generalize (lg_sl ([.ref (b0), .int (p0), .int (p1), .int (p2)]) ++ List.replicate (7 - (lg_sl ([.ref (b0), .int (p0), .int (p1), .int (p2)])).length) Slot.unset).toArray = ls at hl ⊢
  have hl : lv_has ls 7 [(0, .ref (b0)), (1, .int (p0)), (2, .int (p1)), (3, .int (p2))] := hl
  refine lv_iload_n hx hb dX4_check_0 rfl (lv_at hl 1 rfl) ?_
  refine lv_if_lt (tgt := 9) hx hb dX4_check_1 (by decide) (fun c_1 => absurd c_1 hk0) (fun c_1 => ?_)
  refine lv_iload_n hx hb dX4_check_4 rfl (lv_at hl 1 rfl) ?_
  refine lv_iconst (v := 3) hx hb dX4_check_5 (by decide) ?_
  refine lv_icmp_le (tgt := 19) hx hb dX4_check_6 (by decide) (fun c_6 => ?_) (fun c_6 => absurd hk3 c_6)
  refine lv_aload_n hx hb dX4_check_19 rfl (lv_at hl 0 rfl) ?_
  refine va_get (D := D) (ci := 4) (v := .ref (q0)) (C := RX4) (T := TX4) (N := 7) hx hb hts (fun w h => List.mem_cons_of_mem _ (hiX4 w h)) hown hK hP 0 rfl rfl 3 (by decide) kf43 (fun _ h9 => h9) rfl dX4_check_20 ?_
  refine va_get (D := D) (ci := 1) (v := .int (nI (qs))) (C := RX1) (T := TX1) (N := 7) hx hb hts (fun w h => List.mem_cons_of_mem _ (hiX1 w h)) hown hK hP 12 rfl rfl 0 (by decide) kf58 (fun _ h9 => h9) rfl dX4_check_23 ?_
  refine lv_if_ne (tgt := 39) hx hb dX4_check_26 (by decide) (fun c_26 => ?_) (fun c_26 => absurd c_26 (nI_ne0 hqs (by omega)))
  refine lv_aload_n hx hb dX4_check_39 rfl (lv_at hl 0 rfl) ?_
  refine va_get (D := D) (ci := 4) (v := .ref (q0)) (C := RX4) (T := TX4) (N := 7) hx hb hts (fun w h => List.mem_cons_of_mem _ (hiX4 w h)) hown hK hP 0 rfl rfl 3 (by decide) kf43 (fun _ h9 => h9) rfl dX4_check_40 ?_
  refine lv_iconst (v := 0) hx hb dX4_check_43 (by decide) ?_
  refine kt_i (y := nI (0)) (rfl) ?_
  refine kc_i (wc := [(q0, .inr (1, [.int (nI (qs)), .int (nI (qf)), .int (nI L), .ref (q1), .ref (q2), .ref (q3), .ref (q4)])), (q1, .inl (cI, 16, .inl (qp))), (q2, .inl (cI, 16, .inl (qt))), (q3, .inl (cI, 16, .inl (qd))), (q4, .inl (cI, 16 * L, .inl (qr)))]) (wr := [(b0, .inr (4, [.ref (t0), .ref (u0), .ref (r0), .ref (q0), .ref (b1), .int (ck), .int (ls_)])), (b1, .inl (cI, 7, .inl (an))), (t0, .inr (3, [.int (nI S), .int (nI Wy), .ref (t1), .ref (t2), .ref (t3), .int (fl), .int (nI sb), .ref (t4), .int (us)])), (t1, .inl (cI, S * Wy, .inl (tg))), (t2, .inl (cI, S * Wy, .inl (kd))), (t3, .inl (cI, S * Wy, .inl (tt))), (t4, .inl (cI, S * Wy, .inl (lu))), (u0, .inr (0, [.ref (u1), .ref (u2), .int (hh)])), (u1, .inl (cI, 64, .inl (hg))), (u2, .inl (cI, 64, .inl (hq))), (r0, .inr (2, [.int (nI L), .int (nI (rd)), .int (ro), .int (ru), .ref (r1)])), (r1, .inl (cI, L, .inl (rp)))]) [12, 13, 14, 15, 16] [0, 1, 2, 3, 4, 5, 6, 7, 8, 9, 10, 11] rfl rfl (by decide) (by decide) hP hD hS hA (va_runV (As := [.int (nI (0))]) (rest := []) ⟨hx, hb, hml, hown, hts⟩ (c_X1_placeAt l D cI cJ cZ _ _ _ _ _ _ _ _ _ _ _ _ _ _ (by omega) hf hL) (cwV 1 hts (kw_V kw_413 kw_414 kw_415 kw_32 kw_416) rfl rfl rfl (by decide +kernel) ⟨Nat.le_of_ble_eq_true rfl, Nat.le_of_ble_eq_true rfl⟩) ⟨kP_blind, va_recv hK (hP.sub (ws' := [(q0, .inr (1, [.int (nI (qs)), .int (nI (qf)), .int (nI L), .ref (q1), .ref (q2), .ref (q3), .ref (q4)])), (q1, .inl (cI, 16, .inl (qp))), (q2, .inl (cI, 16, .inl (qt))), (q3, .inl (cI, 16, .inl (qd))), (q4, .inl (cI, 16 * L, .inl (qr)))]) [12, 13, 14, 15, 16] rfl) (ci := 1) (q0 := 0) rfl rfl, kP_at (hP.sub [12, 13, 14, 15, 16] rfl) hK (hD.sub [12, 13, 14, 15, 16] (by decide) rfl)⟩ rfl rfl hl.1 rfl (lv_room (Nat.le_of_ble_eq_true rfl)) dX4_check_44 ⟨Nat.zero_le _, Nat.zero_le _⟩) (fun H locs hP hD hS => ?_)
  have hP := hP.sub (ws' := [(b0, .inr (4, [.ref (t0), .ref (u0), .ref (r0), .ref (q0), .ref (b1), .int (ck), .int (ls_)])), (b1, .inl (cI, 7, .inl (an))), (t0, .inr (3, [.int (nI S), .int (nI Wy), .ref (t1), .ref (t2), .ref (t3), .int (fl), .int (nI sb), .ref (t4), .int (us)])), (t1, .inl (cI, S * Wy, .inl (tg))), (t2, .inl (cI, S * Wy, .inl (kd))), (t3, .inl (cI, S * Wy, .inl (tt))), (t4, .inl (cI, S * Wy, .inl (lu))), (u0, .inr (0, [.ref (u1), .ref (u2), .int (hh)])), (u1, .inl (cI, 64, .inl (hg))), (u2, .inl (cI, 64, .inl (hq))), (r0, .inr (2, [.int (nI L), .int (nI (rd)), .int (ro), .int (ru), .ref (r1)])), (r1, .inl (cI, L, .inl (rp))), (q0, .inr (1, [.int (nI (qs)), .int (nI (qf)), .int (nI L), .ref (q1), .ref (q2), .ref (q3), .ref (q4)])), (q1, .inl (cI, 16, .inl (qp))), (q2, .inl (cI, 16, .inl (qt))), (q3, .inl (cI, 16, .inl (qd))), (q4, .inl (cI, 16 * L, .inl (qr)))]) [0, 1, 2, 3, 4, 5, 6, 7, 8, 9, 10, 11, 12, 13, 14, 15, 16] rfl
  have hD := hD.sub (ws' := [(b0, .inr (4, [.ref (t0), .ref (u0), .ref (r0), .ref (q0), .ref (b1), .int (ck), .int (ls_)])), (b1, .inl (cI, 7, .inl (an))), (t0, .inr (3, [.int (nI S), .int (nI Wy), .ref (t1), .ref (t2), .ref (t3), .int (fl), .int (nI sb), .ref (t4), .int (us)])), (t1, .inl (cI, S * Wy, .inl (tg))), (t2, .inl (cI, S * Wy, .inl (kd))), (t3, .inl (cI, S * Wy, .inl (tt))), (t4, .inl (cI, S * Wy, .inl (lu))), (u0, .inr (0, [.ref (u1), .ref (u2), .int (hh)])), (u1, .inl (cI, 64, .inl (hg))), (u2, .inl (cI, 64, .inl (hq))), (r0, .inr (2, [.int (nI L), .int (nI (rd)), .int (ro), .int (ru), .ref (r1)])), (r1, .inl (cI, L, .inl (rp))), (q0, .inr (1, [.int (nI (qs)), .int (nI (qf)), .int (nI L), .ref (q1), .ref (q2), .ref (q3), .ref (q4)])), (q1, .inl (cI, 16, .inl (qp))), (q2, .inl (cI, 16, .inl (qt))), (q3, .inl (cI, 16, .inl (qd))), (q4, .inl (cI, 16 * L, .inl (qr)))]) [0, 1, 2, 3, 4, 5, 6, 7, 8, 9, 10, 11, 12, 13, 14, 15, 16] (by decide) rfl
  refine lv_istore (lv' := [(4, .int ((qp) (qf_ix (qp, qt, qd, qr, qs, qf) (0)))), (0, .ref (b0)), (1, .int (p0)), (2, .int (p1)), (3, .int (p2))]) hx hb dX4_check_47 hl (by decide) rfl (fun ls hl => ?_)
  refine lv_iload_n hx hb dX4_check_49 rfl (lv_at hl 3 rfl) ?_
  refine lv_if_eq (tgt := 57) hx hb dX4_check_50 (by decide) (fun c_50 => ?_) (fun c_50 => ?_)
  ·
    refine lv_iload hx hb dX4_check_57 (lv_at hl 0 rfl) ?_
    refine kc_i (wc := []) (wr := [(b0, .inr (4, [.ref (t0), .ref (u0), .ref (r0), .ref (q0), .ref (b1), .int (ck), .int (ls_)])), (b1, .inl (cI, 7, .inl (an))), (t0, .inr (3, [.int (nI S), .int (nI Wy), .ref (t1), .ref (t2), .ref (t3), .int (fl), .int (nI sb), .ref (t4), .int (us)])), (t1, .inl (cI, S * Wy, .inl (tg))), (t2, .inl (cI, S * Wy, .inl (kd))), (t3, .inl (cI, S * Wy, .inl (tt))), (t4, .inl (cI, S * Wy, .inl (lu))), (u0, .inr (0, [.ref (u1), .ref (u2), .int (hh)])), (u1, .inl (cI, 64, .inl (hg))), (u2, .inl (cI, 64, .inl (hq))), (r0, .inr (2, [.int (nI L), .int (nI (rd)), .int (ro), .int (ru), .ref (r1)])), (r1, .inl (cI, L, .inl (rp))), (q0, .inr (1, [.int (nI (qs)), .int (nI (qf)), .int (nI L), .ref (q1), .ref (q2), .ref (q3), .ref (q4)])), (q1, .inl (cI, 16, .inl (qp))), (q2, .inl (cI, 16, .inl (qt))), (q3, .inl (cI, 16, .inl (qd))), (q4, .inl (cI, 16 * L, .inl (qr)))]) [] [0, 1, 2, 3, 4, 5, 6, 7, 8, 9, 10, 11, 12, 13, 14, 15, 16] rfl rfl (by decide) (by decide) hP hD hS hA (va_runS (As := [.int ((qp) (qf_ix (qp, qt, qd, qr, qs, qf) (0)))]) (rest := []) ⟨hx, hb, hml, hown, hts⟩ (c_X4_behind l D cI cJ cZ _ _) (va_cwS 1 hts (kw_S kw_215 kw_216 kw_26 kw_217) rfl rfl rfl (by decide +kernel) ⟨Nat.le_of_ble_eq_true rfl, Nat.le_of_ble_eq_true rfl⟩) ⟨kP_blind, kP_at (hP.sub [] rfl) hK (hD.sub [] (by decide) rfl)⟩ rfl rfl hl.1 rfl (lv_room (Nat.le_of_ble_eq_true rfl)) dX4_check_59 ⟨Nat.zero_le _, Nat.zero_le _⟩) (fun H locs hP hD hS => ?_)
    have hP := hP.sub (ws' := [(b0, .inr (4, [.ref (t0), .ref (u0), .ref (r0), .ref (q0), .ref (b1), .int (ck), .int (ls_)])), (b1, .inl (cI, 7, .inl (an))), (t0, .inr (3, [.int (nI S), .int (nI Wy), .ref (t1), .ref (t2), .ref (t3), .int (fl), .int (nI sb), .ref (t4), .int (us)])), (t1, .inl (cI, S * Wy, .inl (tg))), (t2, .inl (cI, S * Wy, .inl (kd))), (t3, .inl (cI, S * Wy, .inl (tt))), (t4, .inl (cI, S * Wy, .inl (lu))), (u0, .inr (0, [.ref (u1), .ref (u2), .int (hh)])), (u1, .inl (cI, 64, .inl (hg))), (u2, .inl (cI, 64, .inl (hq))), (r0, .inr (2, [.int (nI L), .int (nI (rd)), .int (ro), .int (ru), .ref (r1)])), (r1, .inl (cI, L, .inl (rp))), (q0, .inr (1, [.int (nI (qs)), .int (nI (qf)), .int (nI L), .ref (q1), .ref (q2), .ref (q3), .ref (q4)])), (q1, .inl (cI, 16, .inl (qp))), (q2, .inl (cI, 16, .inl (qt))), (q3, .inl (cI, 16, .inl (qd))), (q4, .inl (cI, 16 * L, .inl (qr)))]) [0, 1, 2, 3, 4, 5, 6, 7, 8, 9, 10, 11, 12, 13, 14, 15, 16] rfl
    have hD := hD.sub (ws' := [(b0, .inr (4, [.ref (t0), .ref (u0), .ref (r0), .ref (q0), .ref (b1), .int (ck), .int (ls_)])), (b1, .inl (cI, 7, .inl (an))), (t0, .inr (3, [.int (nI S), .int (nI Wy), .ref (t1), .ref (t2), .ref (t3), .int (fl), .int (nI sb), .ref (t4), .int (us)])), (t1, .inl (cI, S * Wy, .inl (tg))), (t2, .inl (cI, S * Wy, .inl (kd))), (t3, .inl (cI, S * Wy, .inl (tt))), (t4, .inl (cI, S * Wy, .inl (lu))), (u0, .inr (0, [.ref (u1), .ref (u2), .int (hh)])), (u1, .inl (cI, 64, .inl (hg))), (u2, .inl (cI, 64, .inl (hq))), (r0, .inr (2, [.int (nI L), .int (nI (rd)), .int (ro), .int (ru), .ref (r1)])), (r1, .inl (cI, L, .inl (rp))), (q0, .inr (1, [.int (nI (qs)), .int (nI (qf)), .int (nI L), .ref (q1), .ref (q2), .ref (q3), .ref (q4)])), (q1, .inl (cI, 16, .inl (qp))), (q2, .inl (cI, 16, .inl (qt))), (q3, .inl (cI, 16, .inl (qd))), (q4, .inl (cI, 16 * L, .inl (qr)))]) [0, 1, 2, 3, 4, 5, 6, 7, 8, 9, 10, 11, 12, 13, 14, 15, 16] (by decide) rfl
    refine lv_istore (lv' := [(5, .int (((qp) (qf_ix (qp, qt, qd, qr, qs, qf) (0))) + 4)), (4, .int ((qp) (qf_ix (qp, qt, qd, qr, qs, qf) (0)))), (0, .ref (b0)), (1, .int (p0)), (2, .int (p1)), (3, .int (p2))]) hx hb dX4_check_62 hl (by decide) rfl (fun ls hl => ?_)
    refine lv_aload_n hx hb dX4_check_64 rfl (lv_at hl 2 rfl) ?_
    refine va_get (D := D) (ci := 4) (v := .ref (q0)) (C := RX4) (T := TX4) (N := 7) hx hb hts (fun w h => List.mem_cons_of_mem _ (hiX4 w h)) hown hK hP 0 rfl rfl 3 (by decide) kf43 (fun _ h9 => h9) rfl dX4_check_65 ?_
    refine lv_iconst (v := 0) hx hb dX4_check_68 (by decide) ?_
    refine kt_i (y := nI (0)) (rfl) ?_
    refine kc_i (wc := [(q0, .inr (1, [.int (nI (qs)), .int (nI (qf)), .int (nI L), .ref (q1), .ref (q2), .ref (q3), .ref (q4)])), (q1, .inl (cI, 16, .inl (qp))), (q2, .inl (cI, 16, .inl (qt))), (q3, .inl (cI, 16, .inl (qd))), (q4, .inl (cI, 16 * L, .inl (qr)))]) (wr := [(b0, .inr (4, [.ref (t0), .ref (u0), .ref (r0), .ref (q0), .ref (b1), .int (ck), .int (ls_)])), (b1, .inl (cI, 7, .inl (an))), (t0, .inr (3, [.int (nI S), .int (nI Wy), .ref (t1), .ref (t2), .ref (t3), .int (fl), .int (nI sb), .ref (t4), .int (us)])), (t1, .inl (cI, S * Wy, .inl (tg))), (t2, .inl (cI, S * Wy, .inl (kd))), (t3, .inl (cI, S * Wy, .inl (tt))), (t4, .inl (cI, S * Wy, .inl (lu))), (u0, .inr (0, [.ref (u1), .ref (u2), .int (hh)])), (u1, .inl (cI, 64, .inl (hg))), (u2, .inl (cI, 64, .inl (hq))), (r0, .inr (2, [.int (nI L), .int (nI (rd)), .int (ro), .int (ru), .ref (r1)])), (r1, .inl (cI, L, .inl (rp)))]) [12, 13, 14, 15, 16] [0, 1, 2, 3, 4, 5, 6, 7, 8, 9, 10, 11] rfl rfl (by decide) (by decide) hP hD hS hA (va_runV (As := [.int (nI (0))]) (rest := []) ⟨hx, hb, hml, hown, hts⟩ (c_X1_toldAt l D cI cJ cZ _ _ _ _ _ _ _ _ _ _ _ _ _ _ (by omega) hf hL) (cwV 1 hts (kw_V kw_417 kw_418 kw_419 kw_32 kw_420) rfl rfl rfl (by decide +kernel) ⟨Nat.le_of_ble_eq_true rfl, Nat.le_of_ble_eq_true rfl⟩) ⟨kP_blind, va_recv hK (hP.sub (ws' := [(q0, .inr (1, [.int (nI (qs)), .int (nI (qf)), .int (nI L), .ref (q1), .ref (q2), .ref (q3), .ref (q4)])), (q1, .inl (cI, 16, .inl (qp))), (q2, .inl (cI, 16, .inl (qt))), (q3, .inl (cI, 16, .inl (qd))), (q4, .inl (cI, 16 * L, .inl (qr)))]) [12, 13, 14, 15, 16] rfl) (ci := 1) (q0 := 0) rfl rfl, kP_at (hP.sub [12, 13, 14, 15, 16] rfl) hK (hD.sub [12, 13, 14, 15, 16] (by decide) rfl)⟩ rfl rfl hl.1 rfl (lv_room (Nat.le_of_ble_eq_true rfl)) dX4_check_69 ⟨Nat.zero_le _, Nat.zero_le _⟩) (fun H locs hP hD hS => ?_)
    have hP := hP.sub (ws' := [(b0, .inr (4, [.ref (t0), .ref (u0), .ref (r0), .ref (q0), .ref (b1), .int (ck), .int (ls_)])), (b1, .inl (cI, 7, .inl (an))), (t0, .inr (3, [.int (nI S), .int (nI Wy), .ref (t1), .ref (t2), .ref (t3), .int (fl), .int (nI sb), .ref (t4), .int (us)])), (t1, .inl (cI, S * Wy, .inl (tg))), (t2, .inl (cI, S * Wy, .inl (kd))), (t3, .inl (cI, S * Wy, .inl (tt))), (t4, .inl (cI, S * Wy, .inl (lu))), (u0, .inr (0, [.ref (u1), .ref (u2), .int (hh)])), (u1, .inl (cI, 64, .inl (hg))), (u2, .inl (cI, 64, .inl (hq))), (r0, .inr (2, [.int (nI L), .int (nI (rd)), .int (ro), .int (ru), .ref (r1)])), (r1, .inl (cI, L, .inl (rp))), (q0, .inr (1, [.int (nI (qs)), .int (nI (qf)), .int (nI L), .ref (q1), .ref (q2), .ref (q3), .ref (q4)])), (q1, .inl (cI, 16, .inl (qp))), (q2, .inl (cI, 16, .inl (qt))), (q3, .inl (cI, 16, .inl (qd))), (q4, .inl (cI, 16 * L, .inl (qr)))]) [0, 1, 2, 3, 4, 5, 6, 7, 8, 9, 10, 11, 12, 13, 14, 15, 16] rfl
    have hD := hD.sub (ws' := [(b0, .inr (4, [.ref (t0), .ref (u0), .ref (r0), .ref (q0), .ref (b1), .int (ck), .int (ls_)])), (b1, .inl (cI, 7, .inl (an))), (t0, .inr (3, [.int (nI S), .int (nI Wy), .ref (t1), .ref (t2), .ref (t3), .int (fl), .int (nI sb), .ref (t4), .int (us)])), (t1, .inl (cI, S * Wy, .inl (tg))), (t2, .inl (cI, S * Wy, .inl (kd))), (t3, .inl (cI, S * Wy, .inl (tt))), (t4, .inl (cI, S * Wy, .inl (lu))), (u0, .inr (0, [.ref (u1), .ref (u2), .int (hh)])), (u1, .inl (cI, 64, .inl (hg))), (u2, .inl (cI, 64, .inl (hq))), (r0, .inr (2, [.int (nI L), .int (nI (rd)), .int (ro), .int (ru), .ref (r1)])), (r1, .inl (cI, L, .inl (rp))), (q0, .inr (1, [.int (nI (qs)), .int (nI (qf)), .int (nI L), .ref (q1), .ref (q2), .ref (q3), .ref (q4)])), (q1, .inl (cI, 16, .inl (qp))), (q2, .inl (cI, 16, .inl (qt))), (q3, .inl (cI, 16, .inl (qd))), (q4, .inl (cI, 16 * L, .inl (qr)))]) [0, 1, 2, 3, 4, 5, 6, 7, 8, 9, 10, 11, 12, 13, 14, 15, 16] (by decide) rfl
    refine lv_iload hx hb dX4_check_72 (lv_at hl 0 rfl) ?_
    refine lv_icmp_ne (tgt := 81) hx hb dX4_check_74 (by decide) (fun c_74 => ?_) (fun c_74 => ?_)
    ·
      refine lv_aload_n hx hb dX4_check_81 rfl (lv_at hl 2 rfl) ?_
      refine lv_iload hx hb dX4_check_82 (lv_at hl 1 rfl) ?_
      refine lv_iload_n hx hb dX4_check_84 rfl (lv_at hl 3 rfl) ?_
      refine lv_iload_n hx hb dX4_check_85 rfl (lv_at hl 4 rfl) ?_
      obtain ⟨j, hj1, hj, ej⟩ := cf_cause_n (kd) (p0) (p1) (tf_find S Wy sb (tg, kd, tt, lu, fl, us) ((qp) (qf_ix (qp, qt, qd, qr, qs, qf) (0))))
      refine kc_i (wc := [(b0, .inr (4, [.ref (t0), .ref (u0), .ref (r0), .ref (q0), .ref (b1), .int (ck), .int (ls_)])), (b1, .inl (cI, 7, .inl (an))), (t0, .inr (3, [.int (nI S), .int (nI Wy), .ref (t1), .ref (t2), .ref (t3), .int (fl), .int (nI sb), .ref (t4), .int (us)])), (t1, .inl (cI, S * Wy, .inl (tg))), (t2, .inl (cI, S * Wy, .inl (kd))), (t3, .inl (cI, S * Wy, .inl (tt))), (t4, .inl (cI, S * Wy, .inl (lu))), (u0, .inr (0, [.ref (u1), .ref (u2), .int (hh)])), (u1, .inl (cI, 64, .inl (hg))), (u2, .inl (cI, 64, .inl (hq))), (r0, .inr (2, [.int (nI L), .int (nI (rd)), .int (ro), .int (ru), .ref (r1)])), (r1, .inl (cI, L, .inl (rp))), (q0, .inr (1, [.int (nI (qs)), .int (nI (qf)), .int (nI L), .ref (q1), .ref (q2), .ref (q3), .ref (q4)])), (q1, .inl (cI, 16, .inl (qp))), (q2, .inl (cI, 16, .inl (qt))), (q3, .inl (cI, 16, .inl (qd))), (q4, .inl (cI, 16 * L, .inl (qr)))]) (wr := []) [0, 1, 2, 3, 4, 5, 6, 7, 8, 9, 10, 11, 12, 13, 14, 15, 16] [] rfl rfl (by decide) (by decide) hP hD hS hA (va_runV (As := [.int ((qp) (qf_ix (qp, qt, qd, qr, qs, qf) (0))), .int (p0), .int (p1)]) (rest := []) ⟨hx, hb, hml, hown, hts⟩ (c_X4_causeOf l D cI cJ cZ _ _ _ _ _ _ _ _ _ _ _ _ _ _ _ _ _ _ _ _ _ _ _ _ _ _ _ _ _ _ _ _ _ _ _ _ _ _ _ _ _ _ _ _ _ _ _ hSs hS16 hsb hW hW4 hd hL hf hs) (cwV 3 hts (kw_V kw_421 kw_423 kw_8 kw_26 kw_424) rfl rfl rfl (by decide +kernel) ⟨Nat.le_of_ble_eq_true rfl, Nat.le_of_ble_eq_true rfl⟩) ⟨kP_blind, va_recv hK (hP.sub (ws' := [(b0, .inr (4, [.ref (t0), .ref (u0), .ref (r0), .ref (q0), .ref (b1), .int (ck), .int (ls_)])), (b1, .inl (cI, 7, .inl (an))), (t0, .inr (3, [.int (nI S), .int (nI Wy), .ref (t1), .ref (t2), .ref (t3), .int (fl), .int (nI sb), .ref (t4), .int (us)])), (t1, .inl (cI, S * Wy, .inl (tg))), (t2, .inl (cI, S * Wy, .inl (kd))), (t3, .inl (cI, S * Wy, .inl (tt))), (t4, .inl (cI, S * Wy, .inl (lu))), (u0, .inr (0, [.ref (u1), .ref (u2), .int (hh)])), (u1, .inl (cI, 64, .inl (hg))), (u2, .inl (cI, 64, .inl (hq))), (r0, .inr (2, [.int (nI L), .int (nI (rd)), .int (ro), .int (ru), .ref (r1)])), (r1, .inl (cI, L, .inl (rp))), (q0, .inr (1, [.int (nI (qs)), .int (nI (qf)), .int (nI L), .ref (q1), .ref (q2), .ref (q3), .ref (q4)])), (q1, .inl (cI, 16, .inl (qp))), (q2, .inl (cI, 16, .inl (qt))), (q3, .inl (cI, 16, .inl (qd))), (q4, .inl (cI, 16 * L, .inl (qr)))]) [0, 1, 2, 3, 4, 5, 6, 7, 8, 9, 10, 11, 12, 13, 14, 15, 16] rfl) (ci := 4) (q0 := 0) rfl rfl, kP_at (hP.sub [0, 1, 2, 3, 4, 5, 6, 7, 8, 9, 10, 11, 12, 13, 14, 15, 16] rfl) hK (hD.sub [0, 1, 2, 3, 4, 5, 6, 7, 8, 9, 10, 11, 12, 13, 14, 15, 16] (by decide) rfl)⟩ rfl rfl hl.1 rfl (lv_room (Nat.le_of_ble_eq_true rfl)) dX4_check_86 ⟨Nat.zero_le _, Nat.zero_le _⟩) (fun H locs hP hD hS => ?_)
      have hP := hP.sub (ws' := [(b0, .inr (4, [.ref (t0), .ref (u0), .ref (r0), .ref (q0), .ref (b1), .int (ck), .int (ls_)])), (b1, .inl (cI, 7, .inl (an))), (t0, .inr (3, [.int (nI S), .int (nI Wy), .ref (t1), .ref (t2), .ref (t3), .int (fl), .int (nI sb), .ref (t4), .int (us)])), (t1, .inl (cI, S * Wy, .inl (tg))), (t2, .inl (cI, S * Wy, .inl (kd))), (t3, .inl (cI, S * Wy, .inl (tt))), (t4, .inl (cI, S * Wy, .inl (lu))), (u0, .inr (0, [.ref (u1), .ref (u2), .int (hh)])), (u1, .inl (cI, 64, .inl (hg))), (u2, .inl (cI, 64, .inl (hq))), (r0, .inr (2, [.int (nI L), .int (nI (rd)), .int (ro), .int (ru), .ref (r1)])), (r1, .inl (cI, L, .inl (rp))), (q0, .inr (1, [.int (nI (qs)), .int (nI (qf)), .int (nI L), .ref (q1), .ref (q2), .ref (q3), .ref (q4)])), (q1, .inl (cI, 16, .inl (qp))), (q2, .inl (cI, 16, .inl (qt))), (q3, .inl (cI, 16, .inl (qd))), (q4, .inl (cI, 16 * L, .inl (qr)))]) [0, 1, 2, 3, 4, 5, 6, 7, 8, 9, 10, 11, 12, 13, 14, 15, 16] rfl
      have hD := hD.sub (ws' := [(b0, .inr (4, [.ref (t0), .ref (u0), .ref (r0), .ref (q0), .ref (b1), .int (ck), .int (ls_)])), (b1, .inl (cI, 7, .inl (an))), (t0, .inr (3, [.int (nI S), .int (nI Wy), .ref (t1), .ref (t2), .ref (t3), .int (fl), .int (nI sb), .ref (t4), .int (us)])), (t1, .inl (cI, S * Wy, .inl (tg))), (t2, .inl (cI, S * Wy, .inl (kd))), (t3, .inl (cI, S * Wy, .inl (tt))), (t4, .inl (cI, S * Wy, .inl (lu))), (u0, .inr (0, [.ref (u1), .ref (u2), .int (hh)])), (u1, .inl (cI, 64, .inl (hg))), (u2, .inl (cI, 64, .inl (hq))), (r0, .inr (2, [.int (nI L), .int (nI (rd)), .int (ro), .int (ru), .ref (r1)])), (r1, .inl (cI, L, .inl (rp))), (q0, .inr (1, [.int (nI (qs)), .int (nI (qf)), .int (nI L), .ref (q1), .ref (q2), .ref (q3), .ref (q4)])), (q1, .inl (cI, 16, .inl (qp))), (q2, .inl (cI, 16, .inl (qt))), (q3, .inl (cI, 16, .inl (qd))), (q4, .inl (cI, 16 * L, .inl (qr)))]) [0, 1, 2, 3, 4, 5, 6, 7, 8, 9, 10, 11, 12, 13, 14, 15, 16] (by decide) rfl
      refine kt_i (y := nI (j)) (ej) ?_
      refine lv_istore (lv' := [(6, .int (nI (j))), (5, .int (((qp) (qf_ix (qp, qt, qd, qr, qs, qf) (0))) + 4)), (4, .int ((qp) (qf_ix (qp, qt, qd, qr, qs, qf) (0)))), (0, .ref (b0)), (1, .int (p0)), (2, .int (p1)), (3, .int (p2))]) hx hb dX4_check_89 hl (by decide) rfl (fun ls hl => ?_)
      refine lv_iload hx hb dX4_check_91 (lv_at hl 0 rfl) ?_
      refine lv_if_ne (tgt := 106) hx hb dX4_check_93 (by decide) (fun c_93 => ?_) (fun c_93 => absurd c_93 (nI_ne0 (by omega) (by omega)))
      refine lv_aload_n hx hb dX4_check_106 rfl (lv_at hl 3 rfl) ?_
      refine lv_iload hx hb dX4_check_107 (lv_at hl 2 rfl) ?_
      refine lv_iload_n hx hb dX4_check_109 rfl (lv_at hl 4 rfl) ?_
      refine lv_iload_n hx hb dX4_check_110 rfl (lv_at hl 5 rfl) ?_
      refine kc_v (wc := [(b0, .inr (4, [.ref (t0), .ref (u0), .ref (r0), .ref (q0), .ref (b1), .int (ck), .int (ls_)])), (b1, .inl (cI, 7, .inl (an))), (t0, .inr (3, [.int (nI S), .int (nI Wy), .ref (t1), .ref (t2), .ref (t3), .int (fl), .int (nI sb), .ref (t4), .int (us)])), (t1, .inl (cI, S * Wy, .inl (tg))), (t2, .inl (cI, S * Wy, .inl (kd))), (t3, .inl (cI, S * Wy, .inl (tt))), (t4, .inl (cI, S * Wy, .inl (lu))), (u0, .inr (0, [.ref (u1), .ref (u2), .int (hh)])), (u1, .inl (cI, 64, .inl (hg))), (u2, .inl (cI, 64, .inl (hq))), (r0, .inr (2, [.int (nI L), .int (nI (rd)), .int (ro), .int (ru), .ref (r1)])), (r1, .inl (cI, L, .inl (rp))), (q0, .inr (1, [.int (nI (qs)), .int (nI (qf)), .int (nI L), .ref (q1), .ref (q2), .ref (q3), .ref (q4)])), (q1, .inl (cI, 16, .inl (qp))), (q2, .inl (cI, 16, .inl (qt))), (q3, .inl (cI, 16, .inl (qd))), (q4, .inl (cI, 16 * L, .inl (qr)))]) (wr := []) [0, 1, 2, 3, 4, 5, 6, 7, 8, 9, 10, 11, 12, 13, 14, 15, 16] [] rfl rfl (by decide) (by decide) hP hD hS hA (va_runV (As := [.int ((qp) (qf_ix (qp, qt, qd, qr, qs, qf) (0))), .int (p0), .int (p1)]) (rest := []) ⟨hx, hb, hml, hown, hts⟩ (c_X4_repair l D cI cJ cZ _ _ _ _ _ _ _ _ _ _ _ _ _ _ _ _ _ _ _ _ _ _ _ _ _ _ _ _ _ _ _ _ _ _ _ _ _ _ _ _ _ _ _ _ _ _ _ d0 hd0 hdL hSs hS16 hsb hW hW4 hd hL hf hs) (cwV 3 hts (kw_V kw_429 kw_431 kw_9 kw_26 kw_432) rfl rfl rfl (by decide +kernel) ⟨Nat.le_of_ble_eq_true rfl, Nat.le_of_ble_eq_true rfl⟩) ⟨kP_blind, va_recv hK (hP.sub (ws' := [(b0, .inr (4, [.ref (t0), .ref (u0), .ref (r0), .ref (q0), .ref (b1), .int (ck), .int (ls_)])), (b1, .inl (cI, 7, .inl (an))), (t0, .inr (3, [.int (nI S), .int (nI Wy), .ref (t1), .ref (t2), .ref (t3), .int (fl), .int (nI sb), .ref (t4), .int (us)])), (t1, .inl (cI, S * Wy, .inl (tg))), (t2, .inl (cI, S * Wy, .inl (kd))), (t3, .inl (cI, S * Wy, .inl (tt))), (t4, .inl (cI, S * Wy, .inl (lu))), (u0, .inr (0, [.ref (u1), .ref (u2), .int (hh)])), (u1, .inl (cI, 64, .inl (hg))), (u2, .inl (cI, 64, .inl (hq))), (r0, .inr (2, [.int (nI L), .int (nI (rd)), .int (ro), .int (ru), .ref (r1)])), (r1, .inl (cI, L, .inl (rp))), (q0, .inr (1, [.int (nI (qs)), .int (nI (qf)), .int (nI L), .ref (q1), .ref (q2), .ref (q3), .ref (q4)])), (q1, .inl (cI, 16, .inl (qp))), (q2, .inl (cI, 16, .inl (qt))), (q3, .inl (cI, 16, .inl (qd))), (q4, .inl (cI, 16 * L, .inl (qr)))]) [0, 1, 2, 3, 4, 5, 6, 7, 8, 9, 10, 11, 12, 13, 14, 15, 16] rfl) (ci := 4) (q0 := 0) rfl rfl, kP_at (hP.sub [0, 1, 2, 3, 4, 5, 6, 7, 8, 9, 10, 11, 12, 13, 14, 15, 16] rfl) hK (hD.sub [0, 1, 2, 3, 4, 5, 6, 7, 8, 9, 10, 11, 12, 13, 14, 15, 16] (by decide) rfl)⟩ rfl rfl hl.1 rfl (lv_room (Nat.le_of_ble_eq_true rfl)) dX4_check_111 ⟨Nat.zero_le _, Nat.zero_le _⟩) (fun H locs hP hD hS => ?_)
      have hP := hP.sub (ws' := [(b0, .inr (4, [.ref (t0), .ref (u0), .ref (r0), .ref (q0), .ref (b1), .int (ck), .int ((ls_) + (nI (qs) - 1))])), (b1, .inl (cI, 7, .inl (an))), (t0, .inr (3, [.int (nI S), .int (nI Wy), .ref (t1), .ref (t2), .ref (t3), .int (fl), .int (nI sb), .ref (t4), .int (us)])), (t1, .inl (cI, S * Wy, .inl (tg))), (t2, .inl (cI, S * Wy, .inl (kd))), (t3, .inl (cI, S * Wy, .inl (tt))), (t4, .inl (cI, S * Wy, .inl (lu))), (u0, .inr (0, [.ref (u1), .ref (u2), .int (hh)])), (u1, .inl (cI, 64, .inl (hg))), (u2, .inl (cI, 64, .inl (hq))), (r0, .inr (2, [.int (nI L), .int (nI ((if (p1) = 0 then cf_back L (qp, qt, qd, qr, qs, qf) (rp, rd, ro, ru) (d0) else cf_move L (cf_back L (qp, qt, qd, qr, qs, qf) (rp, rd, ro, ru) (d0)) (p0) ((qp) (qf_ix (qp, qt, qd, qr, qs, qf) (0)))).2.1)), .int ((if (p1) = 0 then cf_back L (qp, qt, qd, qr, qs, qf) (rp, rd, ro, ru) (d0) else cf_move L (cf_back L (qp, qt, qd, qr, qs, qf) (rp, rd, ro, ru) (d0)) (p0) ((qp) (qf_ix (qp, qt, qd, qr, qs, qf) (0)))).2.2.1), .int ((if (p1) = 0 then cf_back L (qp, qt, qd, qr, qs, qf) (rp, rd, ro, ru) (d0) else cf_move L (cf_back L (qp, qt, qd, qr, qs, qf) (rp, rd, ro, ru) (d0)) (p0) ((qp) (qf_ix (qp, qt, qd, qr, qs, qf) (0)))).2.2.2), .ref (r1)])), (r1, .inl (cI, L, .inl ((if (p1) = 0 then cf_back L (qp, qt, qd, qr, qs, qf) (rp, rd, ro, ru) (d0) else cf_move L (cf_back L (qp, qt, qd, qr, qs, qf) (rp, rd, ro, ru) (d0)) (p0) ((qp) (qf_ix (qp, qt, qd, qr, qs, qf) (0)))).1))), (q0, .inr (1, [.int (nI ((qf_clear (qp, qt, qd, qr, qs, qf)).2.2.2.2.1)), .int (nI ((qf_clear (qp, qt, qd, qr, qs, qf)).2.2.2.2.2)), .int (nI L), .ref (q1), .ref (q2), .ref (q3), .ref (q4)])), (q1, .inl (cI, 16, .inl ((qf_clear (qp, qt, qd, qr, qs, qf)).1))), (q2, .inl (cI, 16, .inl ((qf_clear (qp, qt, qd, qr, qs, qf)).2.1))), (q3, .inl (cI, 16, .inl ((qf_clear (qp, qt, qd, qr, qs, qf)).2.2.1))), (q4, .inl (cI, 16 * L, .inl ((qf_clear (qp, qt, qd, qr, qs, qf)).2.2.2.1)))]) [0, 1, 2, 3, 4, 5, 6, 7, 8, 9, 10, 11, 12, 13, 14, 15, 16] rfl
      have hD := hD.sub (ws' := [(b0, .inr (4, [.ref (t0), .ref (u0), .ref (r0), .ref (q0), .ref (b1), .int (ck), .int ((ls_) + (nI (qs) - 1))])), (b1, .inl (cI, 7, .inl (an))), (t0, .inr (3, [.int (nI S), .int (nI Wy), .ref (t1), .ref (t2), .ref (t3), .int (fl), .int (nI sb), .ref (t4), .int (us)])), (t1, .inl (cI, S * Wy, .inl (tg))), (t2, .inl (cI, S * Wy, .inl (kd))), (t3, .inl (cI, S * Wy, .inl (tt))), (t4, .inl (cI, S * Wy, .inl (lu))), (u0, .inr (0, [.ref (u1), .ref (u2), .int (hh)])), (u1, .inl (cI, 64, .inl (hg))), (u2, .inl (cI, 64, .inl (hq))), (r0, .inr (2, [.int (nI L), .int (nI ((if (p1) = 0 then cf_back L (qp, qt, qd, qr, qs, qf) (rp, rd, ro, ru) (d0) else cf_move L (cf_back L (qp, qt, qd, qr, qs, qf) (rp, rd, ro, ru) (d0)) (p0) ((qp) (qf_ix (qp, qt, qd, qr, qs, qf) (0)))).2.1)), .int ((if (p1) = 0 then cf_back L (qp, qt, qd, qr, qs, qf) (rp, rd, ro, ru) (d0) else cf_move L (cf_back L (qp, qt, qd, qr, qs, qf) (rp, rd, ro, ru) (d0)) (p0) ((qp) (qf_ix (qp, qt, qd, qr, qs, qf) (0)))).2.2.1), .int ((if (p1) = 0 then cf_back L (qp, qt, qd, qr, qs, qf) (rp, rd, ro, ru) (d0) else cf_move L (cf_back L (qp, qt, qd, qr, qs, qf) (rp, rd, ro, ru) (d0)) (p0) ((qp) (qf_ix (qp, qt, qd, qr, qs, qf) (0)))).2.2.2), .ref (r1)])), (r1, .inl (cI, L, .inl ((if (p1) = 0 then cf_back L (qp, qt, qd, qr, qs, qf) (rp, rd, ro, ru) (d0) else cf_move L (cf_back L (qp, qt, qd, qr, qs, qf) (rp, rd, ro, ru) (d0)) (p0) ((qp) (qf_ix (qp, qt, qd, qr, qs, qf) (0)))).1))), (q0, .inr (1, [.int (nI ((qf_clear (qp, qt, qd, qr, qs, qf)).2.2.2.2.1)), .int (nI ((qf_clear (qp, qt, qd, qr, qs, qf)).2.2.2.2.2)), .int (nI L), .ref (q1), .ref (q2), .ref (q3), .ref (q4)])), (q1, .inl (cI, 16, .inl ((qf_clear (qp, qt, qd, qr, qs, qf)).1))), (q2, .inl (cI, 16, .inl ((qf_clear (qp, qt, qd, qr, qs, qf)).2.1))), (q3, .inl (cI, 16, .inl ((qf_clear (qp, qt, qd, qr, qs, qf)).2.2.1))), (q4, .inl (cI, 16 * L, .inl ((qf_clear (qp, qt, qd, qr, qs, qf)).2.2.2.1)))]) [0, 1, 2, 3, 4, 5, 6, 7, 8, 9, 10, 11, 12, 13, 14, 15, 16] (by decide) rfl
      refine lv_iload_n hx hb dX4_check_114 rfl (lv_at hl 5 rfl) ?_
      refine lv_if_eq (tgt := 126) hx hb dX4_check_115 (by decide) (fun c_115 => ?_) (fun c_115 => absurd c_50 c_115)
      refine lv_aload_n hx hb dX4_check_126 rfl (lv_at hl 3 rfl) ?_
      refine lv_dup hx hb dX4_check_127 rfl ?_
      refine va_get (D := D) (ci := 4) (v := .int (ck)) (C := RX4) (T := TX4) (N := 7) hx hb hts (fun w h => List.mem_cons_of_mem _ (hiX4 w h)) hown hK hP 0 rfl rfl 5 (by decide) kf113 (fun _ h9 => h9) rfl dX4_check_128 ?_
      refine lv_iconst (v := 1) hx hb dX4_check_131 (by decide) ?_
      refine lv_iadd hx hb dX4_check_132 ?_
      refine va_put (D := D) (ci := 4) (v := .int ((ck) + (1))) (ty := .int) (C := RX4) (T := TX4) (N := 7) hx hb hts (fun w h => List.mem_cons_of_mem _ (hiX4 w h)) tyX4 tyX4_ok nmX4 hown hK hP hD hS 0 rfl rfl 5 (by decide) kf113 (fun _ h9 => h9) rfl (by decide +kernel) rfl rfl (Nat.le_of_ble_eq_true rfl) dX4_check_133 (fun H locs hP hD hS => ?_)
      have hP : va_P D vwCl [(b0, .inr (4, [.ref (t0), .ref (u0), .ref (r0), .ref (q0), .ref (b1), .int ((ck) + (1)), .int ((ls_) + (nI (qs) - 1))])), (b1, .inl (cI, 7, .inl (an))), (t0, .inr (3, [.int (nI S), .int (nI Wy), .ref (t1), .ref (t2), .ref (t3), .int (fl), .int (nI sb), .ref (t4), .int (us)])), (t1, .inl (cI, S * Wy, .inl (tg))), (t2, .inl (cI, S * Wy, .inl (kd))), (t3, .inl (cI, S * Wy, .inl (tt))), (t4, .inl (cI, S * Wy, .inl (lu))), (u0, .inr (0, [.ref (u1), .ref (u2), .int (hh)])), (u1, .inl (cI, 64, .inl (hg))), (u2, .inl (cI, 64, .inl (hq))), (r0, .inr (2, [.int (nI L), .int (nI ((if (p1) = 0 then cf_back L (qp, qt, qd, qr, qs, qf) (rp, rd, ro, ru) (d0) else cf_move L (cf_back L (qp, qt, qd, qr, qs, qf) (rp, rd, ro, ru) (d0)) (p0) ((qp) (qf_ix (qp, qt, qd, qr, qs, qf) (0)))).2.1)), .int ((if (p1) = 0 then cf_back L (qp, qt, qd, qr, qs, qf) (rp, rd, ro, ru) (d0) else cf_move L (cf_back L (qp, qt, qd, qr, qs, qf) (rp, rd, ro, ru) (d0)) (p0) ((qp) (qf_ix (qp, qt, qd, qr, qs, qf) (0)))).2.2.1), .int ((if (p1) = 0 then cf_back L (qp, qt, qd, qr, qs, qf) (rp, rd, ro, ru) (d0) else cf_move L (cf_back L (qp, qt, qd, qr, qs, qf) (rp, rd, ro, ru) (d0)) (p0) ((qp) (qf_ix (qp, qt, qd, qr, qs, qf) (0)))).2.2.2), .ref (r1)])), (r1, .inl (cI, L, .inl ((if (p1) = 0 then cf_back L (qp, qt, qd, qr, qs, qf) (rp, rd, ro, ru) (d0) else cf_move L (cf_back L (qp, qt, qd, qr, qs, qf) (rp, rd, ro, ru) (d0)) (p0) ((qp) (qf_ix (qp, qt, qd, qr, qs, qf) (0)))).1))), (q0, .inr (1, [.int (nI ((qf_clear (qp, qt, qd, qr, qs, qf)).2.2.2.2.1)), .int (nI ((qf_clear (qp, qt, qd, qr, qs, qf)).2.2.2.2.2)), .int (nI L), .ref (q1), .ref (q2), .ref (q3), .ref (q4)])), (q1, .inl (cI, 16, .inl ((qf_clear (qp, qt, qd, qr, qs, qf)).1))), (q2, .inl (cI, 16, .inl ((qf_clear (qp, qt, qd, qr, qs, qf)).2.1))), (q3, .inl (cI, 16, .inl ((qf_clear (qp, qt, qd, qr, qs, qf)).2.2.1))), (q4, .inl (cI, 16 * L, .inl ((qf_clear (qp, qt, qd, qr, qs, qf)).2.2.2.1)))] H := hP
      have hD : va_D A [(b0, .inr (4, [.ref (t0), .ref (u0), .ref (r0), .ref (q0), .ref (b1), .int ((ck) + (1)), .int ((ls_) + (nI (qs) - 1))])), (b1, .inl (cI, 7, .inl (an))), (t0, .inr (3, [.int (nI S), .int (nI Wy), .ref (t1), .ref (t2), .ref (t3), .int (fl), .int (nI sb), .ref (t4), .int (us)])), (t1, .inl (cI, S * Wy, .inl (tg))), (t2, .inl (cI, S * Wy, .inl (kd))), (t3, .inl (cI, S * Wy, .inl (tt))), (t4, .inl (cI, S * Wy, .inl (lu))), (u0, .inr (0, [.ref (u1), .ref (u2), .int (hh)])), (u1, .inl (cI, 64, .inl (hg))), (u2, .inl (cI, 64, .inl (hq))), (r0, .inr (2, [.int (nI L), .int (nI ((if (p1) = 0 then cf_back L (qp, qt, qd, qr, qs, qf) (rp, rd, ro, ru) (d0) else cf_move L (cf_back L (qp, qt, qd, qr, qs, qf) (rp, rd, ro, ru) (d0)) (p0) ((qp) (qf_ix (qp, qt, qd, qr, qs, qf) (0)))).2.1)), .int ((if (p1) = 0 then cf_back L (qp, qt, qd, qr, qs, qf) (rp, rd, ro, ru) (d0) else cf_move L (cf_back L (qp, qt, qd, qr, qs, qf) (rp, rd, ro, ru) (d0)) (p0) ((qp) (qf_ix (qp, qt, qd, qr, qs, qf) (0)))).2.2.1), .int ((if (p1) = 0 then cf_back L (qp, qt, qd, qr, qs, qf) (rp, rd, ro, ru) (d0) else cf_move L (cf_back L (qp, qt, qd, qr, qs, qf) (rp, rd, ro, ru) (d0)) (p0) ((qp) (qf_ix (qp, qt, qd, qr, qs, qf) (0)))).2.2.2), .ref (r1)])), (r1, .inl (cI, L, .inl ((if (p1) = 0 then cf_back L (qp, qt, qd, qr, qs, qf) (rp, rd, ro, ru) (d0) else cf_move L (cf_back L (qp, qt, qd, qr, qs, qf) (rp, rd, ro, ru) (d0)) (p0) ((qp) (qf_ix (qp, qt, qd, qr, qs, qf) (0)))).1))), (q0, .inr (1, [.int (nI ((qf_clear (qp, qt, qd, qr, qs, qf)).2.2.2.2.1)), .int (nI ((qf_clear (qp, qt, qd, qr, qs, qf)).2.2.2.2.2)), .int (nI L), .ref (q1), .ref (q2), .ref (q3), .ref (q4)])), (q1, .inl (cI, 16, .inl ((qf_clear (qp, qt, qd, qr, qs, qf)).1))), (q2, .inl (cI, 16, .inl ((qf_clear (qp, qt, qd, qr, qs, qf)).2.1))), (q3, .inl (cI, 16, .inl ((qf_clear (qp, qt, qd, qr, qs, qf)).2.2.1))), (q4, .inl (cI, 16 * L, .inl ((qf_clear (qp, qt, qd, qr, qs, qf)).2.2.2.1)))] := hD
      refine lv_aload_n hx hb dX4_check_136 rfl (lv_at hl 3 rfl) ?_
      refine va_get (D := D) (ci := 4) (v := .ref (b1)) (C := RX4) (T := TX4) (N := 7) hx hb hts (fun w h => List.mem_cons_of_mem _ (hiX4 w h)) hown hK hP 0 rfl rfl 4 (by decide) kf47 (fun _ h9 => h9) rfl dX4_check_137 ?_
      refine lv_iload hx hb dX4_check_140 (lv_at hl 0 rfl) ?_
      refine lv_dup2_11 hx hb dX4_check_142 rfl rfl ?_
      refine ka_ild hx hb hK hP 1 0 rfl rfl (k := j) (rfl) (⟨hj, by decide⟩) dX4_check_143 ?_
      refine lv_iconst (v := 1) hx hb dX4_check_144 (by decide) ?_
      refine lv_iadd hx hb dX4_check_145 ?_
      refine ka_ist hx hb hK hP hD hS 1 0 rfl rfl (k := j) (rfl) (⟨hj, by decide⟩) dX4_check_146 (fun H locs hP hD hS => ?_)
      have hP : va_P D vwCl [(b0, .inr (4, [.ref (t0), .ref (u0), .ref (r0), .ref (q0), .ref (b1), .int ((ck) + (1)), .int ((ls_) + (nI (qs) - 1))])), (b1, .inl (cI, 7, .inl (upd (an) (j) (((an) (j)) + (1))))), (t0, .inr (3, [.int (nI S), .int (nI Wy), .ref (t1), .ref (t2), .ref (t3), .int (fl), .int (nI sb), .ref (t4), .int (us)])), (t1, .inl (cI, S * Wy, .inl (tg))), (t2, .inl (cI, S * Wy, .inl (kd))), (t3, .inl (cI, S * Wy, .inl (tt))), (t4, .inl (cI, S * Wy, .inl (lu))), (u0, .inr (0, [.ref (u1), .ref (u2), .int (hh)])), (u1, .inl (cI, 64, .inl (hg))), (u2, .inl (cI, 64, .inl (hq))), (r0, .inr (2, [.int (nI L), .int (nI ((if (p1) = 0 then cf_back L (qp, qt, qd, qr, qs, qf) (rp, rd, ro, ru) (d0) else cf_move L (cf_back L (qp, qt, qd, qr, qs, qf) (rp, rd, ro, ru) (d0)) (p0) ((qp) (qf_ix (qp, qt, qd, qr, qs, qf) (0)))).2.1)), .int ((if (p1) = 0 then cf_back L (qp, qt, qd, qr, qs, qf) (rp, rd, ro, ru) (d0) else cf_move L (cf_back L (qp, qt, qd, qr, qs, qf) (rp, rd, ro, ru) (d0)) (p0) ((qp) (qf_ix (qp, qt, qd, qr, qs, qf) (0)))).2.2.1), .int ((if (p1) = 0 then cf_back L (qp, qt, qd, qr, qs, qf) (rp, rd, ro, ru) (d0) else cf_move L (cf_back L (qp, qt, qd, qr, qs, qf) (rp, rd, ro, ru) (d0)) (p0) ((qp) (qf_ix (qp, qt, qd, qr, qs, qf) (0)))).2.2.2), .ref (r1)])), (r1, .inl (cI, L, .inl ((if (p1) = 0 then cf_back L (qp, qt, qd, qr, qs, qf) (rp, rd, ro, ru) (d0) else cf_move L (cf_back L (qp, qt, qd, qr, qs, qf) (rp, rd, ro, ru) (d0)) (p0) ((qp) (qf_ix (qp, qt, qd, qr, qs, qf) (0)))).1))), (q0, .inr (1, [.int (nI ((qf_clear (qp, qt, qd, qr, qs, qf)).2.2.2.2.1)), .int (nI ((qf_clear (qp, qt, qd, qr, qs, qf)).2.2.2.2.2)), .int (nI L), .ref (q1), .ref (q2), .ref (q3), .ref (q4)])), (q1, .inl (cI, 16, .inl ((qf_clear (qp, qt, qd, qr, qs, qf)).1))), (q2, .inl (cI, 16, .inl ((qf_clear (qp, qt, qd, qr, qs, qf)).2.1))), (q3, .inl (cI, 16, .inl ((qf_clear (qp, qt, qd, qr, qs, qf)).2.2.1))), (q4, .inl (cI, 16 * L, .inl ((qf_clear (qp, qt, qd, qr, qs, qf)).2.2.2.1)))] H := hP
      have hD : va_D A [(b0, .inr (4, [.ref (t0), .ref (u0), .ref (r0), .ref (q0), .ref (b1), .int ((ck) + (1)), .int ((ls_) + (nI (qs) - 1))])), (b1, .inl (cI, 7, .inl (upd (an) (j) (((an) (j)) + (1))))), (t0, .inr (3, [.int (nI S), .int (nI Wy), .ref (t1), .ref (t2), .ref (t3), .int (fl), .int (nI sb), .ref (t4), .int (us)])), (t1, .inl (cI, S * Wy, .inl (tg))), (t2, .inl (cI, S * Wy, .inl (kd))), (t3, .inl (cI, S * Wy, .inl (tt))), (t4, .inl (cI, S * Wy, .inl (lu))), (u0, .inr (0, [.ref (u1), .ref (u2), .int (hh)])), (u1, .inl (cI, 64, .inl (hg))), (u2, .inl (cI, 64, .inl (hq))), (r0, .inr (2, [.int (nI L), .int (nI ((if (p1) = 0 then cf_back L (qp, qt, qd, qr, qs, qf) (rp, rd, ro, ru) (d0) else cf_move L (cf_back L (qp, qt, qd, qr, qs, qf) (rp, rd, ro, ru) (d0)) (p0) ((qp) (qf_ix (qp, qt, qd, qr, qs, qf) (0)))).2.1)), .int ((if (p1) = 0 then cf_back L (qp, qt, qd, qr, qs, qf) (rp, rd, ro, ru) (d0) else cf_move L (cf_back L (qp, qt, qd, qr, qs, qf) (rp, rd, ro, ru) (d0)) (p0) ((qp) (qf_ix (qp, qt, qd, qr, qs, qf) (0)))).2.2.1), .int ((if (p1) = 0 then cf_back L (qp, qt, qd, qr, qs, qf) (rp, rd, ro, ru) (d0) else cf_move L (cf_back L (qp, qt, qd, qr, qs, qf) (rp, rd, ro, ru) (d0)) (p0) ((qp) (qf_ix (qp, qt, qd, qr, qs, qf) (0)))).2.2.2), .ref (r1)])), (r1, .inl (cI, L, .inl ((if (p1) = 0 then cf_back L (qp, qt, qd, qr, qs, qf) (rp, rd, ro, ru) (d0) else cf_move L (cf_back L (qp, qt, qd, qr, qs, qf) (rp, rd, ro, ru) (d0)) (p0) ((qp) (qf_ix (qp, qt, qd, qr, qs, qf) (0)))).1))), (q0, .inr (1, [.int (nI ((qf_clear (qp, qt, qd, qr, qs, qf)).2.2.2.2.1)), .int (nI ((qf_clear (qp, qt, qd, qr, qs, qf)).2.2.2.2.2)), .int (nI L), .ref (q1), .ref (q2), .ref (q3), .ref (q4)])), (q1, .inl (cI, 16, .inl ((qf_clear (qp, qt, qd, qr, qs, qf)).1))), (q2, .inl (cI, 16, .inl ((qf_clear (qp, qt, qd, qr, qs, qf)).2.1))), (q3, .inl (cI, 16, .inl ((qf_clear (qp, qt, qd, qr, qs, qf)).2.2.1))), (q4, .inl (cI, 16 * L, .inl ((qf_clear (qp, qt, qd, qr, qs, qf)).2.2.2.1)))] := hD
      refine lv_iload hx hb dX4_check_147 (lv_at hl 0 rfl) ?_
      exact kr_i (congrArg (wTR b0 b1 t0 t1 t2 t3 t4 u0 u1 u2 r0 r1 q0 q1 q2 q3 q4 cI S Wy sb L ) (show (((tg, kd, tt, lu, fl, us), (hg, hq, hh), ((if (p1) = 0 then cf_back L (qp, qt, qd, qr, qs, qf) (rp, rd, ro, ru) (d0) else cf_move L (cf_back L (qp, qt, qd, qr, qs, qf) (rp, rd, ro, ru) (d0)) (p0) ((qp) (qf_ix (qp, qt, qd, qr, qs, qf) (0)))).1, (if (p1) = 0 then cf_back L (qp, qt, qd, qr, qs, qf) (rp, rd, ro, ru) (d0) else cf_move L (cf_back L (qp, qt, qd, qr, qs, qf) (rp, rd, ro, ru) (d0)) (p0) ((qp) (qf_ix (qp, qt, qd, qr, qs, qf) (0)))).2.1, (if (p1) = 0 then cf_back L (qp, qt, qd, qr, qs, qf) (rp, rd, ro, ru) (d0) else cf_move L (cf_back L (qp, qt, qd, qr, qs, qf) (rp, rd, ro, ru) (d0)) (p0) ((qp) (qf_ix (qp, qt, qd, qr, qs, qf) (0)))).2.2.1, (if (p1) = 0 then cf_back L (qp, qt, qd, qr, qs, qf) (rp, rd, ro, ru) (d0) else cf_move L (cf_back L (qp, qt, qd, qr, qs, qf) (rp, rd, ro, ru) (d0)) (p0) ((qp) (qf_ix (qp, qt, qd, qr, qs, qf) (0)))).2.2.2), ((qf_clear (qp, qt, qd, qr, qs, qf)).1, (qf_clear (qp, qt, qd, qr, qs, qf)).2.1, (qf_clear (qp, qt, qd, qr, qs, qf)).2.2.1, (qf_clear (qp, qt, qd, qr, qs, qf)).2.2.2.1, (qf_clear (qp, qt, qd, qr, qs, qf)).2.2.2.2.1, (qf_clear (qp, qt, qd, qr, qs, qf)).2.2.2.2.2), upd (an) (j) (((an) (j)) + (1)), (ck) + (1), (ls_) + (nI (qs) - 1)) : Cs) = cf_chk S Wy sb L ((tg, kd, tt, lu, fl, us), (hg, hq, hh), (rp, rd, ro, ru), (qp, qt, qd, qr, qs, qf), an, ck, ls_) d0 p0 p1 p2 from by simp only [cf_chk, cf_ans, cf_went, cf_pl, cf_td, if_pos c_50, if_neg c_74, ej, nI_clamp (show j < 2 ^ 31 by omega)])) hx hb hr hlocks hP hK hD hS (by simp only [cf_ans, cf_went, cf_pl, cf_td, if_pos c_50, if_neg c_74]; exact ej.symm) dX4_check_149
    ·
      refine lv_iconst (v := 0) hx hb dX4_check_77 (by decide) ?_
      refine kt_i (y := nI (0)) (rfl) ?_
      refine lv_goto (tgt := 89) hx hb dX4_check_78 (by decide) ?_
      refine lv_istore (lv' := [(6, .int (nI (0))), (5, .int (((qp) (qf_ix (qp, qt, qd, qr, qs, qf) (0))) + 4)), (4, .int ((qp) (qf_ix (qp, qt, qd, qr, qs, qf) (0)))), (0, .ref (b0)), (1, .int (p0)), (2, .int (p1)), (3, .int (p2))]) hx hb dX4_check_89 hl (by decide) rfl (fun ls hl => ?_)
      refine lv_iload hx hb dX4_check_91 (lv_at hl 0 rfl) ?_
      refine lv_if_ne (tgt := 106) hx hb dX4_check_93 (by decide) (fun c_93 => absurd nI_0 c_93) (fun c_93 => ?_)
      refine lv_aload_n hx hb dX4_check_96 rfl (lv_at hl 3 rfl) ?_
      refine va_get (D := D) (ci := 4) (v := .ref (q0)) (C := RX4) (T := TX4) (N := 7) hx hb hts (fun w h => List.mem_cons_of_mem _ (hiX4 w h)) hown hK hP 0 rfl rfl 3 (by decide) kf43 (fun _ h9 => h9) rfl dX4_check_97 ?_
      refine kc_v (wc := [(q0, .inr (1, [.int (nI (qs)), .int (nI (qf)), .int (nI L), .ref (q1), .ref (q2), .ref (q3), .ref (q4)])), (q1, .inl (cI, 16, .inl (qp))), (q2, .inl (cI, 16, .inl (qt))), (q3, .inl (cI, 16, .inl (qd))), (q4, .inl (cI, 16 * L, .inl (qr)))]) (wr := [(b0, .inr (4, [.ref (t0), .ref (u0), .ref (r0), .ref (q0), .ref (b1), .int (ck), .int (ls_)])), (b1, .inl (cI, 7, .inl (an))), (t0, .inr (3, [.int (nI S), .int (nI Wy), .ref (t1), .ref (t2), .ref (t3), .int (fl), .int (nI sb), .ref (t4), .int (us)])), (t1, .inl (cI, S * Wy, .inl (tg))), (t2, .inl (cI, S * Wy, .inl (kd))), (t3, .inl (cI, S * Wy, .inl (tt))), (t4, .inl (cI, S * Wy, .inl (lu))), (u0, .inr (0, [.ref (u1), .ref (u2), .int (hh)])), (u1, .inl (cI, 64, .inl (hg))), (u2, .inl (cI, 64, .inl (hq))), (r0, .inr (2, [.int (nI L), .int (nI (rd)), .int (ro), .int (ru), .ref (r1)])), (r1, .inl (cI, L, .inl (rp)))]) [12, 13, 14, 15, 16] [0, 1, 2, 3, 4, 5, 6, 7, 8, 9, 10, 11] rfl rfl (by decide) (by decide) hP hD hS hA (va_runV (As := []) (rest := []) ⟨hx, hb, hml, hown, hts⟩ (c_X1_dropOldest l D cI cJ cZ _ _ _ _ _ _ _ _ _ _ _ _ _ hqs hs hf hL) (cwV 0 hts (kw_V kw_425 kw_426 kw_427 kw_32 kw_428) rfl rfl rfl (by decide +kernel) ⟨Nat.le_of_ble_eq_true rfl, Nat.le_of_ble_eq_true rfl⟩) ⟨kP_blind, va_recv hK (hP.sub (ws' := [(q0, .inr (1, [.int (nI (qs)), .int (nI (qf)), .int (nI L), .ref (q1), .ref (q2), .ref (q3), .ref (q4)])), (q1, .inl (cI, 16, .inl (qp))), (q2, .inl (cI, 16, .inl (qt))), (q3, .inl (cI, 16, .inl (qd))), (q4, .inl (cI, 16 * L, .inl (qr)))]) [12, 13, 14, 15, 16] rfl) (ci := 1) (q0 := 0) rfl rfl, kP_at (hP.sub [12, 13, 14, 15, 16] rfl) hK (hD.sub [12, 13, 14, 15, 16] (by decide) rfl)⟩ rfl rfl hl.1 rfl (lv_room (Nat.le_of_ble_eq_true rfl)) dX4_check_100 ⟨Nat.zero_le _, Nat.zero_le _⟩) (fun H locs hP hD hS => ?_)
      have hP := hP.sub (ws' := [(b0, .inr (4, [.ref (t0), .ref (u0), .ref (r0), .ref (q0), .ref (b1), .int (ck), .int (ls_)])), (b1, .inl (cI, 7, .inl (an))), (t0, .inr (3, [.int (nI S), .int (nI Wy), .ref (t1), .ref (t2), .ref (t3), .int (fl), .int (nI sb), .ref (t4), .int (us)])), (t1, .inl (cI, S * Wy, .inl (tg))), (t2, .inl (cI, S * Wy, .inl (kd))), (t3, .inl (cI, S * Wy, .inl (tt))), (t4, .inl (cI, S * Wy, .inl (lu))), (u0, .inr (0, [.ref (u1), .ref (u2), .int (hh)])), (u1, .inl (cI, 64, .inl (hg))), (u2, .inl (cI, 64, .inl (hq))), (r0, .inr (2, [.int (nI L), .int (nI (rd)), .int (ro), .int (ru), .ref (r1)])), (r1, .inl (cI, L, .inl (rp))), (q0, .inr (1, [.int (nI ((qf_drop (qp, qt, qd, qr, qs, qf)).2.2.2.2.1)), .int (nI ((qf_drop (qp, qt, qd, qr, qs, qf)).2.2.2.2.2)), .int (nI L), .ref (q1), .ref (q2), .ref (q3), .ref (q4)])), (q1, .inl (cI, 16, .inl ((qf_drop (qp, qt, qd, qr, qs, qf)).1))), (q2, .inl (cI, 16, .inl ((qf_drop (qp, qt, qd, qr, qs, qf)).2.1))), (q3, .inl (cI, 16, .inl ((qf_drop (qp, qt, qd, qr, qs, qf)).2.2.1))), (q4, .inl (cI, 16 * L, .inl ((qf_drop (qp, qt, qd, qr, qs, qf)).2.2.2.1)))]) [0, 1, 2, 3, 4, 5, 6, 7, 8, 9, 10, 11, 12, 13, 14, 15, 16] rfl
      have hD := hD.sub (ws' := [(b0, .inr (4, [.ref (t0), .ref (u0), .ref (r0), .ref (q0), .ref (b1), .int (ck), .int (ls_)])), (b1, .inl (cI, 7, .inl (an))), (t0, .inr (3, [.int (nI S), .int (nI Wy), .ref (t1), .ref (t2), .ref (t3), .int (fl), .int (nI sb), .ref (t4), .int (us)])), (t1, .inl (cI, S * Wy, .inl (tg))), (t2, .inl (cI, S * Wy, .inl (kd))), (t3, .inl (cI, S * Wy, .inl (tt))), (t4, .inl (cI, S * Wy, .inl (lu))), (u0, .inr (0, [.ref (u1), .ref (u2), .int (hh)])), (u1, .inl (cI, 64, .inl (hg))), (u2, .inl (cI, 64, .inl (hq))), (r0, .inr (2, [.int (nI L), .int (nI (rd)), .int (ro), .int (ru), .ref (r1)])), (r1, .inl (cI, L, .inl (rp))), (q0, .inr (1, [.int (nI ((qf_drop (qp, qt, qd, qr, qs, qf)).2.2.2.2.1)), .int (nI ((qf_drop (qp, qt, qd, qr, qs, qf)).2.2.2.2.2)), .int (nI L), .ref (q1), .ref (q2), .ref (q3), .ref (q4)])), (q1, .inl (cI, 16, .inl ((qf_drop (qp, qt, qd, qr, qs, qf)).1))), (q2, .inl (cI, 16, .inl ((qf_drop (qp, qt, qd, qr, qs, qf)).2.1))), (q3, .inl (cI, 16, .inl ((qf_drop (qp, qt, qd, qr, qs, qf)).2.2.1))), (q4, .inl (cI, 16 * L, .inl ((qf_drop (qp, qt, qd, qr, qs, qf)).2.2.2.1)))]) [0, 1, 2, 3, 4, 5, 6, 7, 8, 9, 10, 11, 12, 13, 14, 15, 16] (by decide) rfl
      refine lv_goto (tgt := 114) hx hb dX4_check_103 (by decide) ?_
      refine lv_iload_n hx hb dX4_check_114 rfl (lv_at hl 5 rfl) ?_
      refine lv_if_eq (tgt := 126) hx hb dX4_check_115 (by decide) (fun c_115 => ?_) (fun c_115 => absurd c_50 c_115)
      refine lv_aload_n hx hb dX4_check_126 rfl (lv_at hl 3 rfl) ?_
      refine lv_dup hx hb dX4_check_127 rfl ?_
      refine va_get (D := D) (ci := 4) (v := .int (ck)) (C := RX4) (T := TX4) (N := 7) hx hb hts (fun w h => List.mem_cons_of_mem _ (hiX4 w h)) hown hK hP 0 rfl rfl 5 (by decide) kf113 (fun _ h9 => h9) rfl dX4_check_128 ?_
      refine lv_iconst (v := 1) hx hb dX4_check_131 (by decide) ?_
      refine lv_iadd hx hb dX4_check_132 ?_
      refine va_put (D := D) (ci := 4) (v := .int ((ck) + (1))) (ty := .int) (C := RX4) (T := TX4) (N := 7) hx hb hts (fun w h => List.mem_cons_of_mem _ (hiX4 w h)) tyX4 tyX4_ok nmX4 hown hK hP hD hS 0 rfl rfl 5 (by decide) kf113 (fun _ h9 => h9) rfl (by decide +kernel) rfl rfl (Nat.le_of_ble_eq_true rfl) dX4_check_133 (fun H locs hP hD hS => ?_)
      have hP : va_P D vwCl [(b0, .inr (4, [.ref (t0), .ref (u0), .ref (r0), .ref (q0), .ref (b1), .int ((ck) + (1)), .int (ls_)])), (b1, .inl (cI, 7, .inl (an))), (t0, .inr (3, [.int (nI S), .int (nI Wy), .ref (t1), .ref (t2), .ref (t3), .int (fl), .int (nI sb), .ref (t4), .int (us)])), (t1, .inl (cI, S * Wy, .inl (tg))), (t2, .inl (cI, S * Wy, .inl (kd))), (t3, .inl (cI, S * Wy, .inl (tt))), (t4, .inl (cI, S * Wy, .inl (lu))), (u0, .inr (0, [.ref (u1), .ref (u2), .int (hh)])), (u1, .inl (cI, 64, .inl (hg))), (u2, .inl (cI, 64, .inl (hq))), (r0, .inr (2, [.int (nI L), .int (nI (rd)), .int (ro), .int (ru), .ref (r1)])), (r1, .inl (cI, L, .inl (rp))), (q0, .inr (1, [.int (nI ((qf_drop (qp, qt, qd, qr, qs, qf)).2.2.2.2.1)), .int (nI ((qf_drop (qp, qt, qd, qr, qs, qf)).2.2.2.2.2)), .int (nI L), .ref (q1), .ref (q2), .ref (q3), .ref (q4)])), (q1, .inl (cI, 16, .inl ((qf_drop (qp, qt, qd, qr, qs, qf)).1))), (q2, .inl (cI, 16, .inl ((qf_drop (qp, qt, qd, qr, qs, qf)).2.1))), (q3, .inl (cI, 16, .inl ((qf_drop (qp, qt, qd, qr, qs, qf)).2.2.1))), (q4, .inl (cI, 16 * L, .inl ((qf_drop (qp, qt, qd, qr, qs, qf)).2.2.2.1)))] H := hP
      have hD : va_D A [(b0, .inr (4, [.ref (t0), .ref (u0), .ref (r0), .ref (q0), .ref (b1), .int ((ck) + (1)), .int (ls_)])), (b1, .inl (cI, 7, .inl (an))), (t0, .inr (3, [.int (nI S), .int (nI Wy), .ref (t1), .ref (t2), .ref (t3), .int (fl), .int (nI sb), .ref (t4), .int (us)])), (t1, .inl (cI, S * Wy, .inl (tg))), (t2, .inl (cI, S * Wy, .inl (kd))), (t3, .inl (cI, S * Wy, .inl (tt))), (t4, .inl (cI, S * Wy, .inl (lu))), (u0, .inr (0, [.ref (u1), .ref (u2), .int (hh)])), (u1, .inl (cI, 64, .inl (hg))), (u2, .inl (cI, 64, .inl (hq))), (r0, .inr (2, [.int (nI L), .int (nI (rd)), .int (ro), .int (ru), .ref (r1)])), (r1, .inl (cI, L, .inl (rp))), (q0, .inr (1, [.int (nI ((qf_drop (qp, qt, qd, qr, qs, qf)).2.2.2.2.1)), .int (nI ((qf_drop (qp, qt, qd, qr, qs, qf)).2.2.2.2.2)), .int (nI L), .ref (q1), .ref (q2), .ref (q3), .ref (q4)])), (q1, .inl (cI, 16, .inl ((qf_drop (qp, qt, qd, qr, qs, qf)).1))), (q2, .inl (cI, 16, .inl ((qf_drop (qp, qt, qd, qr, qs, qf)).2.1))), (q3, .inl (cI, 16, .inl ((qf_drop (qp, qt, qd, qr, qs, qf)).2.2.1))), (q4, .inl (cI, 16 * L, .inl ((qf_drop (qp, qt, qd, qr, qs, qf)).2.2.2.1)))] := hD
      refine lv_aload_n hx hb dX4_check_136 rfl (lv_at hl 3 rfl) ?_
      refine va_get (D := D) (ci := 4) (v := .ref (b1)) (C := RX4) (T := TX4) (N := 7) hx hb hts (fun w h => List.mem_cons_of_mem _ (hiX4 w h)) hown hK hP 0 rfl rfl 4 (by decide) kf47 (fun _ h9 => h9) rfl dX4_check_137 ?_
      refine lv_iload hx hb dX4_check_140 (lv_at hl 0 rfl) ?_
      refine lv_dup2_11 hx hb dX4_check_142 rfl rfl ?_
      refine ka_ild hx hb hK hP 1 0 rfl rfl (k := 0) (rfl) (⟨by decide, by decide⟩) dX4_check_143 ?_
      refine lv_iconst (v := 1) hx hb dX4_check_144 (by decide) ?_
      refine lv_iadd hx hb dX4_check_145 ?_
      refine ka_ist hx hb hK hP hD hS 1 0 rfl rfl (k := 0) (rfl) (⟨by decide, by decide⟩) dX4_check_146 (fun H locs hP hD hS => ?_)
      have hP : va_P D vwCl [(b0, .inr (4, [.ref (t0), .ref (u0), .ref (r0), .ref (q0), .ref (b1), .int ((ck) + (1)), .int (ls_)])), (b1, .inl (cI, 7, .inl (upd (an) (0) (((an) (0)) + (1))))), (t0, .inr (3, [.int (nI S), .int (nI Wy), .ref (t1), .ref (t2), .ref (t3), .int (fl), .int (nI sb), .ref (t4), .int (us)])), (t1, .inl (cI, S * Wy, .inl (tg))), (t2, .inl (cI, S * Wy, .inl (kd))), (t3, .inl (cI, S * Wy, .inl (tt))), (t4, .inl (cI, S * Wy, .inl (lu))), (u0, .inr (0, [.ref (u1), .ref (u2), .int (hh)])), (u1, .inl (cI, 64, .inl (hg))), (u2, .inl (cI, 64, .inl (hq))), (r0, .inr (2, [.int (nI L), .int (nI (rd)), .int (ro), .int (ru), .ref (r1)])), (r1, .inl (cI, L, .inl (rp))), (q0, .inr (1, [.int (nI ((qf_drop (qp, qt, qd, qr, qs, qf)).2.2.2.2.1)), .int (nI ((qf_drop (qp, qt, qd, qr, qs, qf)).2.2.2.2.2)), .int (nI L), .ref (q1), .ref (q2), .ref (q3), .ref (q4)])), (q1, .inl (cI, 16, .inl ((qf_drop (qp, qt, qd, qr, qs, qf)).1))), (q2, .inl (cI, 16, .inl ((qf_drop (qp, qt, qd, qr, qs, qf)).2.1))), (q3, .inl (cI, 16, .inl ((qf_drop (qp, qt, qd, qr, qs, qf)).2.2.1))), (q4, .inl (cI, 16 * L, .inl ((qf_drop (qp, qt, qd, qr, qs, qf)).2.2.2.1)))] H := hP
      have hD : va_D A [(b0, .inr (4, [.ref (t0), .ref (u0), .ref (r0), .ref (q0), .ref (b1), .int ((ck) + (1)), .int (ls_)])), (b1, .inl (cI, 7, .inl (upd (an) (0) (((an) (0)) + (1))))), (t0, .inr (3, [.int (nI S), .int (nI Wy), .ref (t1), .ref (t2), .ref (t3), .int (fl), .int (nI sb), .ref (t4), .int (us)])), (t1, .inl (cI, S * Wy, .inl (tg))), (t2, .inl (cI, S * Wy, .inl (kd))), (t3, .inl (cI, S * Wy, .inl (tt))), (t4, .inl (cI, S * Wy, .inl (lu))), (u0, .inr (0, [.ref (u1), .ref (u2), .int (hh)])), (u1, .inl (cI, 64, .inl (hg))), (u2, .inl (cI, 64, .inl (hq))), (r0, .inr (2, [.int (nI L), .int (nI (rd)), .int (ro), .int (ru), .ref (r1)])), (r1, .inl (cI, L, .inl (rp))), (q0, .inr (1, [.int (nI ((qf_drop (qp, qt, qd, qr, qs, qf)).2.2.2.2.1)), .int (nI ((qf_drop (qp, qt, qd, qr, qs, qf)).2.2.2.2.2)), .int (nI L), .ref (q1), .ref (q2), .ref (q3), .ref (q4)])), (q1, .inl (cI, 16, .inl ((qf_drop (qp, qt, qd, qr, qs, qf)).1))), (q2, .inl (cI, 16, .inl ((qf_drop (qp, qt, qd, qr, qs, qf)).2.1))), (q3, .inl (cI, 16, .inl ((qf_drop (qp, qt, qd, qr, qs, qf)).2.2.1))), (q4, .inl (cI, 16 * L, .inl ((qf_drop (qp, qt, qd, qr, qs, qf)).2.2.2.1)))] := hD
      refine lv_iload hx hb dX4_check_147 (lv_at hl 0 rfl) ?_
      exact kr_i (congrArg (wTR b0 b1 t0 t1 t2 t3 t4 u0 u1 u2 r0 r1 q0 q1 q2 q3 q4 cI S Wy sb L ) (show (((tg, kd, tt, lu, fl, us), (hg, hq, hh), (rp, rd, ro, ru), ((qf_drop (qp, qt, qd, qr, qs, qf)).1, (qf_drop (qp, qt, qd, qr, qs, qf)).2.1, (qf_drop (qp, qt, qd, qr, qs, qf)).2.2.1, (qf_drop (qp, qt, qd, qr, qs, qf)).2.2.2.1, (qf_drop (qp, qt, qd, qr, qs, qf)).2.2.2.2.1, (qf_drop (qp, qt, qd, qr, qs, qf)).2.2.2.2.2), upd (an) (0) (((an) (0)) + (1)), (ck) + (1), ls_) : Cs) = cf_chk S Wy sb L ((tg, kd, tt, lu, fl, us), (hg, hq, hh), (rp, rd, ro, ru), (qp, qt, qd, qr, qs, qf), an, ck, ls_) d0 p0 p1 p2 from by simp only [cf_chk, cf_ans, cf_went, cf_pl, cf_td, if_pos c_50, if_pos c_74, show (0 : Int32).toNatClampNeg = 0 from rfl])) hx hb hr hlocks hP hK hD hS (by simp only [cf_ans, cf_went, cf_pl, cf_td, if_pos c_50, if_pos c_74]; rfl) dX4_check_149
  ·
    refine lv_iload_n hx hb dX4_check_53 rfl (lv_at hl 4 rfl) ?_
    refine lv_goto (tgt := 62) hx hb dX4_check_54 (by decide) ?_
    refine lv_istore (lv' := [(5, .int (p2)), (4, .int ((qp) (qf_ix (qp, qt, qd, qr, qs, qf) (0)))), (0, .ref (b0)), (1, .int (p0)), (2, .int (p1)), (3, .int (p2))]) hx hb dX4_check_62 hl (by decide) rfl (fun ls hl => ?_)
    refine lv_aload_n hx hb dX4_check_64 rfl (lv_at hl 2 rfl) ?_
    refine va_get (D := D) (ci := 4) (v := .ref (q0)) (C := RX4) (T := TX4) (N := 7) hx hb hts (fun w h => List.mem_cons_of_mem _ (hiX4 w h)) hown hK hP 0 rfl rfl 3 (by decide) kf43 (fun _ h9 => h9) rfl dX4_check_65 ?_
    refine lv_iconst (v := 0) hx hb dX4_check_68 (by decide) ?_
    refine kt_i (y := nI (0)) (rfl) ?_
    refine kc_i (wc := [(q0, .inr (1, [.int (nI (qs)), .int (nI (qf)), .int (nI L), .ref (q1), .ref (q2), .ref (q3), .ref (q4)])), (q1, .inl (cI, 16, .inl (qp))), (q2, .inl (cI, 16, .inl (qt))), (q3, .inl (cI, 16, .inl (qd))), (q4, .inl (cI, 16 * L, .inl (qr)))]) (wr := [(b0, .inr (4, [.ref (t0), .ref (u0), .ref (r0), .ref (q0), .ref (b1), .int (ck), .int (ls_)])), (b1, .inl (cI, 7, .inl (an))), (t0, .inr (3, [.int (nI S), .int (nI Wy), .ref (t1), .ref (t2), .ref (t3), .int (fl), .int (nI sb), .ref (t4), .int (us)])), (t1, .inl (cI, S * Wy, .inl (tg))), (t2, .inl (cI, S * Wy, .inl (kd))), (t3, .inl (cI, S * Wy, .inl (tt))), (t4, .inl (cI, S * Wy, .inl (lu))), (u0, .inr (0, [.ref (u1), .ref (u2), .int (hh)])), (u1, .inl (cI, 64, .inl (hg))), (u2, .inl (cI, 64, .inl (hq))), (r0, .inr (2, [.int (nI L), .int (nI (rd)), .int (ro), .int (ru), .ref (r1)])), (r1, .inl (cI, L, .inl (rp)))]) [12, 13, 14, 15, 16] [0, 1, 2, 3, 4, 5, 6, 7, 8, 9, 10, 11] rfl rfl (by decide) (by decide) hP hD hS hA (va_runV (As := [.int (nI (0))]) (rest := []) ⟨hx, hb, hml, hown, hts⟩ (c_X1_toldAt l D cI cJ cZ _ _ _ _ _ _ _ _ _ _ _ _ _ _ (by omega) hf hL) (cwV 1 hts (kw_V kw_417 kw_418 kw_419 kw_32 kw_420) rfl rfl rfl (by decide +kernel) ⟨Nat.le_of_ble_eq_true rfl, Nat.le_of_ble_eq_true rfl⟩) ⟨kP_blind, va_recv hK (hP.sub (ws' := [(q0, .inr (1, [.int (nI (qs)), .int (nI (qf)), .int (nI L), .ref (q1), .ref (q2), .ref (q3), .ref (q4)])), (q1, .inl (cI, 16, .inl (qp))), (q2, .inl (cI, 16, .inl (qt))), (q3, .inl (cI, 16, .inl (qd))), (q4, .inl (cI, 16 * L, .inl (qr)))]) [12, 13, 14, 15, 16] rfl) (ci := 1) (q0 := 0) rfl rfl, kP_at (hP.sub [12, 13, 14, 15, 16] rfl) hK (hD.sub [12, 13, 14, 15, 16] (by decide) rfl)⟩ rfl rfl hl.1 rfl (lv_room (Nat.le_of_ble_eq_true rfl)) dX4_check_69 ⟨Nat.zero_le _, Nat.zero_le _⟩) (fun H locs hP hD hS => ?_)
    have hP := hP.sub (ws' := [(b0, .inr (4, [.ref (t0), .ref (u0), .ref (r0), .ref (q0), .ref (b1), .int (ck), .int (ls_)])), (b1, .inl (cI, 7, .inl (an))), (t0, .inr (3, [.int (nI S), .int (nI Wy), .ref (t1), .ref (t2), .ref (t3), .int (fl), .int (nI sb), .ref (t4), .int (us)])), (t1, .inl (cI, S * Wy, .inl (tg))), (t2, .inl (cI, S * Wy, .inl (kd))), (t3, .inl (cI, S * Wy, .inl (tt))), (t4, .inl (cI, S * Wy, .inl (lu))), (u0, .inr (0, [.ref (u1), .ref (u2), .int (hh)])), (u1, .inl (cI, 64, .inl (hg))), (u2, .inl (cI, 64, .inl (hq))), (r0, .inr (2, [.int (nI L), .int (nI (rd)), .int (ro), .int (ru), .ref (r1)])), (r1, .inl (cI, L, .inl (rp))), (q0, .inr (1, [.int (nI (qs)), .int (nI (qf)), .int (nI L), .ref (q1), .ref (q2), .ref (q3), .ref (q4)])), (q1, .inl (cI, 16, .inl (qp))), (q2, .inl (cI, 16, .inl (qt))), (q3, .inl (cI, 16, .inl (qd))), (q4, .inl (cI, 16 * L, .inl (qr)))]) [0, 1, 2, 3, 4, 5, 6, 7, 8, 9, 10, 11, 12, 13, 14, 15, 16] rfl
    have hD := hD.sub (ws' := [(b0, .inr (4, [.ref (t0), .ref (u0), .ref (r0), .ref (q0), .ref (b1), .int (ck), .int (ls_)])), (b1, .inl (cI, 7, .inl (an))), (t0, .inr (3, [.int (nI S), .int (nI Wy), .ref (t1), .ref (t2), .ref (t3), .int (fl), .int (nI sb), .ref (t4), .int (us)])), (t1, .inl (cI, S * Wy, .inl (tg))), (t2, .inl (cI, S * Wy, .inl (kd))), (t3, .inl (cI, S * Wy, .inl (tt))), (t4, .inl (cI, S * Wy, .inl (lu))), (u0, .inr (0, [.ref (u1), .ref (u2), .int (hh)])), (u1, .inl (cI, 64, .inl (hg))), (u2, .inl (cI, 64, .inl (hq))), (r0, .inr (2, [.int (nI L), .int (nI (rd)), .int (ro), .int (ru), .ref (r1)])), (r1, .inl (cI, L, .inl (rp))), (q0, .inr (1, [.int (nI (qs)), .int (nI (qf)), .int (nI L), .ref (q1), .ref (q2), .ref (q3), .ref (q4)])), (q1, .inl (cI, 16, .inl (qp))), (q2, .inl (cI, 16, .inl (qt))), (q3, .inl (cI, 16, .inl (qd))), (q4, .inl (cI, 16 * L, .inl (qr)))]) [0, 1, 2, 3, 4, 5, 6, 7, 8, 9, 10, 11, 12, 13, 14, 15, 16] (by decide) rfl
    refine lv_iload hx hb dX4_check_72 (lv_at hl 0 rfl) ?_
    refine lv_icmp_ne (tgt := 81) hx hb dX4_check_74 (by decide) (fun c_74 => ?_) (fun c_74 => ?_)
    ·
      refine lv_aload_n hx hb dX4_check_81 rfl (lv_at hl 2 rfl) ?_
      refine lv_iload hx hb dX4_check_82 (lv_at hl 1 rfl) ?_
      refine lv_iload_n hx hb dX4_check_84 rfl (lv_at hl 3 rfl) ?_
      refine lv_iload_n hx hb dX4_check_85 rfl (lv_at hl 4 rfl) ?_
      obtain ⟨j, hj1, hj, ej⟩ := cf_cause_n (kd) (p0) (p1) (tf_find S Wy sb (tg, kd, tt, lu, fl, us) ((qp) (qf_ix (qp, qt, qd, qr, qs, qf) (0))))
      refine kc_i (wc := [(b0, .inr (4, [.ref (t0), .ref (u0), .ref (r0), .ref (q0), .ref (b1), .int (ck), .int (ls_)])), (b1, .inl (cI, 7, .inl (an))), (t0, .inr (3, [.int (nI S), .int (nI Wy), .ref (t1), .ref (t2), .ref (t3), .int (fl), .int (nI sb), .ref (t4), .int (us)])), (t1, .inl (cI, S * Wy, .inl (tg))), (t2, .inl (cI, S * Wy, .inl (kd))), (t3, .inl (cI, S * Wy, .inl (tt))), (t4, .inl (cI, S * Wy, .inl (lu))), (u0, .inr (0, [.ref (u1), .ref (u2), .int (hh)])), (u1, .inl (cI, 64, .inl (hg))), (u2, .inl (cI, 64, .inl (hq))), (r0, .inr (2, [.int (nI L), .int (nI (rd)), .int (ro), .int (ru), .ref (r1)])), (r1, .inl (cI, L, .inl (rp))), (q0, .inr (1, [.int (nI (qs)), .int (nI (qf)), .int (nI L), .ref (q1), .ref (q2), .ref (q3), .ref (q4)])), (q1, .inl (cI, 16, .inl (qp))), (q2, .inl (cI, 16, .inl (qt))), (q3, .inl (cI, 16, .inl (qd))), (q4, .inl (cI, 16 * L, .inl (qr)))]) (wr := []) [0, 1, 2, 3, 4, 5, 6, 7, 8, 9, 10, 11, 12, 13, 14, 15, 16] [] rfl rfl (by decide) (by decide) hP hD hS hA (va_runV (As := [.int ((qp) (qf_ix (qp, qt, qd, qr, qs, qf) (0))), .int (p0), .int (p1)]) (rest := []) ⟨hx, hb, hml, hown, hts⟩ (c_X4_causeOf l D cI cJ cZ _ _ _ _ _ _ _ _ _ _ _ _ _ _ _ _ _ _ _ _ _ _ _ _ _ _ _ _ _ _ _ _ _ _ _ _ _ _ _ _ _ _ _ _ _ _ _ hSs hS16 hsb hW hW4 hd hL hf hs) (cwV 3 hts (kw_V kw_421 kw_423 kw_8 kw_26 kw_424) rfl rfl rfl (by decide +kernel) ⟨Nat.le_of_ble_eq_true rfl, Nat.le_of_ble_eq_true rfl⟩) ⟨kP_blind, va_recv hK (hP.sub (ws' := [(b0, .inr (4, [.ref (t0), .ref (u0), .ref (r0), .ref (q0), .ref (b1), .int (ck), .int (ls_)])), (b1, .inl (cI, 7, .inl (an))), (t0, .inr (3, [.int (nI S), .int (nI Wy), .ref (t1), .ref (t2), .ref (t3), .int (fl), .int (nI sb), .ref (t4), .int (us)])), (t1, .inl (cI, S * Wy, .inl (tg))), (t2, .inl (cI, S * Wy, .inl (kd))), (t3, .inl (cI, S * Wy, .inl (tt))), (t4, .inl (cI, S * Wy, .inl (lu))), (u0, .inr (0, [.ref (u1), .ref (u2), .int (hh)])), (u1, .inl (cI, 64, .inl (hg))), (u2, .inl (cI, 64, .inl (hq))), (r0, .inr (2, [.int (nI L), .int (nI (rd)), .int (ro), .int (ru), .ref (r1)])), (r1, .inl (cI, L, .inl (rp))), (q0, .inr (1, [.int (nI (qs)), .int (nI (qf)), .int (nI L), .ref (q1), .ref (q2), .ref (q3), .ref (q4)])), (q1, .inl (cI, 16, .inl (qp))), (q2, .inl (cI, 16, .inl (qt))), (q3, .inl (cI, 16, .inl (qd))), (q4, .inl (cI, 16 * L, .inl (qr)))]) [0, 1, 2, 3, 4, 5, 6, 7, 8, 9, 10, 11, 12, 13, 14, 15, 16] rfl) (ci := 4) (q0 := 0) rfl rfl, kP_at (hP.sub [0, 1, 2, 3, 4, 5, 6, 7, 8, 9, 10, 11, 12, 13, 14, 15, 16] rfl) hK (hD.sub [0, 1, 2, 3, 4, 5, 6, 7, 8, 9, 10, 11, 12, 13, 14, 15, 16] (by decide) rfl)⟩ rfl rfl hl.1 rfl (lv_room (Nat.le_of_ble_eq_true rfl)) dX4_check_86 ⟨Nat.zero_le _, Nat.zero_le _⟩) (fun H locs hP hD hS => ?_)
      have hP := hP.sub (ws' := [(b0, .inr (4, [.ref (t0), .ref (u0), .ref (r0), .ref (q0), .ref (b1), .int (ck), .int (ls_)])), (b1, .inl (cI, 7, .inl (an))), (t0, .inr (3, [.int (nI S), .int (nI Wy), .ref (t1), .ref (t2), .ref (t3), .int (fl), .int (nI sb), .ref (t4), .int (us)])), (t1, .inl (cI, S * Wy, .inl (tg))), (t2, .inl (cI, S * Wy, .inl (kd))), (t3, .inl (cI, S * Wy, .inl (tt))), (t4, .inl (cI, S * Wy, .inl (lu))), (u0, .inr (0, [.ref (u1), .ref (u2), .int (hh)])), (u1, .inl (cI, 64, .inl (hg))), (u2, .inl (cI, 64, .inl (hq))), (r0, .inr (2, [.int (nI L), .int (nI (rd)), .int (ro), .int (ru), .ref (r1)])), (r1, .inl (cI, L, .inl (rp))), (q0, .inr (1, [.int (nI (qs)), .int (nI (qf)), .int (nI L), .ref (q1), .ref (q2), .ref (q3), .ref (q4)])), (q1, .inl (cI, 16, .inl (qp))), (q2, .inl (cI, 16, .inl (qt))), (q3, .inl (cI, 16, .inl (qd))), (q4, .inl (cI, 16 * L, .inl (qr)))]) [0, 1, 2, 3, 4, 5, 6, 7, 8, 9, 10, 11, 12, 13, 14, 15, 16] rfl
      have hD := hD.sub (ws' := [(b0, .inr (4, [.ref (t0), .ref (u0), .ref (r0), .ref (q0), .ref (b1), .int (ck), .int (ls_)])), (b1, .inl (cI, 7, .inl (an))), (t0, .inr (3, [.int (nI S), .int (nI Wy), .ref (t1), .ref (t2), .ref (t3), .int (fl), .int (nI sb), .ref (t4), .int (us)])), (t1, .inl (cI, S * Wy, .inl (tg))), (t2, .inl (cI, S * Wy, .inl (kd))), (t3, .inl (cI, S * Wy, .inl (tt))), (t4, .inl (cI, S * Wy, .inl (lu))), (u0, .inr (0, [.ref (u1), .ref (u2), .int (hh)])), (u1, .inl (cI, 64, .inl (hg))), (u2, .inl (cI, 64, .inl (hq))), (r0, .inr (2, [.int (nI L), .int (nI (rd)), .int (ro), .int (ru), .ref (r1)])), (r1, .inl (cI, L, .inl (rp))), (q0, .inr (1, [.int (nI (qs)), .int (nI (qf)), .int (nI L), .ref (q1), .ref (q2), .ref (q3), .ref (q4)])), (q1, .inl (cI, 16, .inl (qp))), (q2, .inl (cI, 16, .inl (qt))), (q3, .inl (cI, 16, .inl (qd))), (q4, .inl (cI, 16 * L, .inl (qr)))]) [0, 1, 2, 3, 4, 5, 6, 7, 8, 9, 10, 11, 12, 13, 14, 15, 16] (by decide) rfl
      refine kt_i (y := nI (j)) (ej) ?_
      refine lv_istore (lv' := [(6, .int (nI (j))), (5, .int (p2)), (4, .int ((qp) (qf_ix (qp, qt, qd, qr, qs, qf) (0)))), (0, .ref (b0)), (1, .int (p0)), (2, .int (p1)), (3, .int (p2))]) hx hb dX4_check_89 hl (by decide) rfl (fun ls hl => ?_)
      refine lv_iload hx hb dX4_check_91 (lv_at hl 0 rfl) ?_
      refine lv_if_ne (tgt := 106) hx hb dX4_check_93 (by decide) (fun c_93 => ?_) (fun c_93 => absurd c_93 (nI_ne0 (by omega) (by omega)))
      refine lv_aload_n hx hb dX4_check_106 rfl (lv_at hl 3 rfl) ?_
      refine lv_iload hx hb dX4_check_107 (lv_at hl 2 rfl) ?_
      refine lv_iload_n hx hb dX4_check_109 rfl (lv_at hl 4 rfl) ?_
      refine lv_iload_n hx hb dX4_check_110 rfl (lv_at hl 5 rfl) ?_
      refine kc_v (wc := [(b0, .inr (4, [.ref (t0), .ref (u0), .ref (r0), .ref (q0), .ref (b1), .int (ck), .int (ls_)])), (b1, .inl (cI, 7, .inl (an))), (t0, .inr (3, [.int (nI S), .int (nI Wy), .ref (t1), .ref (t2), .ref (t3), .int (fl), .int (nI sb), .ref (t4), .int (us)])), (t1, .inl (cI, S * Wy, .inl (tg))), (t2, .inl (cI, S * Wy, .inl (kd))), (t3, .inl (cI, S * Wy, .inl (tt))), (t4, .inl (cI, S * Wy, .inl (lu))), (u0, .inr (0, [.ref (u1), .ref (u2), .int (hh)])), (u1, .inl (cI, 64, .inl (hg))), (u2, .inl (cI, 64, .inl (hq))), (r0, .inr (2, [.int (nI L), .int (nI (rd)), .int (ro), .int (ru), .ref (r1)])), (r1, .inl (cI, L, .inl (rp))), (q0, .inr (1, [.int (nI (qs)), .int (nI (qf)), .int (nI L), .ref (q1), .ref (q2), .ref (q3), .ref (q4)])), (q1, .inl (cI, 16, .inl (qp))), (q2, .inl (cI, 16, .inl (qt))), (q3, .inl (cI, 16, .inl (qd))), (q4, .inl (cI, 16 * L, .inl (qr)))]) (wr := []) [0, 1, 2, 3, 4, 5, 6, 7, 8, 9, 10, 11, 12, 13, 14, 15, 16] [] rfl rfl (by decide) (by decide) hP hD hS hA (va_runV (As := [.int ((qp) (qf_ix (qp, qt, qd, qr, qs, qf) (0))), .int (p0), .int (p1)]) (rest := []) ⟨hx, hb, hml, hown, hts⟩ (c_X4_repair l D cI cJ cZ _ _ _ _ _ _ _ _ _ _ _ _ _ _ _ _ _ _ _ _ _ _ _ _ _ _ _ _ _ _ _ _ _ _ _ _ _ _ _ _ _ _ _ _ _ _ _ d0 hd0 hdL hSs hS16 hsb hW hW4 hd hL hf hs) (cwV 3 hts (kw_V kw_429 kw_431 kw_9 kw_26 kw_432) rfl rfl rfl (by decide +kernel) ⟨Nat.le_of_ble_eq_true rfl, Nat.le_of_ble_eq_true rfl⟩) ⟨kP_blind, va_recv hK (hP.sub (ws' := [(b0, .inr (4, [.ref (t0), .ref (u0), .ref (r0), .ref (q0), .ref (b1), .int (ck), .int (ls_)])), (b1, .inl (cI, 7, .inl (an))), (t0, .inr (3, [.int (nI S), .int (nI Wy), .ref (t1), .ref (t2), .ref (t3), .int (fl), .int (nI sb), .ref (t4), .int (us)])), (t1, .inl (cI, S * Wy, .inl (tg))), (t2, .inl (cI, S * Wy, .inl (kd))), (t3, .inl (cI, S * Wy, .inl (tt))), (t4, .inl (cI, S * Wy, .inl (lu))), (u0, .inr (0, [.ref (u1), .ref (u2), .int (hh)])), (u1, .inl (cI, 64, .inl (hg))), (u2, .inl (cI, 64, .inl (hq))), (r0, .inr (2, [.int (nI L), .int (nI (rd)), .int (ro), .int (ru), .ref (r1)])), (r1, .inl (cI, L, .inl (rp))), (q0, .inr (1, [.int (nI (qs)), .int (nI (qf)), .int (nI L), .ref (q1), .ref (q2), .ref (q3), .ref (q4)])), (q1, .inl (cI, 16, .inl (qp))), (q2, .inl (cI, 16, .inl (qt))), (q3, .inl (cI, 16, .inl (qd))), (q4, .inl (cI, 16 * L, .inl (qr)))]) [0, 1, 2, 3, 4, 5, 6, 7, 8, 9, 10, 11, 12, 13, 14, 15, 16] rfl) (ci := 4) (q0 := 0) rfl rfl, kP_at (hP.sub [0, 1, 2, 3, 4, 5, 6, 7, 8, 9, 10, 11, 12, 13, 14, 15, 16] rfl) hK (hD.sub [0, 1, 2, 3, 4, 5, 6, 7, 8, 9, 10, 11, 12, 13, 14, 15, 16] (by decide) rfl)⟩ rfl rfl hl.1 rfl (lv_room (Nat.le_of_ble_eq_true rfl)) dX4_check_111 ⟨Nat.zero_le _, Nat.zero_le _⟩) (fun H locs hP hD hS => ?_)
      have hP := hP.sub (ws' := [(b0, .inr (4, [.ref (t0), .ref (u0), .ref (r0), .ref (q0), .ref (b1), .int (ck), .int ((ls_) + (nI (qs) - 1))])), (b1, .inl (cI, 7, .inl (an))), (t0, .inr (3, [.int (nI S), .int (nI Wy), .ref (t1), .ref (t2), .ref (t3), .int (fl), .int (nI sb), .ref (t4), .int (us)])), (t1, .inl (cI, S * Wy, .inl (tg))), (t2, .inl (cI, S * Wy, .inl (kd))), (t3, .inl (cI, S * Wy, .inl (tt))), (t4, .inl (cI, S * Wy, .inl (lu))), (u0, .inr (0, [.ref (u1), .ref (u2), .int (hh)])), (u1, .inl (cI, 64, .inl (hg))), (u2, .inl (cI, 64, .inl (hq))), (r0, .inr (2, [.int (nI L), .int (nI ((if (p1) = 0 then cf_back L (qp, qt, qd, qr, qs, qf) (rp, rd, ro, ru) (d0) else cf_move L (cf_back L (qp, qt, qd, qr, qs, qf) (rp, rd, ro, ru) (d0)) (p0) ((qp) (qf_ix (qp, qt, qd, qr, qs, qf) (0)))).2.1)), .int ((if (p1) = 0 then cf_back L (qp, qt, qd, qr, qs, qf) (rp, rd, ro, ru) (d0) else cf_move L (cf_back L (qp, qt, qd, qr, qs, qf) (rp, rd, ro, ru) (d0)) (p0) ((qp) (qf_ix (qp, qt, qd, qr, qs, qf) (0)))).2.2.1), .int ((if (p1) = 0 then cf_back L (qp, qt, qd, qr, qs, qf) (rp, rd, ro, ru) (d0) else cf_move L (cf_back L (qp, qt, qd, qr, qs, qf) (rp, rd, ro, ru) (d0)) (p0) ((qp) (qf_ix (qp, qt, qd, qr, qs, qf) (0)))).2.2.2), .ref (r1)])), (r1, .inl (cI, L, .inl ((if (p1) = 0 then cf_back L (qp, qt, qd, qr, qs, qf) (rp, rd, ro, ru) (d0) else cf_move L (cf_back L (qp, qt, qd, qr, qs, qf) (rp, rd, ro, ru) (d0)) (p0) ((qp) (qf_ix (qp, qt, qd, qr, qs, qf) (0)))).1))), (q0, .inr (1, [.int (nI ((qf_clear (qp, qt, qd, qr, qs, qf)).2.2.2.2.1)), .int (nI ((qf_clear (qp, qt, qd, qr, qs, qf)).2.2.2.2.2)), .int (nI L), .ref (q1), .ref (q2), .ref (q3), .ref (q4)])), (q1, .inl (cI, 16, .inl ((qf_clear (qp, qt, qd, qr, qs, qf)).1))), (q2, .inl (cI, 16, .inl ((qf_clear (qp, qt, qd, qr, qs, qf)).2.1))), (q3, .inl (cI, 16, .inl ((qf_clear (qp, qt, qd, qr, qs, qf)).2.2.1))), (q4, .inl (cI, 16 * L, .inl ((qf_clear (qp, qt, qd, qr, qs, qf)).2.2.2.1)))]) [0, 1, 2, 3, 4, 5, 6, 7, 8, 9, 10, 11, 12, 13, 14, 15, 16] rfl
      have hD := hD.sub (ws' := [(b0, .inr (4, [.ref (t0), .ref (u0), .ref (r0), .ref (q0), .ref (b1), .int (ck), .int ((ls_) + (nI (qs) - 1))])), (b1, .inl (cI, 7, .inl (an))), (t0, .inr (3, [.int (nI S), .int (nI Wy), .ref (t1), .ref (t2), .ref (t3), .int (fl), .int (nI sb), .ref (t4), .int (us)])), (t1, .inl (cI, S * Wy, .inl (tg))), (t2, .inl (cI, S * Wy, .inl (kd))), (t3, .inl (cI, S * Wy, .inl (tt))), (t4, .inl (cI, S * Wy, .inl (lu))), (u0, .inr (0, [.ref (u1), .ref (u2), .int (hh)])), (u1, .inl (cI, 64, .inl (hg))), (u2, .inl (cI, 64, .inl (hq))), (r0, .inr (2, [.int (nI L), .int (nI ((if (p1) = 0 then cf_back L (qp, qt, qd, qr, qs, qf) (rp, rd, ro, ru) (d0) else cf_move L (cf_back L (qp, qt, qd, qr, qs, qf) (rp, rd, ro, ru) (d0)) (p0) ((qp) (qf_ix (qp, qt, qd, qr, qs, qf) (0)))).2.1)), .int ((if (p1) = 0 then cf_back L (qp, qt, qd, qr, qs, qf) (rp, rd, ro, ru) (d0) else cf_move L (cf_back L (qp, qt, qd, qr, qs, qf) (rp, rd, ro, ru) (d0)) (p0) ((qp) (qf_ix (qp, qt, qd, qr, qs, qf) (0)))).2.2.1), .int ((if (p1) = 0 then cf_back L (qp, qt, qd, qr, qs, qf) (rp, rd, ro, ru) (d0) else cf_move L (cf_back L (qp, qt, qd, qr, qs, qf) (rp, rd, ro, ru) (d0)) (p0) ((qp) (qf_ix (qp, qt, qd, qr, qs, qf) (0)))).2.2.2), .ref (r1)])), (r1, .inl (cI, L, .inl ((if (p1) = 0 then cf_back L (qp, qt, qd, qr, qs, qf) (rp, rd, ro, ru) (d0) else cf_move L (cf_back L (qp, qt, qd, qr, qs, qf) (rp, rd, ro, ru) (d0)) (p0) ((qp) (qf_ix (qp, qt, qd, qr, qs, qf) (0)))).1))), (q0, .inr (1, [.int (nI ((qf_clear (qp, qt, qd, qr, qs, qf)).2.2.2.2.1)), .int (nI ((qf_clear (qp, qt, qd, qr, qs, qf)).2.2.2.2.2)), .int (nI L), .ref (q1), .ref (q2), .ref (q3), .ref (q4)])), (q1, .inl (cI, 16, .inl ((qf_clear (qp, qt, qd, qr, qs, qf)).1))), (q2, .inl (cI, 16, .inl ((qf_clear (qp, qt, qd, qr, qs, qf)).2.1))), (q3, .inl (cI, 16, .inl ((qf_clear (qp, qt, qd, qr, qs, qf)).2.2.1))), (q4, .inl (cI, 16 * L, .inl ((qf_clear (qp, qt, qd, qr, qs, qf)).2.2.2.1)))]) [0, 1, 2, 3, 4, 5, 6, 7, 8, 9, 10, 11, 12, 13, 14, 15, 16] (by decide) rfl
      refine lv_iload_n hx hb dX4_check_114 rfl (lv_at hl 5 rfl) ?_
      refine lv_if_eq (tgt := 126) hx hb dX4_check_115 (by decide) (fun c_115 => absurd c_115 c_50) (fun c_115 => ?_)
      refine lv_aload_n hx hb dX4_check_118 rfl (lv_at hl 3 rfl) ?_
      refine lv_iload hx hb dX4_check_119 (lv_at hl 2 rfl) ?_
      refine lv_iload_n hx hb dX4_check_121 rfl (lv_at hl 4 rfl) ?_
      refine lv_iload_n hx hb dX4_check_122 rfl (lv_at hl 6 rfl) ?_
      refine kc_v (wc := [(b0, .inr (4, [.ref (t0), .ref (u0), .ref (r0), .ref (q0), .ref (b1), .int (ck), .int ((ls_) + (nI (qs) - 1))])), (b1, .inl (cI, 7, .inl (an))), (t0, .inr (3, [.int (nI S), .int (nI Wy), .ref (t1), .ref (t2), .ref (t3), .int (fl), .int (nI sb), .ref (t4), .int (us)])), (t1, .inl (cI, S * Wy, .inl (tg))), (t2, .inl (cI, S * Wy, .inl (kd))), (t3, .inl (cI, S * Wy, .inl (tt))), (t4, .inl (cI, S * Wy, .inl (lu))), (u0, .inr (0, [.ref (u1), .ref (u2), .int (hh)])), (u1, .inl (cI, 64, .inl (hg))), (u2, .inl (cI, 64, .inl (hq))), (r0, .inr (2, [.int (nI L), .int (nI ((if (p1) = 0 then cf_back L (qp, qt, qd, qr, qs, qf) (rp, rd, ro, ru) (d0) else cf_move L (cf_back L (qp, qt, qd, qr, qs, qf) (rp, rd, ro, ru) (d0)) (p0) ((qp) (qf_ix (qp, qt, qd, qr, qs, qf) (0)))).2.1)), .int ((if (p1) = 0 then cf_back L (qp, qt, qd, qr, qs, qf) (rp, rd, ro, ru) (d0) else cf_move L (cf_back L (qp, qt, qd, qr, qs, qf) (rp, rd, ro, ru) (d0)) (p0) ((qp) (qf_ix (qp, qt, qd, qr, qs, qf) (0)))).2.2.1), .int ((if (p1) = 0 then cf_back L (qp, qt, qd, qr, qs, qf) (rp, rd, ro, ru) (d0) else cf_move L (cf_back L (qp, qt, qd, qr, qs, qf) (rp, rd, ro, ru) (d0)) (p0) ((qp) (qf_ix (qp, qt, qd, qr, qs, qf) (0)))).2.2.2), .ref (r1)])), (r1, .inl (cI, L, .inl ((if (p1) = 0 then cf_back L (qp, qt, qd, qr, qs, qf) (rp, rd, ro, ru) (d0) else cf_move L (cf_back L (qp, qt, qd, qr, qs, qf) (rp, rd, ro, ru) (d0)) (p0) ((qp) (qf_ix (qp, qt, qd, qr, qs, qf) (0)))).1))), (q0, .inr (1, [.int (nI ((qf_clear (qp, qt, qd, qr, qs, qf)).2.2.2.2.1)), .int (nI ((qf_clear (qp, qt, qd, qr, qs, qf)).2.2.2.2.2)), .int (nI L), .ref (q1), .ref (q2), .ref (q3), .ref (q4)])), (q1, .inl (cI, 16, .inl ((qf_clear (qp, qt, qd, qr, qs, qf)).1))), (q2, .inl (cI, 16, .inl ((qf_clear (qp, qt, qd, qr, qs, qf)).2.1))), (q3, .inl (cI, 16, .inl ((qf_clear (qp, qt, qd, qr, qs, qf)).2.2.1))), (q4, .inl (cI, 16 * L, .inl ((qf_clear (qp, qt, qd, qr, qs, qf)).2.2.2.1)))]) (wr := []) [0, 1, 2, 3, 4, 5, 6, 7, 8, 9, 10, 11, 12, 13, 14, 15, 16] [] rfl rfl (by decide) (by decide) hP hD hS hA (va_runV (As := [.int ((qp) (qf_ix (qp, qt, qd, qr, qs, qf) (0))), .int (p0), .int (p2)]) (rest := []) ⟨hx, hb, hml, hown, hts⟩ (c_X4_update l D cI cJ cZ _ _ _ _ _ _ _ _ _ _ _ _ _ _ _ _ _ _ _ _ _ _ _ _ _ _ _ _ _ _ _ _ _ _ _ _ _ _ _ _ _ _ _ _ _ _ _ hSs hS16 hsb hW hW4 (chk_le c_50 hdL) hL hf (Nat.zero_le _)) (cwV 3 hts (kw_V kw_433 kw_435 kw_10 kw_26 kw_436) rfl rfl rfl (by decide +kernel) ⟨Nat.le_of_ble_eq_true rfl, Nat.le_of_ble_eq_true rfl⟩) ⟨kP_blind, va_recv hK (hP.sub (ws' := [(b0, .inr (4, [.ref (t0), .ref (u0), .ref (r0), .ref (q0), .ref (b1), .int (ck), .int ((ls_) + (nI (qs) - 1))])), (b1, .inl (cI, 7, .inl (an))), (t0, .inr (3, [.int (nI S), .int (nI Wy), .ref (t1), .ref (t2), .ref (t3), .int (fl), .int (nI sb), .ref (t4), .int (us)])), (t1, .inl (cI, S * Wy, .inl (tg))), (t2, .inl (cI, S * Wy, .inl (kd))), (t3, .inl (cI, S * Wy, .inl (tt))), (t4, .inl (cI, S * Wy, .inl (lu))), (u0, .inr (0, [.ref (u1), .ref (u2), .int (hh)])), (u1, .inl (cI, 64, .inl (hg))), (u2, .inl (cI, 64, .inl (hq))), (r0, .inr (2, [.int (nI L), .int (nI ((if (p1) = 0 then cf_back L (qp, qt, qd, qr, qs, qf) (rp, rd, ro, ru) (d0) else cf_move L (cf_back L (qp, qt, qd, qr, qs, qf) (rp, rd, ro, ru) (d0)) (p0) ((qp) (qf_ix (qp, qt, qd, qr, qs, qf) (0)))).2.1)), .int ((if (p1) = 0 then cf_back L (qp, qt, qd, qr, qs, qf) (rp, rd, ro, ru) (d0) else cf_move L (cf_back L (qp, qt, qd, qr, qs, qf) (rp, rd, ro, ru) (d0)) (p0) ((qp) (qf_ix (qp, qt, qd, qr, qs, qf) (0)))).2.2.1), .int ((if (p1) = 0 then cf_back L (qp, qt, qd, qr, qs, qf) (rp, rd, ro, ru) (d0) else cf_move L (cf_back L (qp, qt, qd, qr, qs, qf) (rp, rd, ro, ru) (d0)) (p0) ((qp) (qf_ix (qp, qt, qd, qr, qs, qf) (0)))).2.2.2), .ref (r1)])), (r1, .inl (cI, L, .inl ((if (p1) = 0 then cf_back L (qp, qt, qd, qr, qs, qf) (rp, rd, ro, ru) (d0) else cf_move L (cf_back L (qp, qt, qd, qr, qs, qf) (rp, rd, ro, ru) (d0)) (p0) ((qp) (qf_ix (qp, qt, qd, qr, qs, qf) (0)))).1))), (q0, .inr (1, [.int (nI ((qf_clear (qp, qt, qd, qr, qs, qf)).2.2.2.2.1)), .int (nI ((qf_clear (qp, qt, qd, qr, qs, qf)).2.2.2.2.2)), .int (nI L), .ref (q1), .ref (q2), .ref (q3), .ref (q4)])), (q1, .inl (cI, 16, .inl ((qf_clear (qp, qt, qd, qr, qs, qf)).1))), (q2, .inl (cI, 16, .inl ((qf_clear (qp, qt, qd, qr, qs, qf)).2.1))), (q3, .inl (cI, 16, .inl ((qf_clear (qp, qt, qd, qr, qs, qf)).2.2.1))), (q4, .inl (cI, 16 * L, .inl ((qf_clear (qp, qt, qd, qr, qs, qf)).2.2.2.1)))]) [0, 1, 2, 3, 4, 5, 6, 7, 8, 9, 10, 11, 12, 13, 14, 15, 16] rfl) (ci := 4) (q0 := 0) rfl rfl, kP_at (hP.sub [0, 1, 2, 3, 4, 5, 6, 7, 8, 9, 10, 11, 12, 13, 14, 15, 16] rfl) hK (hD.sub [0, 1, 2, 3, 4, 5, 6, 7, 8, 9, 10, 11, 12, 13, 14, 15, 16] (by decide) rfl)⟩ rfl rfl hl.1 rfl (lv_room (Nat.le_of_ble_eq_true rfl)) dX4_check_123 ⟨Nat.zero_le _, Nat.zero_le _⟩) (fun H locs hP hD hS => ?_)
      have hP := hP.sub (ws' := [(b0, .inr (4, [.ref (t0), .ref (u0), .ref (r0), .ref (q0), .ref (b1), .int (ck), .int ((ls_) + (nI (qs) - 1))])), (b1, .inl (cI, 7, .inl (an))), (t0, .inr (3, [.int (nI S), .int (nI Wy), .ref (t1), .ref (t2), .ref (t3), .int ((tf_put S Wy sb (tg, kd, tt, lu, fl, us) ((qp) (qf_ix (qp, qt, qd, qr, qs, qf) (0))) (p0) (p2)).2.2.2.2.1), .int (nI sb), .ref (t4), .int ((tf_put S Wy sb (tg, kd, tt, lu, fl, us) ((qp) (qf_ix (qp, qt, qd, qr, qs, qf) (0))) (p0) (p2)).2.2.2.2.2)])), (t1, .inl (cI, S * Wy, .inl ((tf_put S Wy sb (tg, kd, tt, lu, fl, us) ((qp) (qf_ix (qp, qt, qd, qr, qs, qf) (0))) (p0) (p2)).1))), (t2, .inl (cI, S * Wy, .inl ((tf_put S Wy sb (tg, kd, tt, lu, fl, us) ((qp) (qf_ix (qp, qt, qd, qr, qs, qf) (0))) (p0) (p2)).2.1))), (t3, .inl (cI, S * Wy, .inl ((tf_put S Wy sb (tg, kd, tt, lu, fl, us) ((qp) (qf_ix (qp, qt, qd, qr, qs, qf) (0))) (p0) (p2)).2.2.1))), (t4, .inl (cI, S * Wy, .inl ((tf_put S Wy sb (tg, kd, tt, lu, fl, us) ((qp) (qf_ix (qp, qt, qd, qr, qs, qf) (0))) (p0) (p2)).2.2.2.1))), (u0, .inr (0, [.ref (u1), .ref (u2), .int ((cf_updH (hg, hq, hh) ((qp) (qf_ix (qp, qt, qd, qr, qs, qf) (0))) (p0) (p2)).2.2)])), (u1, .inl (cI, 64, .inl ((cf_updH (hg, hq, hh) ((qp) (qf_ix (qp, qt, qd, qr, qs, qf) (0))) (p0) (p2)).1))), (u2, .inl (cI, 64, .inl ((cf_updH (hg, hq, hh) ((qp) (qf_ix (qp, qt, qd, qr, qs, qf) (0))) (p0) (p2)).2.1))), (r0, .inr (2, [.int (nI L), .int (nI ((if (p1) = 0 then cf_back L (qp, qt, qd, qr, qs, qf) (rp, rd, ro, ru) (d0) else cf_move L (cf_back L (qp, qt, qd, qr, qs, qf) (rp, rd, ro, ru) (d0)) (p0) ((qp) (qf_ix (qp, qt, qd, qr, qs, qf) (0)))).2.1)), .int ((if (p1) = 0 then cf_back L (qp, qt, qd, qr, qs, qf) (rp, rd, ro, ru) (d0) else cf_move L (cf_back L (qp, qt, qd, qr, qs, qf) (rp, rd, ro, ru) (d0)) (p0) ((qp) (qf_ix (qp, qt, qd, qr, qs, qf) (0)))).2.2.1), .int ((if (p1) = 0 then cf_back L (qp, qt, qd, qr, qs, qf) (rp, rd, ro, ru) (d0) else cf_move L (cf_back L (qp, qt, qd, qr, qs, qf) (rp, rd, ro, ru) (d0)) (p0) ((qp) (qf_ix (qp, qt, qd, qr, qs, qf) (0)))).2.2.2), .ref (r1)])), (r1, .inl (cI, L, .inl ((if (p1) = 0 then cf_back L (qp, qt, qd, qr, qs, qf) (rp, rd, ro, ru) (d0) else cf_move L (cf_back L (qp, qt, qd, qr, qs, qf) (rp, rd, ro, ru) (d0)) (p0) ((qp) (qf_ix (qp, qt, qd, qr, qs, qf) (0)))).1))), (q0, .inr (1, [.int (nI ((qf_clear (qp, qt, qd, qr, qs, qf)).2.2.2.2.1)), .int (nI ((qf_clear (qp, qt, qd, qr, qs, qf)).2.2.2.2.2)), .int (nI L), .ref (q1), .ref (q2), .ref (q3), .ref (q4)])), (q1, .inl (cI, 16, .inl ((qf_clear (qp, qt, qd, qr, qs, qf)).1))), (q2, .inl (cI, 16, .inl ((qf_clear (qp, qt, qd, qr, qs, qf)).2.1))), (q3, .inl (cI, 16, .inl ((qf_clear (qp, qt, qd, qr, qs, qf)).2.2.1))), (q4, .inl (cI, 16 * L, .inl ((qf_clear (qp, qt, qd, qr, qs, qf)).2.2.2.1)))]) [0, 1, 2, 3, 4, 5, 6, 7, 8, 9, 10, 11, 12, 13, 14, 15, 16] rfl
      have hD := hD.sub (ws' := [(b0, .inr (4, [.ref (t0), .ref (u0), .ref (r0), .ref (q0), .ref (b1), .int (ck), .int ((ls_) + (nI (qs) - 1))])), (b1, .inl (cI, 7, .inl (an))), (t0, .inr (3, [.int (nI S), .int (nI Wy), .ref (t1), .ref (t2), .ref (t3), .int ((tf_put S Wy sb (tg, kd, tt, lu, fl, us) ((qp) (qf_ix (qp, qt, qd, qr, qs, qf) (0))) (p0) (p2)).2.2.2.2.1), .int (nI sb), .ref (t4), .int ((tf_put S Wy sb (tg, kd, tt, lu, fl, us) ((qp) (qf_ix (qp, qt, qd, qr, qs, qf) (0))) (p0) (p2)).2.2.2.2.2)])), (t1, .inl (cI, S * Wy, .inl ((tf_put S Wy sb (tg, kd, tt, lu, fl, us) ((qp) (qf_ix (qp, qt, qd, qr, qs, qf) (0))) (p0) (p2)).1))), (t2, .inl (cI, S * Wy, .inl ((tf_put S Wy sb (tg, kd, tt, lu, fl, us) ((qp) (qf_ix (qp, qt, qd, qr, qs, qf) (0))) (p0) (p2)).2.1))), (t3, .inl (cI, S * Wy, .inl ((tf_put S Wy sb (tg, kd, tt, lu, fl, us) ((qp) (qf_ix (qp, qt, qd, qr, qs, qf) (0))) (p0) (p2)).2.2.1))), (t4, .inl (cI, S * Wy, .inl ((tf_put S Wy sb (tg, kd, tt, lu, fl, us) ((qp) (qf_ix (qp, qt, qd, qr, qs, qf) (0))) (p0) (p2)).2.2.2.1))), (u0, .inr (0, [.ref (u1), .ref (u2), .int ((cf_updH (hg, hq, hh) ((qp) (qf_ix (qp, qt, qd, qr, qs, qf) (0))) (p0) (p2)).2.2)])), (u1, .inl (cI, 64, .inl ((cf_updH (hg, hq, hh) ((qp) (qf_ix (qp, qt, qd, qr, qs, qf) (0))) (p0) (p2)).1))), (u2, .inl (cI, 64, .inl ((cf_updH (hg, hq, hh) ((qp) (qf_ix (qp, qt, qd, qr, qs, qf) (0))) (p0) (p2)).2.1))), (r0, .inr (2, [.int (nI L), .int (nI ((if (p1) = 0 then cf_back L (qp, qt, qd, qr, qs, qf) (rp, rd, ro, ru) (d0) else cf_move L (cf_back L (qp, qt, qd, qr, qs, qf) (rp, rd, ro, ru) (d0)) (p0) ((qp) (qf_ix (qp, qt, qd, qr, qs, qf) (0)))).2.1)), .int ((if (p1) = 0 then cf_back L (qp, qt, qd, qr, qs, qf) (rp, rd, ro, ru) (d0) else cf_move L (cf_back L (qp, qt, qd, qr, qs, qf) (rp, rd, ro, ru) (d0)) (p0) ((qp) (qf_ix (qp, qt, qd, qr, qs, qf) (0)))).2.2.1), .int ((if (p1) = 0 then cf_back L (qp, qt, qd, qr, qs, qf) (rp, rd, ro, ru) (d0) else cf_move L (cf_back L (qp, qt, qd, qr, qs, qf) (rp, rd, ro, ru) (d0)) (p0) ((qp) (qf_ix (qp, qt, qd, qr, qs, qf) (0)))).2.2.2), .ref (r1)])), (r1, .inl (cI, L, .inl ((if (p1) = 0 then cf_back L (qp, qt, qd, qr, qs, qf) (rp, rd, ro, ru) (d0) else cf_move L (cf_back L (qp, qt, qd, qr, qs, qf) (rp, rd, ro, ru) (d0)) (p0) ((qp) (qf_ix (qp, qt, qd, qr, qs, qf) (0)))).1))), (q0, .inr (1, [.int (nI ((qf_clear (qp, qt, qd, qr, qs, qf)).2.2.2.2.1)), .int (nI ((qf_clear (qp, qt, qd, qr, qs, qf)).2.2.2.2.2)), .int (nI L), .ref (q1), .ref (q2), .ref (q3), .ref (q4)])), (q1, .inl (cI, 16, .inl ((qf_clear (qp, qt, qd, qr, qs, qf)).1))), (q2, .inl (cI, 16, .inl ((qf_clear (qp, qt, qd, qr, qs, qf)).2.1))), (q3, .inl (cI, 16, .inl ((qf_clear (qp, qt, qd, qr, qs, qf)).2.2.1))), (q4, .inl (cI, 16 * L, .inl ((qf_clear (qp, qt, qd, qr, qs, qf)).2.2.2.1)))]) [0, 1, 2, 3, 4, 5, 6, 7, 8, 9, 10, 11, 12, 13, 14, 15, 16] (by decide) rfl
      refine lv_aload_n hx hb dX4_check_126 rfl (lv_at hl 3 rfl) ?_
      refine lv_dup hx hb dX4_check_127 rfl ?_
      refine va_get (D := D) (ci := 4) (v := .int (ck)) (C := RX4) (T := TX4) (N := 7) hx hb hts (fun w h => List.mem_cons_of_mem _ (hiX4 w h)) hown hK hP 0 rfl rfl 5 (by decide) kf113 (fun _ h9 => h9) rfl dX4_check_128 ?_
      refine lv_iconst (v := 1) hx hb dX4_check_131 (by decide) ?_
      refine lv_iadd hx hb dX4_check_132 ?_
      refine va_put (D := D) (ci := 4) (v := .int ((ck) + (1))) (ty := .int) (C := RX4) (T := TX4) (N := 7) hx hb hts (fun w h => List.mem_cons_of_mem _ (hiX4 w h)) tyX4 tyX4_ok nmX4 hown hK hP hD hS 0 rfl rfl 5 (by decide) kf113 (fun _ h9 => h9) rfl (by decide +kernel) rfl rfl (Nat.le_of_ble_eq_true rfl) dX4_check_133 (fun H locs hP hD hS => ?_)
      have hP : va_P D vwCl [(b0, .inr (4, [.ref (t0), .ref (u0), .ref (r0), .ref (q0), .ref (b1), .int ((ck) + (1)), .int ((ls_) + (nI (qs) - 1))])), (b1, .inl (cI, 7, .inl (an))), (t0, .inr (3, [.int (nI S), .int (nI Wy), .ref (t1), .ref (t2), .ref (t3), .int ((tf_put S Wy sb (tg, kd, tt, lu, fl, us) ((qp) (qf_ix (qp, qt, qd, qr, qs, qf) (0))) (p0) (p2)).2.2.2.2.1), .int (nI sb), .ref (t4), .int ((tf_put S Wy sb (tg, kd, tt, lu, fl, us) ((qp) (qf_ix (qp, qt, qd, qr, qs, qf) (0))) (p0) (p2)).2.2.2.2.2)])), (t1, .inl (cI, S * Wy, .inl ((tf_put S Wy sb (tg, kd, tt, lu, fl, us) ((qp) (qf_ix (qp, qt, qd, qr, qs, qf) (0))) (p0) (p2)).1))), (t2, .inl (cI, S * Wy, .inl ((tf_put S Wy sb (tg, kd, tt, lu, fl, us) ((qp) (qf_ix (qp, qt, qd, qr, qs, qf) (0))) (p0) (p2)).2.1))), (t3, .inl (cI, S * Wy, .inl ((tf_put S Wy sb (tg, kd, tt, lu, fl, us) ((qp) (qf_ix (qp, qt, qd, qr, qs, qf) (0))) (p0) (p2)).2.2.1))), (t4, .inl (cI, S * Wy, .inl ((tf_put S Wy sb (tg, kd, tt, lu, fl, us) ((qp) (qf_ix (qp, qt, qd, qr, qs, qf) (0))) (p0) (p2)).2.2.2.1))), (u0, .inr (0, [.ref (u1), .ref (u2), .int ((cf_updH (hg, hq, hh) ((qp) (qf_ix (qp, qt, qd, qr, qs, qf) (0))) (p0) (p2)).2.2)])), (u1, .inl (cI, 64, .inl ((cf_updH (hg, hq, hh) ((qp) (qf_ix (qp, qt, qd, qr, qs, qf) (0))) (p0) (p2)).1))), (u2, .inl (cI, 64, .inl ((cf_updH (hg, hq, hh) ((qp) (qf_ix (qp, qt, qd, qr, qs, qf) (0))) (p0) (p2)).2.1))), (r0, .inr (2, [.int (nI L), .int (nI ((if (p1) = 0 then cf_back L (qp, qt, qd, qr, qs, qf) (rp, rd, ro, ru) (d0) else cf_move L (cf_back L (qp, qt, qd, qr, qs, qf) (rp, rd, ro, ru) (d0)) (p0) ((qp) (qf_ix (qp, qt, qd, qr, qs, qf) (0)))).2.1)), .int ((if (p1) = 0 then cf_back L (qp, qt, qd, qr, qs, qf) (rp, rd, ro, ru) (d0) else cf_move L (cf_back L (qp, qt, qd, qr, qs, qf) (rp, rd, ro, ru) (d0)) (p0) ((qp) (qf_ix (qp, qt, qd, qr, qs, qf) (0)))).2.2.1), .int ((if (p1) = 0 then cf_back L (qp, qt, qd, qr, qs, qf) (rp, rd, ro, ru) (d0) else cf_move L (cf_back L (qp, qt, qd, qr, qs, qf) (rp, rd, ro, ru) (d0)) (p0) ((qp) (qf_ix (qp, qt, qd, qr, qs, qf) (0)))).2.2.2), .ref (r1)])), (r1, .inl (cI, L, .inl ((if (p1) = 0 then cf_back L (qp, qt, qd, qr, qs, qf) (rp, rd, ro, ru) (d0) else cf_move L (cf_back L (qp, qt, qd, qr, qs, qf) (rp, rd, ro, ru) (d0)) (p0) ((qp) (qf_ix (qp, qt, qd, qr, qs, qf) (0)))).1))), (q0, .inr (1, [.int (nI ((qf_clear (qp, qt, qd, qr, qs, qf)).2.2.2.2.1)), .int (nI ((qf_clear (qp, qt, qd, qr, qs, qf)).2.2.2.2.2)), .int (nI L), .ref (q1), .ref (q2), .ref (q3), .ref (q4)])), (q1, .inl (cI, 16, .inl ((qf_clear (qp, qt, qd, qr, qs, qf)).1))), (q2, .inl (cI, 16, .inl ((qf_clear (qp, qt, qd, qr, qs, qf)).2.1))), (q3, .inl (cI, 16, .inl ((qf_clear (qp, qt, qd, qr, qs, qf)).2.2.1))), (q4, .inl (cI, 16 * L, .inl ((qf_clear (qp, qt, qd, qr, qs, qf)).2.2.2.1)))] H := hP
      have hD : va_D A [(b0, .inr (4, [.ref (t0), .ref (u0), .ref (r0), .ref (q0), .ref (b1), .int ((ck) + (1)), .int ((ls_) + (nI (qs) - 1))])), (b1, .inl (cI, 7, .inl (an))), (t0, .inr (3, [.int (nI S), .int (nI Wy), .ref (t1), .ref (t2), .ref (t3), .int ((tf_put S Wy sb (tg, kd, tt, lu, fl, us) ((qp) (qf_ix (qp, qt, qd, qr, qs, qf) (0))) (p0) (p2)).2.2.2.2.1), .int (nI sb), .ref (t4), .int ((tf_put S Wy sb (tg, kd, tt, lu, fl, us) ((qp) (qf_ix (qp, qt, qd, qr, qs, qf) (0))) (p0) (p2)).2.2.2.2.2)])), (t1, .inl (cI, S * Wy, .inl ((tf_put S Wy sb (tg, kd, tt, lu, fl, us) ((qp) (qf_ix (qp, qt, qd, qr, qs, qf) (0))) (p0) (p2)).1))), (t2, .inl (cI, S * Wy, .inl ((tf_put S Wy sb (tg, kd, tt, lu, fl, us) ((qp) (qf_ix (qp, qt, qd, qr, qs, qf) (0))) (p0) (p2)).2.1))), (t3, .inl (cI, S * Wy, .inl ((tf_put S Wy sb (tg, kd, tt, lu, fl, us) ((qp) (qf_ix (qp, qt, qd, qr, qs, qf) (0))) (p0) (p2)).2.2.1))), (t4, .inl (cI, S * Wy, .inl ((tf_put S Wy sb (tg, kd, tt, lu, fl, us) ((qp) (qf_ix (qp, qt, qd, qr, qs, qf) (0))) (p0) (p2)).2.2.2.1))), (u0, .inr (0, [.ref (u1), .ref (u2), .int ((cf_updH (hg, hq, hh) ((qp) (qf_ix (qp, qt, qd, qr, qs, qf) (0))) (p0) (p2)).2.2)])), (u1, .inl (cI, 64, .inl ((cf_updH (hg, hq, hh) ((qp) (qf_ix (qp, qt, qd, qr, qs, qf) (0))) (p0) (p2)).1))), (u2, .inl (cI, 64, .inl ((cf_updH (hg, hq, hh) ((qp) (qf_ix (qp, qt, qd, qr, qs, qf) (0))) (p0) (p2)).2.1))), (r0, .inr (2, [.int (nI L), .int (nI ((if (p1) = 0 then cf_back L (qp, qt, qd, qr, qs, qf) (rp, rd, ro, ru) (d0) else cf_move L (cf_back L (qp, qt, qd, qr, qs, qf) (rp, rd, ro, ru) (d0)) (p0) ((qp) (qf_ix (qp, qt, qd, qr, qs, qf) (0)))).2.1)), .int ((if (p1) = 0 then cf_back L (qp, qt, qd, qr, qs, qf) (rp, rd, ro, ru) (d0) else cf_move L (cf_back L (qp, qt, qd, qr, qs, qf) (rp, rd, ro, ru) (d0)) (p0) ((qp) (qf_ix (qp, qt, qd, qr, qs, qf) (0)))).2.2.1), .int ((if (p1) = 0 then cf_back L (qp, qt, qd, qr, qs, qf) (rp, rd, ro, ru) (d0) else cf_move L (cf_back L (qp, qt, qd, qr, qs, qf) (rp, rd, ro, ru) (d0)) (p0) ((qp) (qf_ix (qp, qt, qd, qr, qs, qf) (0)))).2.2.2), .ref (r1)])), (r1, .inl (cI, L, .inl ((if (p1) = 0 then cf_back L (qp, qt, qd, qr, qs, qf) (rp, rd, ro, ru) (d0) else cf_move L (cf_back L (qp, qt, qd, qr, qs, qf) (rp, rd, ro, ru) (d0)) (p0) ((qp) (qf_ix (qp, qt, qd, qr, qs, qf) (0)))).1))), (q0, .inr (1, [.int (nI ((qf_clear (qp, qt, qd, qr, qs, qf)).2.2.2.2.1)), .int (nI ((qf_clear (qp, qt, qd, qr, qs, qf)).2.2.2.2.2)), .int (nI L), .ref (q1), .ref (q2), .ref (q3), .ref (q4)])), (q1, .inl (cI, 16, .inl ((qf_clear (qp, qt, qd, qr, qs, qf)).1))), (q2, .inl (cI, 16, .inl ((qf_clear (qp, qt, qd, qr, qs, qf)).2.1))), (q3, .inl (cI, 16, .inl ((qf_clear (qp, qt, qd, qr, qs, qf)).2.2.1))), (q4, .inl (cI, 16 * L, .inl ((qf_clear (qp, qt, qd, qr, qs, qf)).2.2.2.1)))] := hD
      refine lv_aload_n hx hb dX4_check_136 rfl (lv_at hl 3 rfl) ?_
      refine va_get (D := D) (ci := 4) (v := .ref (b1)) (C := RX4) (T := TX4) (N := 7) hx hb hts (fun w h => List.mem_cons_of_mem _ (hiX4 w h)) hown hK hP 0 rfl rfl 4 (by decide) kf47 (fun _ h9 => h9) rfl dX4_check_137 ?_
      refine lv_iload hx hb dX4_check_140 (lv_at hl 0 rfl) ?_
      refine lv_dup2_11 hx hb dX4_check_142 rfl rfl ?_
      refine ka_ild hx hb hK hP 1 0 rfl rfl (k := j) (rfl) (⟨hj, by decide⟩) dX4_check_143 ?_
      refine lv_iconst (v := 1) hx hb dX4_check_144 (by decide) ?_
      refine lv_iadd hx hb dX4_check_145 ?_
      refine ka_ist hx hb hK hP hD hS 1 0 rfl rfl (k := j) (rfl) (⟨hj, by decide⟩) dX4_check_146 (fun H locs hP hD hS => ?_)
      have hP : va_P D vwCl [(b0, .inr (4, [.ref (t0), .ref (u0), .ref (r0), .ref (q0), .ref (b1), .int ((ck) + (1)), .int ((ls_) + (nI (qs) - 1))])), (b1, .inl (cI, 7, .inl (upd (an) (j) (((an) (j)) + (1))))), (t0, .inr (3, [.int (nI S), .int (nI Wy), .ref (t1), .ref (t2), .ref (t3), .int ((tf_put S Wy sb (tg, kd, tt, lu, fl, us) ((qp) (qf_ix (qp, qt, qd, qr, qs, qf) (0))) (p0) (p2)).2.2.2.2.1), .int (nI sb), .ref (t4), .int ((tf_put S Wy sb (tg, kd, tt, lu, fl, us) ((qp) (qf_ix (qp, qt, qd, qr, qs, qf) (0))) (p0) (p2)).2.2.2.2.2)])), (t1, .inl (cI, S * Wy, .inl ((tf_put S Wy sb (tg, kd, tt, lu, fl, us) ((qp) (qf_ix (qp, qt, qd, qr, qs, qf) (0))) (p0) (p2)).1))), (t2, .inl (cI, S * Wy, .inl ((tf_put S Wy sb (tg, kd, tt, lu, fl, us) ((qp) (qf_ix (qp, qt, qd, qr, qs, qf) (0))) (p0) (p2)).2.1))), (t3, .inl (cI, S * Wy, .inl ((tf_put S Wy sb (tg, kd, tt, lu, fl, us) ((qp) (qf_ix (qp, qt, qd, qr, qs, qf) (0))) (p0) (p2)).2.2.1))), (t4, .inl (cI, S * Wy, .inl ((tf_put S Wy sb (tg, kd, tt, lu, fl, us) ((qp) (qf_ix (qp, qt, qd, qr, qs, qf) (0))) (p0) (p2)).2.2.2.1))), (u0, .inr (0, [.ref (u1), .ref (u2), .int ((cf_updH (hg, hq, hh) ((qp) (qf_ix (qp, qt, qd, qr, qs, qf) (0))) (p0) (p2)).2.2)])), (u1, .inl (cI, 64, .inl ((cf_updH (hg, hq, hh) ((qp) (qf_ix (qp, qt, qd, qr, qs, qf) (0))) (p0) (p2)).1))), (u2, .inl (cI, 64, .inl ((cf_updH (hg, hq, hh) ((qp) (qf_ix (qp, qt, qd, qr, qs, qf) (0))) (p0) (p2)).2.1))), (r0, .inr (2, [.int (nI L), .int (nI ((if (p1) = 0 then cf_back L (qp, qt, qd, qr, qs, qf) (rp, rd, ro, ru) (d0) else cf_move L (cf_back L (qp, qt, qd, qr, qs, qf) (rp, rd, ro, ru) (d0)) (p0) ((qp) (qf_ix (qp, qt, qd, qr, qs, qf) (0)))).2.1)), .int ((if (p1) = 0 then cf_back L (qp, qt, qd, qr, qs, qf) (rp, rd, ro, ru) (d0) else cf_move L (cf_back L (qp, qt, qd, qr, qs, qf) (rp, rd, ro, ru) (d0)) (p0) ((qp) (qf_ix (qp, qt, qd, qr, qs, qf) (0)))).2.2.1), .int ((if (p1) = 0 then cf_back L (qp, qt, qd, qr, qs, qf) (rp, rd, ro, ru) (d0) else cf_move L (cf_back L (qp, qt, qd, qr, qs, qf) (rp, rd, ro, ru) (d0)) (p0) ((qp) (qf_ix (qp, qt, qd, qr, qs, qf) (0)))).2.2.2), .ref (r1)])), (r1, .inl (cI, L, .inl ((if (p1) = 0 then cf_back L (qp, qt, qd, qr, qs, qf) (rp, rd, ro, ru) (d0) else cf_move L (cf_back L (qp, qt, qd, qr, qs, qf) (rp, rd, ro, ru) (d0)) (p0) ((qp) (qf_ix (qp, qt, qd, qr, qs, qf) (0)))).1))), (q0, .inr (1, [.int (nI ((qf_clear (qp, qt, qd, qr, qs, qf)).2.2.2.2.1)), .int (nI ((qf_clear (qp, qt, qd, qr, qs, qf)).2.2.2.2.2)), .int (nI L), .ref (q1), .ref (q2), .ref (q3), .ref (q4)])), (q1, .inl (cI, 16, .inl ((qf_clear (qp, qt, qd, qr, qs, qf)).1))), (q2, .inl (cI, 16, .inl ((qf_clear (qp, qt, qd, qr, qs, qf)).2.1))), (q3, .inl (cI, 16, .inl ((qf_clear (qp, qt, qd, qr, qs, qf)).2.2.1))), (q4, .inl (cI, 16 * L, .inl ((qf_clear (qp, qt, qd, qr, qs, qf)).2.2.2.1)))] H := hP
      have hD : va_D A [(b0, .inr (4, [.ref (t0), .ref (u0), .ref (r0), .ref (q0), .ref (b1), .int ((ck) + (1)), .int ((ls_) + (nI (qs) - 1))])), (b1, .inl (cI, 7, .inl (upd (an) (j) (((an) (j)) + (1))))), (t0, .inr (3, [.int (nI S), .int (nI Wy), .ref (t1), .ref (t2), .ref (t3), .int ((tf_put S Wy sb (tg, kd, tt, lu, fl, us) ((qp) (qf_ix (qp, qt, qd, qr, qs, qf) (0))) (p0) (p2)).2.2.2.2.1), .int (nI sb), .ref (t4), .int ((tf_put S Wy sb (tg, kd, tt, lu, fl, us) ((qp) (qf_ix (qp, qt, qd, qr, qs, qf) (0))) (p0) (p2)).2.2.2.2.2)])), (t1, .inl (cI, S * Wy, .inl ((tf_put S Wy sb (tg, kd, tt, lu, fl, us) ((qp) (qf_ix (qp, qt, qd, qr, qs, qf) (0))) (p0) (p2)).1))), (t2, .inl (cI, S * Wy, .inl ((tf_put S Wy sb (tg, kd, tt, lu, fl, us) ((qp) (qf_ix (qp, qt, qd, qr, qs, qf) (0))) (p0) (p2)).2.1))), (t3, .inl (cI, S * Wy, .inl ((tf_put S Wy sb (tg, kd, tt, lu, fl, us) ((qp) (qf_ix (qp, qt, qd, qr, qs, qf) (0))) (p0) (p2)).2.2.1))), (t4, .inl (cI, S * Wy, .inl ((tf_put S Wy sb (tg, kd, tt, lu, fl, us) ((qp) (qf_ix (qp, qt, qd, qr, qs, qf) (0))) (p0) (p2)).2.2.2.1))), (u0, .inr (0, [.ref (u1), .ref (u2), .int ((cf_updH (hg, hq, hh) ((qp) (qf_ix (qp, qt, qd, qr, qs, qf) (0))) (p0) (p2)).2.2)])), (u1, .inl (cI, 64, .inl ((cf_updH (hg, hq, hh) ((qp) (qf_ix (qp, qt, qd, qr, qs, qf) (0))) (p0) (p2)).1))), (u2, .inl (cI, 64, .inl ((cf_updH (hg, hq, hh) ((qp) (qf_ix (qp, qt, qd, qr, qs, qf) (0))) (p0) (p2)).2.1))), (r0, .inr (2, [.int (nI L), .int (nI ((if (p1) = 0 then cf_back L (qp, qt, qd, qr, qs, qf) (rp, rd, ro, ru) (d0) else cf_move L (cf_back L (qp, qt, qd, qr, qs, qf) (rp, rd, ro, ru) (d0)) (p0) ((qp) (qf_ix (qp, qt, qd, qr, qs, qf) (0)))).2.1)), .int ((if (p1) = 0 then cf_back L (qp, qt, qd, qr, qs, qf) (rp, rd, ro, ru) (d0) else cf_move L (cf_back L (qp, qt, qd, qr, qs, qf) (rp, rd, ro, ru) (d0)) (p0) ((qp) (qf_ix (qp, qt, qd, qr, qs, qf) (0)))).2.2.1), .int ((if (p1) = 0 then cf_back L (qp, qt, qd, qr, qs, qf) (rp, rd, ro, ru) (d0) else cf_move L (cf_back L (qp, qt, qd, qr, qs, qf) (rp, rd, ro, ru) (d0)) (p0) ((qp) (qf_ix (qp, qt, qd, qr, qs, qf) (0)))).2.2.2), .ref (r1)])), (r1, .inl (cI, L, .inl ((if (p1) = 0 then cf_back L (qp, qt, qd, qr, qs, qf) (rp, rd, ro, ru) (d0) else cf_move L (cf_back L (qp, qt, qd, qr, qs, qf) (rp, rd, ro, ru) (d0)) (p0) ((qp) (qf_ix (qp, qt, qd, qr, qs, qf) (0)))).1))), (q0, .inr (1, [.int (nI ((qf_clear (qp, qt, qd, qr, qs, qf)).2.2.2.2.1)), .int (nI ((qf_clear (qp, qt, qd, qr, qs, qf)).2.2.2.2.2)), .int (nI L), .ref (q1), .ref (q2), .ref (q3), .ref (q4)])), (q1, .inl (cI, 16, .inl ((qf_clear (qp, qt, qd, qr, qs, qf)).1))), (q2, .inl (cI, 16, .inl ((qf_clear (qp, qt, qd, qr, qs, qf)).2.1))), (q3, .inl (cI, 16, .inl ((qf_clear (qp, qt, qd, qr, qs, qf)).2.2.1))), (q4, .inl (cI, 16 * L, .inl ((qf_clear (qp, qt, qd, qr, qs, qf)).2.2.2.1)))] := hD
      refine lv_iload hx hb dX4_check_147 (lv_at hl 0 rfl) ?_
      exact kr_i (congrArg (wTR b0 b1 t0 t1 t2 t3 t4 u0 u1 u2 r0 r1 q0 q1 q2 q3 q4 cI S Wy sb L ) (show ((((tf_put S Wy sb (tg, kd, tt, lu, fl, us) ((qp) (qf_ix (qp, qt, qd, qr, qs, qf) (0))) (p0) (p2)).1, (tf_put S Wy sb (tg, kd, tt, lu, fl, us) ((qp) (qf_ix (qp, qt, qd, qr, qs, qf) (0))) (p0) (p2)).2.1, (tf_put S Wy sb (tg, kd, tt, lu, fl, us) ((qp) (qf_ix (qp, qt, qd, qr, qs, qf) (0))) (p0) (p2)).2.2.1, (tf_put S Wy sb (tg, kd, tt, lu, fl, us) ((qp) (qf_ix (qp, qt, qd, qr, qs, qf) (0))) (p0) (p2)).2.2.2.1, (tf_put S Wy sb (tg, kd, tt, lu, fl, us) ((qp) (qf_ix (qp, qt, qd, qr, qs, qf) (0))) (p0) (p2)).2.2.2.2.1, (tf_put S Wy sb (tg, kd, tt, lu, fl, us) ((qp) (qf_ix (qp, qt, qd, qr, qs, qf) (0))) (p0) (p2)).2.2.2.2.2), ((cf_updH (hg, hq, hh) ((qp) (qf_ix (qp, qt, qd, qr, qs, qf) (0))) (p0) (p2)).1, (cf_updH (hg, hq, hh) ((qp) (qf_ix (qp, qt, qd, qr, qs, qf) (0))) (p0) (p2)).2.1, (cf_updH (hg, hq, hh) ((qp) (qf_ix (qp, qt, qd, qr, qs, qf) (0))) (p0) (p2)).2.2), ((if (p1) = 0 then cf_back L (qp, qt, qd, qr, qs, qf) (rp, rd, ro, ru) (d0) else cf_move L (cf_back L (qp, qt, qd, qr, qs, qf) (rp, rd, ro, ru) (d0)) (p0) ((qp) (qf_ix (qp, qt, qd, qr, qs, qf) (0)))).1, (if (p1) = 0 then cf_back L (qp, qt, qd, qr, qs, qf) (rp, rd, ro, ru) (d0) else cf_move L (cf_back L (qp, qt, qd, qr, qs, qf) (rp, rd, ro, ru) (d0)) (p0) ((qp) (qf_ix (qp, qt, qd, qr, qs, qf) (0)))).2.1, (if (p1) = 0 then cf_back L (qp, qt, qd, qr, qs, qf) (rp, rd, ro, ru) (d0) else cf_move L (cf_back L (qp, qt, qd, qr, qs, qf) (rp, rd, ro, ru) (d0)) (p0) ((qp) (qf_ix (qp, qt, qd, qr, qs, qf) (0)))).2.2.1, (if (p1) = 0 then cf_back L (qp, qt, qd, qr, qs, qf) (rp, rd, ro, ru) (d0) else cf_move L (cf_back L (qp, qt, qd, qr, qs, qf) (rp, rd, ro, ru) (d0)) (p0) ((qp) (qf_ix (qp, qt, qd, qr, qs, qf) (0)))).2.2.2), ((qf_clear (qp, qt, qd, qr, qs, qf)).1, (qf_clear (qp, qt, qd, qr, qs, qf)).2.1, (qf_clear (qp, qt, qd, qr, qs, qf)).2.2.1, (qf_clear (qp, qt, qd, qr, qs, qf)).2.2.2.1, (qf_clear (qp, qt, qd, qr, qs, qf)).2.2.2.2.1, (qf_clear (qp, qt, qd, qr, qs, qf)).2.2.2.2.2), upd (an) (j) (((an) (j)) + (1)), (ck) + (1), (ls_) + (nI (qs) - 1)) : Cs) = cf_chk S Wy sb L ((tg, kd, tt, lu, fl, us), (hg, hq, hh), (rp, rd, ro, ru), (qp, qt, qd, qr, qs, qf), an, ck, ls_) d0 p0 p1 p2 from by simp only [cf_chk, cf_ans, cf_went, cf_pl, cf_td, if_neg c_50, if_neg c_74, ej, nI_clamp (show j < 2 ^ 31 by omega)])) hx hb hr hlocks hP hK hD hS (by simp only [cf_ans, cf_went, cf_pl, cf_td, if_neg c_50, if_neg c_74]; exact ej.symm) dX4_check_149
    ·
      refine lv_iconst (v := 0) hx hb dX4_check_77 (by decide) ?_
      refine kt_i (y := nI (0)) (rfl) ?_
      refine lv_goto (tgt := 89) hx hb dX4_check_78 (by decide) ?_
      refine lv_istore (lv' := [(6, .int (nI (0))), (5, .int (p2)), (4, .int ((qp) (qf_ix (qp, qt, qd, qr, qs, qf) (0)))), (0, .ref (b0)), (1, .int (p0)), (2, .int (p1)), (3, .int (p2))]) hx hb dX4_check_89 hl (by decide) rfl (fun ls hl => ?_)
      refine lv_iload hx hb dX4_check_91 (lv_at hl 0 rfl) ?_
      refine lv_if_ne (tgt := 106) hx hb dX4_check_93 (by decide) (fun c_93 => absurd nI_0 c_93) (fun c_93 => ?_)
      refine lv_aload_n hx hb dX4_check_96 rfl (lv_at hl 3 rfl) ?_
      refine va_get (D := D) (ci := 4) (v := .ref (q0)) (C := RX4) (T := TX4) (N := 7) hx hb hts (fun w h => List.mem_cons_of_mem _ (hiX4 w h)) hown hK hP 0 rfl rfl 3 (by decide) kf43 (fun _ h9 => h9) rfl dX4_check_97 ?_
      refine kc_v (wc := [(q0, .inr (1, [.int (nI (qs)), .int (nI (qf)), .int (nI L), .ref (q1), .ref (q2), .ref (q3), .ref (q4)])), (q1, .inl (cI, 16, .inl (qp))), (q2, .inl (cI, 16, .inl (qt))), (q3, .inl (cI, 16, .inl (qd))), (q4, .inl (cI, 16 * L, .inl (qr)))]) (wr := [(b0, .inr (4, [.ref (t0), .ref (u0), .ref (r0), .ref (q0), .ref (b1), .int (ck), .int (ls_)])), (b1, .inl (cI, 7, .inl (an))), (t0, .inr (3, [.int (nI S), .int (nI Wy), .ref (t1), .ref (t2), .ref (t3), .int (fl), .int (nI sb), .ref (t4), .int (us)])), (t1, .inl (cI, S * Wy, .inl (tg))), (t2, .inl (cI, S * Wy, .inl (kd))), (t3, .inl (cI, S * Wy, .inl (tt))), (t4, .inl (cI, S * Wy, .inl (lu))), (u0, .inr (0, [.ref (u1), .ref (u2), .int (hh)])), (u1, .inl (cI, 64, .inl (hg))), (u2, .inl (cI, 64, .inl (hq))), (r0, .inr (2, [.int (nI L), .int (nI (rd)), .int (ro), .int (ru), .ref (r1)])), (r1, .inl (cI, L, .inl (rp)))]) [12, 13, 14, 15, 16] [0, 1, 2, 3, 4, 5, 6, 7, 8, 9, 10, 11] rfl rfl (by decide) (by decide) hP hD hS hA (va_runV (As := []) (rest := []) ⟨hx, hb, hml, hown, hts⟩ (c_X1_dropOldest l D cI cJ cZ _ _ _ _ _ _ _ _ _ _ _ _ _ hqs hs hf hL) (cwV 0 hts (kw_V kw_425 kw_426 kw_427 kw_32 kw_428) rfl rfl rfl (by decide +kernel) ⟨Nat.le_of_ble_eq_true rfl, Nat.le_of_ble_eq_true rfl⟩) ⟨kP_blind, va_recv hK (hP.sub (ws' := [(q0, .inr (1, [.int (nI (qs)), .int (nI (qf)), .int (nI L), .ref (q1), .ref (q2), .ref (q3), .ref (q4)])), (q1, .inl (cI, 16, .inl (qp))), (q2, .inl (cI, 16, .inl (qt))), (q3, .inl (cI, 16, .inl (qd))), (q4, .inl (cI, 16 * L, .inl (qr)))]) [12, 13, 14, 15, 16] rfl) (ci := 1) (q0 := 0) rfl rfl, kP_at (hP.sub [12, 13, 14, 15, 16] rfl) hK (hD.sub [12, 13, 14, 15, 16] (by decide) rfl)⟩ rfl rfl hl.1 rfl (lv_room (Nat.le_of_ble_eq_true rfl)) dX4_check_100 ⟨Nat.zero_le _, Nat.zero_le _⟩) (fun H locs hP hD hS => ?_)
      have hP := hP.sub (ws' := [(b0, .inr (4, [.ref (t0), .ref (u0), .ref (r0), .ref (q0), .ref (b1), .int (ck), .int (ls_)])), (b1, .inl (cI, 7, .inl (an))), (t0, .inr (3, [.int (nI S), .int (nI Wy), .ref (t1), .ref (t2), .ref (t3), .int (fl), .int (nI sb), .ref (t4), .int (us)])), (t1, .inl (cI, S * Wy, .inl (tg))), (t2, .inl (cI, S * Wy, .inl (kd))), (t3, .inl (cI, S * Wy, .inl (tt))), (t4, .inl (cI, S * Wy, .inl (lu))), (u0, .inr (0, [.ref (u1), .ref (u2), .int (hh)])), (u1, .inl (cI, 64, .inl (hg))), (u2, .inl (cI, 64, .inl (hq))), (r0, .inr (2, [.int (nI L), .int (nI (rd)), .int (ro), .int (ru), .ref (r1)])), (r1, .inl (cI, L, .inl (rp))), (q0, .inr (1, [.int (nI ((qf_drop (qp, qt, qd, qr, qs, qf)).2.2.2.2.1)), .int (nI ((qf_drop (qp, qt, qd, qr, qs, qf)).2.2.2.2.2)), .int (nI L), .ref (q1), .ref (q2), .ref (q3), .ref (q4)])), (q1, .inl (cI, 16, .inl ((qf_drop (qp, qt, qd, qr, qs, qf)).1))), (q2, .inl (cI, 16, .inl ((qf_drop (qp, qt, qd, qr, qs, qf)).2.1))), (q3, .inl (cI, 16, .inl ((qf_drop (qp, qt, qd, qr, qs, qf)).2.2.1))), (q4, .inl (cI, 16 * L, .inl ((qf_drop (qp, qt, qd, qr, qs, qf)).2.2.2.1)))]) [0, 1, 2, 3, 4, 5, 6, 7, 8, 9, 10, 11, 12, 13, 14, 15, 16] rfl
      have hD := hD.sub (ws' := [(b0, .inr (4, [.ref (t0), .ref (u0), .ref (r0), .ref (q0), .ref (b1), .int (ck), .int (ls_)])), (b1, .inl (cI, 7, .inl (an))), (t0, .inr (3, [.int (nI S), .int (nI Wy), .ref (t1), .ref (t2), .ref (t3), .int (fl), .int (nI sb), .ref (t4), .int (us)])), (t1, .inl (cI, S * Wy, .inl (tg))), (t2, .inl (cI, S * Wy, .inl (kd))), (t3, .inl (cI, S * Wy, .inl (tt))), (t4, .inl (cI, S * Wy, .inl (lu))), (u0, .inr (0, [.ref (u1), .ref (u2), .int (hh)])), (u1, .inl (cI, 64, .inl (hg))), (u2, .inl (cI, 64, .inl (hq))), (r0, .inr (2, [.int (nI L), .int (nI (rd)), .int (ro), .int (ru), .ref (r1)])), (r1, .inl (cI, L, .inl (rp))), (q0, .inr (1, [.int (nI ((qf_drop (qp, qt, qd, qr, qs, qf)).2.2.2.2.1)), .int (nI ((qf_drop (qp, qt, qd, qr, qs, qf)).2.2.2.2.2)), .int (nI L), .ref (q1), .ref (q2), .ref (q3), .ref (q4)])), (q1, .inl (cI, 16, .inl ((qf_drop (qp, qt, qd, qr, qs, qf)).1))), (q2, .inl (cI, 16, .inl ((qf_drop (qp, qt, qd, qr, qs, qf)).2.1))), (q3, .inl (cI, 16, .inl ((qf_drop (qp, qt, qd, qr, qs, qf)).2.2.1))), (q4, .inl (cI, 16 * L, .inl ((qf_drop (qp, qt, qd, qr, qs, qf)).2.2.2.1)))]) [0, 1, 2, 3, 4, 5, 6, 7, 8, 9, 10, 11, 12, 13, 14, 15, 16] (by decide) rfl
      refine lv_goto (tgt := 114) hx hb dX4_check_103 (by decide) ?_
      refine lv_iload_n hx hb dX4_check_114 rfl (lv_at hl 5 rfl) ?_
      refine lv_if_eq (tgt := 126) hx hb dX4_check_115 (by decide) (fun c_115 => absurd c_115 c_50) (fun c_115 => ?_)
      refine lv_aload_n hx hb dX4_check_118 rfl (lv_at hl 3 rfl) ?_
      refine lv_iload hx hb dX4_check_119 (lv_at hl 2 rfl) ?_
      refine lv_iload_n hx hb dX4_check_121 rfl (lv_at hl 4 rfl) ?_
      refine lv_iload_n hx hb dX4_check_122 rfl (lv_at hl 6 rfl) ?_
      refine kc_v (wc := [(b0, .inr (4, [.ref (t0), .ref (u0), .ref (r0), .ref (q0), .ref (b1), .int (ck), .int (ls_)])), (b1, .inl (cI, 7, .inl (an))), (t0, .inr (3, [.int (nI S), .int (nI Wy), .ref (t1), .ref (t2), .ref (t3), .int (fl), .int (nI sb), .ref (t4), .int (us)])), (t1, .inl (cI, S * Wy, .inl (tg))), (t2, .inl (cI, S * Wy, .inl (kd))), (t3, .inl (cI, S * Wy, .inl (tt))), (t4, .inl (cI, S * Wy, .inl (lu))), (u0, .inr (0, [.ref (u1), .ref (u2), .int (hh)])), (u1, .inl (cI, 64, .inl (hg))), (u2, .inl (cI, 64, .inl (hq))), (r0, .inr (2, [.int (nI L), .int (nI (rd)), .int (ro), .int (ru), .ref (r1)])), (r1, .inl (cI, L, .inl (rp))), (q0, .inr (1, [.int (nI ((qf_drop (qp, qt, qd, qr, qs, qf)).2.2.2.2.1)), .int (nI ((qf_drop (qp, qt, qd, qr, qs, qf)).2.2.2.2.2)), .int (nI L), .ref (q1), .ref (q2), .ref (q3), .ref (q4)])), (q1, .inl (cI, 16, .inl ((qf_drop (qp, qt, qd, qr, qs, qf)).1))), (q2, .inl (cI, 16, .inl ((qf_drop (qp, qt, qd, qr, qs, qf)).2.1))), (q3, .inl (cI, 16, .inl ((qf_drop (qp, qt, qd, qr, qs, qf)).2.2.1))), (q4, .inl (cI, 16 * L, .inl ((qf_drop (qp, qt, qd, qr, qs, qf)).2.2.2.1)))]) (wr := []) [0, 1, 2, 3, 4, 5, 6, 7, 8, 9, 10, 11, 12, 13, 14, 15, 16] [] rfl rfl (by decide) (by decide) hP hD hS hA (va_runV (As := [.int ((qp) (qf_ix (qp, qt, qd, qr, qs, qf) (0))), .int (p0), .int (p2)]) (rest := []) ⟨hx, hb, hml, hown, hts⟩ (c_X4_update l D cI cJ cZ _ _ _ _ _ _ _ _ _ _ _ _ _ _ _ _ _ _ _ _ _ _ _ _ _ _ _ _ _ _ _ _ _ _ _ _ _ _ _ _ _ _ _ _ _ _ _ hSs hS16 hsb hW hW4 hd hL (qf_ix_lt _ _) (Nat.le_trans (Nat.sub_le _ _) hs)) (cwV 3 hts (kw_V kw_433 kw_435 kw_10 kw_26 kw_436) rfl rfl rfl (by decide +kernel) ⟨Nat.le_of_ble_eq_true rfl, Nat.le_of_ble_eq_true rfl⟩) ⟨kP_blind, va_recv hK (hP.sub (ws' := [(b0, .inr (4, [.ref (t0), .ref (u0), .ref (r0), .ref (q0), .ref (b1), .int (ck), .int (ls_)])), (b1, .inl (cI, 7, .inl (an))), (t0, .inr (3, [.int (nI S), .int (nI Wy), .ref (t1), .ref (t2), .ref (t3), .int (fl), .int (nI sb), .ref (t4), .int (us)])), (t1, .inl (cI, S * Wy, .inl (tg))), (t2, .inl (cI, S * Wy, .inl (kd))), (t3, .inl (cI, S * Wy, .inl (tt))), (t4, .inl (cI, S * Wy, .inl (lu))), (u0, .inr (0, [.ref (u1), .ref (u2), .int (hh)])), (u1, .inl (cI, 64, .inl (hg))), (u2, .inl (cI, 64, .inl (hq))), (r0, .inr (2, [.int (nI L), .int (nI (rd)), .int (ro), .int (ru), .ref (r1)])), (r1, .inl (cI, L, .inl (rp))), (q0, .inr (1, [.int (nI ((qf_drop (qp, qt, qd, qr, qs, qf)).2.2.2.2.1)), .int (nI ((qf_drop (qp, qt, qd, qr, qs, qf)).2.2.2.2.2)), .int (nI L), .ref (q1), .ref (q2), .ref (q3), .ref (q4)])), (q1, .inl (cI, 16, .inl ((qf_drop (qp, qt, qd, qr, qs, qf)).1))), (q2, .inl (cI, 16, .inl ((qf_drop (qp, qt, qd, qr, qs, qf)).2.1))), (q3, .inl (cI, 16, .inl ((qf_drop (qp, qt, qd, qr, qs, qf)).2.2.1))), (q4, .inl (cI, 16 * L, .inl ((qf_drop (qp, qt, qd, qr, qs, qf)).2.2.2.1)))]) [0, 1, 2, 3, 4, 5, 6, 7, 8, 9, 10, 11, 12, 13, 14, 15, 16] rfl) (ci := 4) (q0 := 0) rfl rfl, kP_at (hP.sub [0, 1, 2, 3, 4, 5, 6, 7, 8, 9, 10, 11, 12, 13, 14, 15, 16] rfl) hK (hD.sub [0, 1, 2, 3, 4, 5, 6, 7, 8, 9, 10, 11, 12, 13, 14, 15, 16] (by decide) rfl)⟩ rfl rfl hl.1 rfl (lv_room (Nat.le_of_ble_eq_true rfl)) dX4_check_123 ⟨Nat.zero_le _, Nat.zero_le _⟩) (fun H locs hP hD hS => ?_)
      have hP := hP.sub (ws' := [(b0, .inr (4, [.ref (t0), .ref (u0), .ref (r0), .ref (q0), .ref (b1), .int (ck), .int (ls_)])), (b1, .inl (cI, 7, .inl (an))), (t0, .inr (3, [.int (nI S), .int (nI Wy), .ref (t1), .ref (t2), .ref (t3), .int ((tf_put S Wy sb (tg, kd, tt, lu, fl, us) ((qp) (qf_ix (qp, qt, qd, qr, qs, qf) (0))) (p0) (p2)).2.2.2.2.1), .int (nI sb), .ref (t4), .int ((tf_put S Wy sb (tg, kd, tt, lu, fl, us) ((qp) (qf_ix (qp, qt, qd, qr, qs, qf) (0))) (p0) (p2)).2.2.2.2.2)])), (t1, .inl (cI, S * Wy, .inl ((tf_put S Wy sb (tg, kd, tt, lu, fl, us) ((qp) (qf_ix (qp, qt, qd, qr, qs, qf) (0))) (p0) (p2)).1))), (t2, .inl (cI, S * Wy, .inl ((tf_put S Wy sb (tg, kd, tt, lu, fl, us) ((qp) (qf_ix (qp, qt, qd, qr, qs, qf) (0))) (p0) (p2)).2.1))), (t3, .inl (cI, S * Wy, .inl ((tf_put S Wy sb (tg, kd, tt, lu, fl, us) ((qp) (qf_ix (qp, qt, qd, qr, qs, qf) (0))) (p0) (p2)).2.2.1))), (t4, .inl (cI, S * Wy, .inl ((tf_put S Wy sb (tg, kd, tt, lu, fl, us) ((qp) (qf_ix (qp, qt, qd, qr, qs, qf) (0))) (p0) (p2)).2.2.2.1))), (u0, .inr (0, [.ref (u1), .ref (u2), .int ((cf_updH (hg, hq, hh) ((qp) (qf_ix (qp, qt, qd, qr, qs, qf) (0))) (p0) (p2)).2.2)])), (u1, .inl (cI, 64, .inl ((cf_updH (hg, hq, hh) ((qp) (qf_ix (qp, qt, qd, qr, qs, qf) (0))) (p0) (p2)).1))), (u2, .inl (cI, 64, .inl ((cf_updH (hg, hq, hh) ((qp) (qf_ix (qp, qt, qd, qr, qs, qf) (0))) (p0) (p2)).2.1))), (r0, .inr (2, [.int (nI L), .int (nI (rd)), .int (ro), .int (ru), .ref (r1)])), (r1, .inl (cI, L, .inl (rp))), (q0, .inr (1, [.int (nI ((qf_drop (qp, qt, qd, qr, qs, qf)).2.2.2.2.1)), .int (nI ((qf_drop (qp, qt, qd, qr, qs, qf)).2.2.2.2.2)), .int (nI L), .ref (q1), .ref (q2), .ref (q3), .ref (q4)])), (q1, .inl (cI, 16, .inl ((qf_drop (qp, qt, qd, qr, qs, qf)).1))), (q2, .inl (cI, 16, .inl ((qf_drop (qp, qt, qd, qr, qs, qf)).2.1))), (q3, .inl (cI, 16, .inl ((qf_drop (qp, qt, qd, qr, qs, qf)).2.2.1))), (q4, .inl (cI, 16 * L, .inl ((qf_drop (qp, qt, qd, qr, qs, qf)).2.2.2.1)))]) [0, 1, 2, 3, 4, 5, 6, 7, 8, 9, 10, 11, 12, 13, 14, 15, 16] rfl
      have hD := hD.sub (ws' := [(b0, .inr (4, [.ref (t0), .ref (u0), .ref (r0), .ref (q0), .ref (b1), .int (ck), .int (ls_)])), (b1, .inl (cI, 7, .inl (an))), (t0, .inr (3, [.int (nI S), .int (nI Wy), .ref (t1), .ref (t2), .ref (t3), .int ((tf_put S Wy sb (tg, kd, tt, lu, fl, us) ((qp) (qf_ix (qp, qt, qd, qr, qs, qf) (0))) (p0) (p2)).2.2.2.2.1), .int (nI sb), .ref (t4), .int ((tf_put S Wy sb (tg, kd, tt, lu, fl, us) ((qp) (qf_ix (qp, qt, qd, qr, qs, qf) (0))) (p0) (p2)).2.2.2.2.2)])), (t1, .inl (cI, S * Wy, .inl ((tf_put S Wy sb (tg, kd, tt, lu, fl, us) ((qp) (qf_ix (qp, qt, qd, qr, qs, qf) (0))) (p0) (p2)).1))), (t2, .inl (cI, S * Wy, .inl ((tf_put S Wy sb (tg, kd, tt, lu, fl, us) ((qp) (qf_ix (qp, qt, qd, qr, qs, qf) (0))) (p0) (p2)).2.1))), (t3, .inl (cI, S * Wy, .inl ((tf_put S Wy sb (tg, kd, tt, lu, fl, us) ((qp) (qf_ix (qp, qt, qd, qr, qs, qf) (0))) (p0) (p2)).2.2.1))), (t4, .inl (cI, S * Wy, .inl ((tf_put S Wy sb (tg, kd, tt, lu, fl, us) ((qp) (qf_ix (qp, qt, qd, qr, qs, qf) (0))) (p0) (p2)).2.2.2.1))), (u0, .inr (0, [.ref (u1), .ref (u2), .int ((cf_updH (hg, hq, hh) ((qp) (qf_ix (qp, qt, qd, qr, qs, qf) (0))) (p0) (p2)).2.2)])), (u1, .inl (cI, 64, .inl ((cf_updH (hg, hq, hh) ((qp) (qf_ix (qp, qt, qd, qr, qs, qf) (0))) (p0) (p2)).1))), (u2, .inl (cI, 64, .inl ((cf_updH (hg, hq, hh) ((qp) (qf_ix (qp, qt, qd, qr, qs, qf) (0))) (p0) (p2)).2.1))), (r0, .inr (2, [.int (nI L), .int (nI (rd)), .int (ro), .int (ru), .ref (r1)])), (r1, .inl (cI, L, .inl (rp))), (q0, .inr (1, [.int (nI ((qf_drop (qp, qt, qd, qr, qs, qf)).2.2.2.2.1)), .int (nI ((qf_drop (qp, qt, qd, qr, qs, qf)).2.2.2.2.2)), .int (nI L), .ref (q1), .ref (q2), .ref (q3), .ref (q4)])), (q1, .inl (cI, 16, .inl ((qf_drop (qp, qt, qd, qr, qs, qf)).1))), (q2, .inl (cI, 16, .inl ((qf_drop (qp, qt, qd, qr, qs, qf)).2.1))), (q3, .inl (cI, 16, .inl ((qf_drop (qp, qt, qd, qr, qs, qf)).2.2.1))), (q4, .inl (cI, 16 * L, .inl ((qf_drop (qp, qt, qd, qr, qs, qf)).2.2.2.1)))]) [0, 1, 2, 3, 4, 5, 6, 7, 8, 9, 10, 11, 12, 13, 14, 15, 16] (by decide) rfl
      refine lv_aload_n hx hb dX4_check_126 rfl (lv_at hl 3 rfl) ?_
      refine lv_dup hx hb dX4_check_127 rfl ?_
      refine va_get (D := D) (ci := 4) (v := .int (ck)) (C := RX4) (T := TX4) (N := 7) hx hb hts (fun w h => List.mem_cons_of_mem _ (hiX4 w h)) hown hK hP 0 rfl rfl 5 (by decide) kf113 (fun _ h9 => h9) rfl dX4_check_128 ?_
      refine lv_iconst (v := 1) hx hb dX4_check_131 (by decide) ?_
      refine lv_iadd hx hb dX4_check_132 ?_
      refine va_put (D := D) (ci := 4) (v := .int ((ck) + (1))) (ty := .int) (C := RX4) (T := TX4) (N := 7) hx hb hts (fun w h => List.mem_cons_of_mem _ (hiX4 w h)) tyX4 tyX4_ok nmX4 hown hK hP hD hS 0 rfl rfl 5 (by decide) kf113 (fun _ h9 => h9) rfl (by decide +kernel) rfl rfl (Nat.le_of_ble_eq_true rfl) dX4_check_133 (fun H locs hP hD hS => ?_)
      have hP : va_P D vwCl [(b0, .inr (4, [.ref (t0), .ref (u0), .ref (r0), .ref (q0), .ref (b1), .int ((ck) + (1)), .int (ls_)])), (b1, .inl (cI, 7, .inl (an))), (t0, .inr (3, [.int (nI S), .int (nI Wy), .ref (t1), .ref (t2), .ref (t3), .int ((tf_put S Wy sb (tg, kd, tt, lu, fl, us) ((qp) (qf_ix (qp, qt, qd, qr, qs, qf) (0))) (p0) (p2)).2.2.2.2.1), .int (nI sb), .ref (t4), .int ((tf_put S Wy sb (tg, kd, tt, lu, fl, us) ((qp) (qf_ix (qp, qt, qd, qr, qs, qf) (0))) (p0) (p2)).2.2.2.2.2)])), (t1, .inl (cI, S * Wy, .inl ((tf_put S Wy sb (tg, kd, tt, lu, fl, us) ((qp) (qf_ix (qp, qt, qd, qr, qs, qf) (0))) (p0) (p2)).1))), (t2, .inl (cI, S * Wy, .inl ((tf_put S Wy sb (tg, kd, tt, lu, fl, us) ((qp) (qf_ix (qp, qt, qd, qr, qs, qf) (0))) (p0) (p2)).2.1))), (t3, .inl (cI, S * Wy, .inl ((tf_put S Wy sb (tg, kd, tt, lu, fl, us) ((qp) (qf_ix (qp, qt, qd, qr, qs, qf) (0))) (p0) (p2)).2.2.1))), (t4, .inl (cI, S * Wy, .inl ((tf_put S Wy sb (tg, kd, tt, lu, fl, us) ((qp) (qf_ix (qp, qt, qd, qr, qs, qf) (0))) (p0) (p2)).2.2.2.1))), (u0, .inr (0, [.ref (u1), .ref (u2), .int ((cf_updH (hg, hq, hh) ((qp) (qf_ix (qp, qt, qd, qr, qs, qf) (0))) (p0) (p2)).2.2)])), (u1, .inl (cI, 64, .inl ((cf_updH (hg, hq, hh) ((qp) (qf_ix (qp, qt, qd, qr, qs, qf) (0))) (p0) (p2)).1))), (u2, .inl (cI, 64, .inl ((cf_updH (hg, hq, hh) ((qp) (qf_ix (qp, qt, qd, qr, qs, qf) (0))) (p0) (p2)).2.1))), (r0, .inr (2, [.int (nI L), .int (nI (rd)), .int (ro), .int (ru), .ref (r1)])), (r1, .inl (cI, L, .inl (rp))), (q0, .inr (1, [.int (nI ((qf_drop (qp, qt, qd, qr, qs, qf)).2.2.2.2.1)), .int (nI ((qf_drop (qp, qt, qd, qr, qs, qf)).2.2.2.2.2)), .int (nI L), .ref (q1), .ref (q2), .ref (q3), .ref (q4)])), (q1, .inl (cI, 16, .inl ((qf_drop (qp, qt, qd, qr, qs, qf)).1))), (q2, .inl (cI, 16, .inl ((qf_drop (qp, qt, qd, qr, qs, qf)).2.1))), (q3, .inl (cI, 16, .inl ((qf_drop (qp, qt, qd, qr, qs, qf)).2.2.1))), (q4, .inl (cI, 16 * L, .inl ((qf_drop (qp, qt, qd, qr, qs, qf)).2.2.2.1)))] H := hP
      have hD : va_D A [(b0, .inr (4, [.ref (t0), .ref (u0), .ref (r0), .ref (q0), .ref (b1), .int ((ck) + (1)), .int (ls_)])), (b1, .inl (cI, 7, .inl (an))), (t0, .inr (3, [.int (nI S), .int (nI Wy), .ref (t1), .ref (t2), .ref (t3), .int ((tf_put S Wy sb (tg, kd, tt, lu, fl, us) ((qp) (qf_ix (qp, qt, qd, qr, qs, qf) (0))) (p0) (p2)).2.2.2.2.1), .int (nI sb), .ref (t4), .int ((tf_put S Wy sb (tg, kd, tt, lu, fl, us) ((qp) (qf_ix (qp, qt, qd, qr, qs, qf) (0))) (p0) (p2)).2.2.2.2.2)])), (t1, .inl (cI, S * Wy, .inl ((tf_put S Wy sb (tg, kd, tt, lu, fl, us) ((qp) (qf_ix (qp, qt, qd, qr, qs, qf) (0))) (p0) (p2)).1))), (t2, .inl (cI, S * Wy, .inl ((tf_put S Wy sb (tg, kd, tt, lu, fl, us) ((qp) (qf_ix (qp, qt, qd, qr, qs, qf) (0))) (p0) (p2)).2.1))), (t3, .inl (cI, S * Wy, .inl ((tf_put S Wy sb (tg, kd, tt, lu, fl, us) ((qp) (qf_ix (qp, qt, qd, qr, qs, qf) (0))) (p0) (p2)).2.2.1))), (t4, .inl (cI, S * Wy, .inl ((tf_put S Wy sb (tg, kd, tt, lu, fl, us) ((qp) (qf_ix (qp, qt, qd, qr, qs, qf) (0))) (p0) (p2)).2.2.2.1))), (u0, .inr (0, [.ref (u1), .ref (u2), .int ((cf_updH (hg, hq, hh) ((qp) (qf_ix (qp, qt, qd, qr, qs, qf) (0))) (p0) (p2)).2.2)])), (u1, .inl (cI, 64, .inl ((cf_updH (hg, hq, hh) ((qp) (qf_ix (qp, qt, qd, qr, qs, qf) (0))) (p0) (p2)).1))), (u2, .inl (cI, 64, .inl ((cf_updH (hg, hq, hh) ((qp) (qf_ix (qp, qt, qd, qr, qs, qf) (0))) (p0) (p2)).2.1))), (r0, .inr (2, [.int (nI L), .int (nI (rd)), .int (ro), .int (ru), .ref (r1)])), (r1, .inl (cI, L, .inl (rp))), (q0, .inr (1, [.int (nI ((qf_drop (qp, qt, qd, qr, qs, qf)).2.2.2.2.1)), .int (nI ((qf_drop (qp, qt, qd, qr, qs, qf)).2.2.2.2.2)), .int (nI L), .ref (q1), .ref (q2), .ref (q3), .ref (q4)])), (q1, .inl (cI, 16, .inl ((qf_drop (qp, qt, qd, qr, qs, qf)).1))), (q2, .inl (cI, 16, .inl ((qf_drop (qp, qt, qd, qr, qs, qf)).2.1))), (q3, .inl (cI, 16, .inl ((qf_drop (qp, qt, qd, qr, qs, qf)).2.2.1))), (q4, .inl (cI, 16 * L, .inl ((qf_drop (qp, qt, qd, qr, qs, qf)).2.2.2.1)))] := hD
      refine lv_aload_n hx hb dX4_check_136 rfl (lv_at hl 3 rfl) ?_
      refine va_get (D := D) (ci := 4) (v := .ref (b1)) (C := RX4) (T := TX4) (N := 7) hx hb hts (fun w h => List.mem_cons_of_mem _ (hiX4 w h)) hown hK hP 0 rfl rfl 4 (by decide) kf47 (fun _ h9 => h9) rfl dX4_check_137 ?_
      refine lv_iload hx hb dX4_check_140 (lv_at hl 0 rfl) ?_
      refine lv_dup2_11 hx hb dX4_check_142 rfl rfl ?_
      refine ka_ild hx hb hK hP 1 0 rfl rfl (k := 0) (rfl) (⟨by decide, by decide⟩) dX4_check_143 ?_
      refine lv_iconst (v := 1) hx hb dX4_check_144 (by decide) ?_
      refine lv_iadd hx hb dX4_check_145 ?_
      refine ka_ist hx hb hK hP hD hS 1 0 rfl rfl (k := 0) (rfl) (⟨by decide, by decide⟩) dX4_check_146 (fun H locs hP hD hS => ?_)
      have hP : va_P D vwCl [(b0, .inr (4, [.ref (t0), .ref (u0), .ref (r0), .ref (q0), .ref (b1), .int ((ck) + (1)), .int (ls_)])), (b1, .inl (cI, 7, .inl (upd (an) (0) (((an) (0)) + (1))))), (t0, .inr (3, [.int (nI S), .int (nI Wy), .ref (t1), .ref (t2), .ref (t3), .int ((tf_put S Wy sb (tg, kd, tt, lu, fl, us) ((qp) (qf_ix (qp, qt, qd, qr, qs, qf) (0))) (p0) (p2)).2.2.2.2.1), .int (nI sb), .ref (t4), .int ((tf_put S Wy sb (tg, kd, tt, lu, fl, us) ((qp) (qf_ix (qp, qt, qd, qr, qs, qf) (0))) (p0) (p2)).2.2.2.2.2)])), (t1, .inl (cI, S * Wy, .inl ((tf_put S Wy sb (tg, kd, tt, lu, fl, us) ((qp) (qf_ix (qp, qt, qd, qr, qs, qf) (0))) (p0) (p2)).1))), (t2, .inl (cI, S * Wy, .inl ((tf_put S Wy sb (tg, kd, tt, lu, fl, us) ((qp) (qf_ix (qp, qt, qd, qr, qs, qf) (0))) (p0) (p2)).2.1))), (t3, .inl (cI, S * Wy, .inl ((tf_put S Wy sb (tg, kd, tt, lu, fl, us) ((qp) (qf_ix (qp, qt, qd, qr, qs, qf) (0))) (p0) (p2)).2.2.1))), (t4, .inl (cI, S * Wy, .inl ((tf_put S Wy sb (tg, kd, tt, lu, fl, us) ((qp) (qf_ix (qp, qt, qd, qr, qs, qf) (0))) (p0) (p2)).2.2.2.1))), (u0, .inr (0, [.ref (u1), .ref (u2), .int ((cf_updH (hg, hq, hh) ((qp) (qf_ix (qp, qt, qd, qr, qs, qf) (0))) (p0) (p2)).2.2)])), (u1, .inl (cI, 64, .inl ((cf_updH (hg, hq, hh) ((qp) (qf_ix (qp, qt, qd, qr, qs, qf) (0))) (p0) (p2)).1))), (u2, .inl (cI, 64, .inl ((cf_updH (hg, hq, hh) ((qp) (qf_ix (qp, qt, qd, qr, qs, qf) (0))) (p0) (p2)).2.1))), (r0, .inr (2, [.int (nI L), .int (nI (rd)), .int (ro), .int (ru), .ref (r1)])), (r1, .inl (cI, L, .inl (rp))), (q0, .inr (1, [.int (nI ((qf_drop (qp, qt, qd, qr, qs, qf)).2.2.2.2.1)), .int (nI ((qf_drop (qp, qt, qd, qr, qs, qf)).2.2.2.2.2)), .int (nI L), .ref (q1), .ref (q2), .ref (q3), .ref (q4)])), (q1, .inl (cI, 16, .inl ((qf_drop (qp, qt, qd, qr, qs, qf)).1))), (q2, .inl (cI, 16, .inl ((qf_drop (qp, qt, qd, qr, qs, qf)).2.1))), (q3, .inl (cI, 16, .inl ((qf_drop (qp, qt, qd, qr, qs, qf)).2.2.1))), (q4, .inl (cI, 16 * L, .inl ((qf_drop (qp, qt, qd, qr, qs, qf)).2.2.2.1)))] H := hP
      have hD : va_D A [(b0, .inr (4, [.ref (t0), .ref (u0), .ref (r0), .ref (q0), .ref (b1), .int ((ck) + (1)), .int (ls_)])), (b1, .inl (cI, 7, .inl (upd (an) (0) (((an) (0)) + (1))))), (t0, .inr (3, [.int (nI S), .int (nI Wy), .ref (t1), .ref (t2), .ref (t3), .int ((tf_put S Wy sb (tg, kd, tt, lu, fl, us) ((qp) (qf_ix (qp, qt, qd, qr, qs, qf) (0))) (p0) (p2)).2.2.2.2.1), .int (nI sb), .ref (t4), .int ((tf_put S Wy sb (tg, kd, tt, lu, fl, us) ((qp) (qf_ix (qp, qt, qd, qr, qs, qf) (0))) (p0) (p2)).2.2.2.2.2)])), (t1, .inl (cI, S * Wy, .inl ((tf_put S Wy sb (tg, kd, tt, lu, fl, us) ((qp) (qf_ix (qp, qt, qd, qr, qs, qf) (0))) (p0) (p2)).1))), (t2, .inl (cI, S * Wy, .inl ((tf_put S Wy sb (tg, kd, tt, lu, fl, us) ((qp) (qf_ix (qp, qt, qd, qr, qs, qf) (0))) (p0) (p2)).2.1))), (t3, .inl (cI, S * Wy, .inl ((tf_put S Wy sb (tg, kd, tt, lu, fl, us) ((qp) (qf_ix (qp, qt, qd, qr, qs, qf) (0))) (p0) (p2)).2.2.1))), (t4, .inl (cI, S * Wy, .inl ((tf_put S Wy sb (tg, kd, tt, lu, fl, us) ((qp) (qf_ix (qp, qt, qd, qr, qs, qf) (0))) (p0) (p2)).2.2.2.1))), (u0, .inr (0, [.ref (u1), .ref (u2), .int ((cf_updH (hg, hq, hh) ((qp) (qf_ix (qp, qt, qd, qr, qs, qf) (0))) (p0) (p2)).2.2)])), (u1, .inl (cI, 64, .inl ((cf_updH (hg, hq, hh) ((qp) (qf_ix (qp, qt, qd, qr, qs, qf) (0))) (p0) (p2)).1))), (u2, .inl (cI, 64, .inl ((cf_updH (hg, hq, hh) ((qp) (qf_ix (qp, qt, qd, qr, qs, qf) (0))) (p0) (p2)).2.1))), (r0, .inr (2, [.int (nI L), .int (nI (rd)), .int (ro), .int (ru), .ref (r1)])), (r1, .inl (cI, L, .inl (rp))), (q0, .inr (1, [.int (nI ((qf_drop (qp, qt, qd, qr, qs, qf)).2.2.2.2.1)), .int (nI ((qf_drop (qp, qt, qd, qr, qs, qf)).2.2.2.2.2)), .int (nI L), .ref (q1), .ref (q2), .ref (q3), .ref (q4)])), (q1, .inl (cI, 16, .inl ((qf_drop (qp, qt, qd, qr, qs, qf)).1))), (q2, .inl (cI, 16, .inl ((qf_drop (qp, qt, qd, qr, qs, qf)).2.1))), (q3, .inl (cI, 16, .inl ((qf_drop (qp, qt, qd, qr, qs, qf)).2.2.1))), (q4, .inl (cI, 16 * L, .inl ((qf_drop (qp, qt, qd, qr, qs, qf)).2.2.2.1)))] := hD
      refine lv_iload hx hb dX4_check_147 (lv_at hl 0 rfl) ?_
      exact kr_i (congrArg (wTR b0 b1 t0 t1 t2 t3 t4 u0 u1 u2 r0 r1 q0 q1 q2 q3 q4 cI S Wy sb L ) (show ((((tf_put S Wy sb (tg, kd, tt, lu, fl, us) ((qp) (qf_ix (qp, qt, qd, qr, qs, qf) (0))) (p0) (p2)).1, (tf_put S Wy sb (tg, kd, tt, lu, fl, us) ((qp) (qf_ix (qp, qt, qd, qr, qs, qf) (0))) (p0) (p2)).2.1, (tf_put S Wy sb (tg, kd, tt, lu, fl, us) ((qp) (qf_ix (qp, qt, qd, qr, qs, qf) (0))) (p0) (p2)).2.2.1, (tf_put S Wy sb (tg, kd, tt, lu, fl, us) ((qp) (qf_ix (qp, qt, qd, qr, qs, qf) (0))) (p0) (p2)).2.2.2.1, (tf_put S Wy sb (tg, kd, tt, lu, fl, us) ((qp) (qf_ix (qp, qt, qd, qr, qs, qf) (0))) (p0) (p2)).2.2.2.2.1, (tf_put S Wy sb (tg, kd, tt, lu, fl, us) ((qp) (qf_ix (qp, qt, qd, qr, qs, qf) (0))) (p0) (p2)).2.2.2.2.2), ((cf_updH (hg, hq, hh) ((qp) (qf_ix (qp, qt, qd, qr, qs, qf) (0))) (p0) (p2)).1, (cf_updH (hg, hq, hh) ((qp) (qf_ix (qp, qt, qd, qr, qs, qf) (0))) (p0) (p2)).2.1, (cf_updH (hg, hq, hh) ((qp) (qf_ix (qp, qt, qd, qr, qs, qf) (0))) (p0) (p2)).2.2), (rp, rd, ro, ru), ((qf_drop (qp, qt, qd, qr, qs, qf)).1, (qf_drop (qp, qt, qd, qr, qs, qf)).2.1, (qf_drop (qp, qt, qd, qr, qs, qf)).2.2.1, (qf_drop (qp, qt, qd, qr, qs, qf)).2.2.2.1, (qf_drop (qp, qt, qd, qr, qs, qf)).2.2.2.2.1, (qf_drop (qp, qt, qd, qr, qs, qf)).2.2.2.2.2), upd (an) (0) (((an) (0)) + (1)), (ck) + (1), ls_) : Cs) = cf_chk S Wy sb L ((tg, kd, tt, lu, fl, us), (hg, hq, hh), (rp, rd, ro, ru), (qp, qt, qd, qr, qs, qf), an, ck, ls_) d0 p0 p1 p2 from by simp only [cf_chk, cf_ans, cf_went, cf_pl, cf_td, if_neg c_50, if_pos c_74, show (0 : Int32).toNatClampNeg = 0 from rfl])) hx hb hr hlocks hP hK hD hS (by simp only [cf_ans, cf_went, cf_pl, cf_td, if_neg c_50, if_pos c_74]; rfl) dX4_check_149
end
section
set_option maxHeartbeats 4000000 in
set_option maxRecDepth 100000 in
/-- entry, of one that is there -/
theorem c_X4_entry (l : Launch) (D : va_G) (cI cJ cZ : ClassId) (sz : Nat) (b0 b1 t0 t1 t2 t3 t4 u0 u1 u2 r0 r1 q0 q1 q2 q3 q4 : Nat) (S Wy sb L : Nat) (tg kd tt lu : Fn) (fl us : Int32) (hg hq : Fn) (hh : Int32) (rp : Fn) (rd : Nat) (ro ru : Int32) (qp qt qd qr : Fn) (qs qf : Nat) (an : Fn) (ck ls_ : Int32) (k0 k1 : Nat) (p2 : Int32) (hk0 : k0 < S) (hk1 : k1 < Wy) (hw0 : ¬ p2 < 0) (hw2 : p2 ≤ 2) (hSs : S = 0 ∨ S = 2 ^ sb) (hS16 : S ≤ 16) (hsb : sb ≤ 4) (hW : 0 < Wy) (hW4 : Wy ≤ 4) (hd : rd ≤ L) (hL : L < 2 ^ 10) (hf : qf < 16) (hs : qs ≤ 16) : KI l yX4_entry wsX4_entry ({ frames := 0, cells := 0, slots := 0, locals := 0 } : Room) D (kTy cI cJ cZ) [.ref (b0), .int (nI k0), .int (nI k1), .int (p2)] [(b0, .inr (4, [.ref (t0), .ref (u0), .ref (r0), .ref (q0), .ref (b1), .int (ck), .int (ls_)])), (b1, .inl (cI, 7, .inl (an))), (t0, .inr (3, [.int (nI S), .int (nI Wy), .ref (t1), .ref (t2), .ref (t3), .int (fl), .int (nI sb), .ref (t4), .int (us)])), (t1, .inl (cI, S * Wy, .inl (tg))), (t2, .inl (cI, S * Wy, .inl (kd))), (t3, .inl (cI, S * Wy, .inl (tt))), (t4, .inl (cI, S * Wy, .inl (lu))), (u0, .inr (0, [.ref (u1), .ref (u2), .int (hh)])), (u1, .inl (cI, 64, .inl (hg))), (u2, .inl (cI, 64, .inl (hq))), (r0, .inr (2, [.int (nI L), .int (nI (rd)), .int (ro), .int (ru), .ref (r1)])), (r1, .inl (cI, L, .inl (rp))), (q0, .inr (1, [.int (nI (qs)), .int (nI (qf)), .int (nI L), .ref (q1), .ref (q2), .ref (q3), .ref (q4)])), (q1, .inl (cI, 16, .inl (qp))), (q2, .inl (cI, 16, .inl (qt))), (q3, .inl (cI, 16, .inl (qd))), (q4, .inl (cI, 16 * L, .inl (qr)))] sz (wTR b0 b1 t0 t1 t2 t3 t4 u0 u1 u2 r0 r1 q0 q1 q2 q3 q4 cI S Wy sb L ((tg, kd, tt, lu, fl, us), (hg, hq, hh), (rp, rd, ro, ru), (qp, qt, qd, qr, qs, qf), an, ck, ls_)) (if p2 = 0 then tg (k0 * Wy + k1) else if p2 = 1 then kd (k0 * Wy + k1) else tt (k0 * Wy + k1)) 0 0 := by
  refine Met.ofW (cc := cX4_entry) (maxL := 5) (ret := (some .int)) (by decide) rfl ?_
  intro p e s m args below meth c s₁ B hml hv
  obtain ⟨rfl, hsz, hP, hK, hD0⟩ := hv
  have hx := B.exec
  have hb := B.bytes
  have hr := B.returns
  have hts := atoms_spec (ws := wsX4_entry) B.pre
  have hown : s.vm.findClass RX4 = some m.cls := findClass_of_methodNamed B.named
  have hlocks := B.notSynchronized
  have kf126 := hts (.fieldLink RX4 126 "TargetRows$Table" "sets" "I") (List.mem_cons_of_mem _ kw_63)
  have kf129 := hts (.fieldLink RX4 129 "TargetRows$Table" "ways" "I") (List.mem_cons_of_mem _ kw_65)
  have kf139 := hts (.fieldLink RX4 139 "TargetRows$Table" "tags" "[I") (List.mem_cons_of_mem _ kw_67)
  have kf142 := hts (.fieldLink RX4 142 "TargetRows$Table" "targets" "[I") (List.mem_cons_of_mem _ kw_71)
  have kf18 := hts (.fieldLink RX4 18 "TargetRows" "table" "LTargetRows$Table;") (List.mem_cons_of_mem _ kw_173)
  have kf73 := hts (.fieldLink RX4 73 "TargetRows$Table" "kinds" "[I") (List.mem_cons_of_mem _ kw_69)
  subst hsz
  have hD := hD0.self (sz := s.heap.size)
  generalize hAe : va_A [(b0, .inr (4, [.ref (t0), .ref (u0), .ref (r0), .ref (q0), .ref (b1), .int (ck), .int (ls_)])), (b1, .inl (cI, 7, .inl (an))), (t0, .inr (3, [.int (nI S), .int (nI Wy), .ref (t1), .ref (t2), .ref (t3), .int (fl), .int (nI sb), .ref (t4), .int (us)])), (t1, .inl (cI, S * Wy, .inl (tg))), (t2, .inl (cI, S * Wy, .inl (kd))), (t3, .inl (cI, S * Wy, .inl (tt))), (t4, .inl (cI, S * Wy, .inl (lu))), (u0, .inr (0, [.ref (u1), .ref (u2), .int (hh)])), (u1, .inl (cI, 64, .inl (hg))), (u2, .inl (cI, 64, .inl (hq))), (r0, .inr (2, [.int (nI L), .int (nI (rd)), .int (ro), .int (ru), .ref (r1)])), (r1, .inl (cI, L, .inl (rp))), (q0, .inr (1, [.int (nI (qs)), .int (nI (qf)), .int (nI L), .ref (q1), .ref (q2), .ref (q3), .ref (q4)])), (q1, .inl (cI, 16, .inl (qp))), (q2, .inl (cI, 16, .inl (qt))), (q3, .inl (cI, 16, .inl (qd))), (q4, .inl (cI, 16 * L, .inl (qr)))] s.heap.size = A at hD ⊢
  have hA : ∀ q : Nat, s.heap.size ≤ q → A q := fun q h => by rw [← hAe]; exact Or.inr h
  have hS : va_S A s.heap s.heap [] := va_S.rf
  have hP : va_P D vwCl [(b0, .inr (4, [.ref (t0), .ref (u0), .ref (r0), .ref (q0), .ref (b1), .int (ck), .int (ls_)])), (b1, .inl (cI, 7, .inl (an))), (t0, .inr (3, [.int (nI S), .int (nI Wy), .ref (t1), .ref (t2), .ref (t3), .int (fl), .int (nI sb), .ref (t4), .int (us)])), (t1, .inl (cI, S * Wy, .inl (tg))), (t2, .inl (cI, S * Wy, .inl (kd))), (t3, .inl (cI, S * Wy, .inl (tt))), (t4, .inl (cI, S * Wy, .inl (lu))), (u0, .inr (0, [.ref (u1), .ref (u2), .int (hh)])), (u1, .inl (cI, 64, .inl (hg))), (u2, .inl (cI, 64, .inl (hq))), (r0, .inr (2, [.int (nI L), .int (nI (rd)), .int (ro), .int (ru), .ref (r1)])), (r1, .inl (cI, L, .inl (rp))), (q0, .inr (1, [.int (nI (qs)), .int (nI (qf)), .int (nI L), .ref (q1), .ref (q2), .ref (q3), .ref (q4)])), (q1, .inl (cI, 16, .inl (qp))), (q2, .inl (cI, 16, .inl (qt))), (q3, .inl (cI, 16, .inl (qd))), (q4, .inl (cI, 16 * L, .inl (qr)))] s.heap := hP
  have hD : va_D A [(b0, .inr (4, [.ref (t0), .ref (u0), .ref (r0), .ref (q0), .ref (b1), .int (ck), .int (ls_)])), (b1, .inl (cI, 7, .inl (an))), (t0, .inr (3, [.int (nI S), .int (nI Wy), .ref (t1), .ref (t2), .ref (t3), .int (fl), .int (nI sb), .ref (t4), .int (us)])), (t1, .inl (cI, S * Wy, .inl (tg))), (t2, .inl (cI, S * Wy, .inl (kd))), (t3, .inl (cI, S * Wy, .inl (tt))), (t4, .inl (cI, S * Wy, .inl (lu))), (u0, .inr (0, [.ref (u1), .ref (u2), .int (hh)])), (u1, .inl (cI, 64, .inl (hg))), (u2, .inl (cI, 64, .inl (hq))), (r0, .inr (2, [.int (nI L), .int (nI (rd)), .int (ro), .int (ru), .ref (r1)])), (r1, .inl (cI, L, .inl (rp))), (q0, .inr (1, [.int (nI (qs)), .int (nI (qf)), .int (nI L), .ref (q1), .ref (q2), .ref (q3), .ref (q4)])), (q1, .inl (cI, 16, .inl (qp))), (q2, .inl (cI, 16, .inl (qt))), (q3, .inl (cI, 16, .inl (qd))), (q4, .inl (cI, 16 * L, .inl (qr)))] := hD
  have hl := lv_entry ([.ref (b0), .int (nI k0), .int (nI k1), .int (p2)]) (n := 5) (Nat.le_of_ble_eq_true rfl)
  rw [lg_entry_eq]
  generalize (lg_sl ([.ref (b0), .int (nI k0), .int (nI k1), .int (p2)]) ++ List.replicate (5 - (lg_sl ([.ref (b0), .int (nI k0), .int (nI k1), .int (p2)])).length) Slot.unset).toArray = ls at hl ⊢
  have hl : lv_has ls 5 [(0, .ref (b0)), (1, .int (nI k0)), (2, .int (nI k1)), (3, .int (p2))] := hl
  have hSW := ts_SW hS16 hW4
  have hkk : k0 * Wy + k1 < S * Wy := en_lt hk0 hk1
  refine lv_iload_n hx hb dX4_entry_0 rfl (lv_at hl 1 rfl) ?_
  refine lv_if_lt (tgt := 30) hx hb dX4_entry_1 (by decide) (fun c_1 => absurd c_1 (nI_pos (by omega))) (fun c_1 => ?_)
  refine lv_iload_n hx hb dX4_entry_4 rfl (lv_at hl 1 rfl) ?_
  refine lv_aload_n hx hb dX4_entry_5 rfl (lv_at hl 0 rfl) ?_
  refine va_get (D := D) (ci := 4) (v := .ref (t0)) (C := RX4) (T := TX4) (N := 7) hx hb hts (fun w h => List.mem_cons_of_mem _ (hiX4 w h)) hown hK hP 0 rfl rfl 0 (by decide) kf18 (fun _ h9 => h9) rfl dX4_entry_6 ?_
  refine va_get (D := D) (ci := 3) (v := .int (nI S)) (C := RX3) (T := TX3) (N := 9) hx hb hts (fun w h => List.mem_cons_of_mem _ (hiX3 w h)) hown hK hP 2 rfl rfl 0 (by decide) kf126 (fun _ h9 => h9) rfl dX4_entry_9 ?_
  refine lv_icmp_ge (tgt := 30) hx hb dX4_entry_12 (by decide) (fun c_12 => absurd c_12 (nI_ge hk0 (by omega))) (fun c_12 => ?_)
  refine lv_iload_n hx hb dX4_entry_15 rfl (lv_at hl 2 rfl) ?_
  refine lv_if_lt (tgt := 30) hx hb dX4_entry_16 (by decide) (fun c_16 => absurd c_16 (nI_pos (by omega))) (fun c_16 => ?_)
  refine lv_iload_n hx hb dX4_entry_19 rfl (lv_at hl 2 rfl) ?_
  refine lv_aload_n hx hb dX4_entry_20 rfl (lv_at hl 0 rfl) ?_
  refine va_get (D := D) (ci := 4) (v := .ref (t0)) (C := RX4) (T := TX4) (N := 7) hx hb hts (fun w h => List.mem_cons_of_mem _ (hiX4 w h)) hown hK hP 0 rfl rfl 0 (by decide) kf18 (fun _ h9 => h9) rfl dX4_entry_21 ?_
  refine va_get (D := D) (ci := 3) (v := .int (nI Wy)) (C := RX3) (T := TX3) (N := 9) hx hb hts (fun w h => List.mem_cons_of_mem _ (hiX3 w h)) hown hK hP 2 rfl rfl 1 (by decide) kf129 (fun _ h9 => h9) rfl dX4_entry_24 ?_
  refine lv_icmp_lt (tgt := 40) hx hb dX4_entry_27 (by decide) (fun c_27 => ?_) (fun c_27 => absurd (nI_lt hk1 (by omega)) c_27)
  refine lv_iload_n hx hb dX4_entry_40 rfl (lv_at hl 3 rfl) ?_
  refine lv_if_lt (tgt := 49) hx hb dX4_entry_41 (by decide) (fun c_41 => absurd c_41 hw0) (fun c_41 => ?_)
  refine lv_iload_n hx hb dX4_entry_44 rfl (lv_at hl 3 rfl) ?_
  refine lv_iconst (v := 2) hx hb dX4_entry_45 (by decide) ?_
  refine lv_icmp_le (tgt := 59) hx hb dX4_entry_46 (by decide) (fun c_46 => ?_) (fun c_46 => absurd hw2 c_46)
  refine lv_iload_n hx hb dX4_entry_59 rfl (lv_at hl 1 rfl) ?_
  refine lv_aload_n hx hb dX4_entry_60 rfl (lv_at hl 0 rfl) ?_
  refine va_get (D := D) (ci := 4) (v := .ref (t0)) (C := RX4) (T := TX4) (N := 7) hx hb hts (fun w h => List.mem_cons_of_mem _ (hiX4 w h)) hown hK hP 0 rfl rfl 0 (by decide) kf18 (fun _ h9 => h9) rfl dX4_entry_61 ?_
  refine va_get (D := D) (ci := 3) (v := .int (nI Wy)) (C := RX3) (T := TX3) (N := 9) hx hb hts (fun w h => List.mem_cons_of_mem _ (hiX3 w h)) hown hK hP 2 rfl rfl 1 (by decide) kf129 (fun _ h9 => h9) rfl dX4_entry_64 ?_
  refine lv_imul hx hb dX4_entry_67 ?_
  refine kt_i (y := nI (k0 * Wy)) (pk_mul _ _) ?_
  refine lv_iload_n hx hb dX4_entry_68 rfl (lv_at hl 2 rfl) ?_
  refine lv_iadd hx hb dX4_entry_69 ?_
  refine kt_i (y := nI (k0 * Wy + k1)) (nI_add _ _) ?_
  refine lv_istore (lv' := [(4, .int (nI (k0 * Wy + k1))), (0, .ref (b0)), (1, .int (nI k0)), (2, .int (nI k1)), (3, .int (p2))]) hx hb dX4_entry_70 hl (by decide) rfl (fun ls hl => ?_)
  refine lv_iload_n hx hb dX4_entry_72 rfl (lv_at hl 4 rfl) ?_
  refine lv_if_ne (tgt := 87) hx hb dX4_entry_73 (by decide) (fun c_73 => ?_) (fun c_73 => ?_)
  ·
    refine lv_iload_n hx hb dX4_entry_87 rfl (lv_at hl 4 rfl) ?_
    refine lv_iconst (v := 1) hx hb dX4_entry_88 (by decide) ?_
    refine lv_icmp_ne (tgt := 105) hx hb dX4_entry_89 (by decide) (fun c_89 => ?_) (fun c_89 => ?_)
    ·
      refine lv_aload_n hx hb dX4_entry_105 rfl (lv_at hl 1 rfl) ?_
      refine va_get (D := D) (ci := 4) (v := .ref (t0)) (C := RX4) (T := TX4) (N := 7) hx hb hts (fun w h => List.mem_cons_of_mem _ (hiX4 w h)) hown hK hP 0 rfl rfl 0 (by decide) kf18 (fun _ h9 => h9) rfl dX4_entry_106 ?_
      refine va_get (D := D) (ci := 3) (v := .ref (t3)) (C := RX3) (T := TX3) (N := 9) hx hb hts (fun w h => List.mem_cons_of_mem _ (hiX3 w h)) hown hK hP 2 rfl rfl 4 (by decide) kf142 (fun _ h9 => h9) rfl dX4_entry_109 ?_
      refine lv_iload hx hb dX4_entry_112 (lv_at hl 0 rfl) ?_
      refine ka_ild hx hb hK hP 5 0 rfl rfl (k := k0 * Wy + k1) (rfl) (⟨hkk, by omega⟩) dX4_entry_114 ?_
      exact kr_i (rfl) hx hb hr hlocks hP hK hD hS (by rw [if_neg c_73, if_neg c_89]) dX4_entry_115
    ·
      refine lv_aload_n hx hb dX4_entry_92 rfl (lv_at hl 1 rfl) ?_
      refine va_get (D := D) (ci := 4) (v := .ref (t0)) (C := RX4) (T := TX4) (N := 7) hx hb hts (fun w h => List.mem_cons_of_mem _ (hiX4 w h)) hown hK hP 0 rfl rfl 0 (by decide) kf18 (fun _ h9 => h9) rfl dX4_entry_93 ?_
      refine va_get (D := D) (ci := 3) (v := .ref (t2)) (C := RX3) (T := TX3) (N := 9) hx hb hts (fun w h => List.mem_cons_of_mem _ (hiX3 w h)) hown hK hP 2 rfl rfl 3 (by decide) kf73 (fun _ h9 => h9) rfl dX4_entry_96 ?_
      refine lv_iload hx hb dX4_entry_99 (lv_at hl 0 rfl) ?_
      refine ka_ild hx hb hK hP 4 0 rfl rfl (k := k0 * Wy + k1) (rfl) (⟨hkk, by omega⟩) dX4_entry_101 ?_
      refine lv_goto (tgt := 115) hx hb dX4_entry_102 (by decide) ?_
      exact kr_i (rfl) hx hb hr hlocks hP hK hD hS (by rw [if_neg c_73, if_pos c_89]) dX4_entry_115
  ·
    refine lv_aload_n hx hb dX4_entry_76 rfl (lv_at hl 1 rfl) ?_
    refine va_get (D := D) (ci := 4) (v := .ref (t0)) (C := RX4) (T := TX4) (N := 7) hx hb hts (fun w h => List.mem_cons_of_mem _ (hiX4 w h)) hown hK hP 0 rfl rfl 0 (by decide) kf18 (fun _ h9 => h9) rfl dX4_entry_77 ?_
    refine va_get (D := D) (ci := 3) (v := .ref (t1)) (C := RX3) (T := TX3) (N := 9) hx hb hts (fun w h => List.mem_cons_of_mem _ (hiX3 w h)) hown hK hP 2 rfl rfl 2 (by decide) kf139 (fun _ h9 => h9) rfl dX4_entry_80 ?_
    refine lv_iload hx hb dX4_entry_83 (lv_at hl 0 rfl) ?_
    refine ka_ild hx hb hK hP 3 0 rfl rfl (k := k0 * Wy + k1) (rfl) (⟨hkk, by omega⟩) dX4_entry_85 ?_
    exact kr_i (rfl) hx hb hr hlocks hP hK hD hS ((if_pos c_73).symm) dX4_entry_86

set_option maxHeartbeats 4000000 in
set_option maxRecDepth 100000 in
/-- row -/
theorem c_X4_row (l : Launch) (D : va_G) (cI cJ cZ : ClassId) (sz : Nat) (b0 b1 t0 t1 t2 t3 t4 u0 u1 u2 r0 r1 q0 q1 q2 q3 q4 : Nat) (S Wy sb L : Nat) (tg kd tt lu : Fn) (fl us : Int32) (hg hq : Fn) (hh : Int32) (rp : Fn) (rd : Nat) (ro ru : Int32) (qp qt qd qr : Fn) (qs qf : Nat) (an : Fn) (ck ls_ : Int32) (k0 : Nat) (p1 : Int32) (hk0 : k0 < 64) (hw0 : ¬ p1 < 0) (hw1 : p1 ≤ 1) : KI l yX4_row wsX4_row ({ frames := 0, cells := 0, slots := 0, locals := 0 } : Room) D (kTy cI cJ cZ) [.ref (b0), .int (nI k0), .int (p1)] [(b0, .inr (4, [.ref (t0), .ref (u0), .ref (r0), .ref (q0), .ref (b1), .int (ck), .int (ls_)])), (b1, .inl (cI, 7, .inl (an))), (t0, .inr (3, [.int (nI S), .int (nI Wy), .ref (t1), .ref (t2), .ref (t3), .int (fl), .int (nI sb), .ref (t4), .int (us)])), (t1, .inl (cI, S * Wy, .inl (tg))), (t2, .inl (cI, S * Wy, .inl (kd))), (t3, .inl (cI, S * Wy, .inl (tt))), (t4, .inl (cI, S * Wy, .inl (lu))), (u0, .inr (0, [.ref (u1), .ref (u2), .int (hh)])), (u1, .inl (cI, 64, .inl (hg))), (u2, .inl (cI, 64, .inl (hq))), (r0, .inr (2, [.int (nI L), .int (nI (rd)), .int (ro), .int (ru), .ref (r1)])), (r1, .inl (cI, L, .inl (rp))), (q0, .inr (1, [.int (nI (qs)), .int (nI (qf)), .int (nI L), .ref (q1), .ref (q2), .ref (q3), .ref (q4)])), (q1, .inl (cI, 16, .inl (qp))), (q2, .inl (cI, 16, .inl (qt))), (q3, .inl (cI, 16, .inl (qd))), (q4, .inl (cI, 16 * L, .inl (qr)))] sz (wTR b0 b1 t0 t1 t2 t3 t4 u0 u1 u2 r0 r1 q0 q1 q2 q3 q4 cI S Wy sb L ((tg, kd, tt, lu, fl, us), (hg, hq, hh), (rp, rd, ro, ru), (qp, qt, qd, qr, qs, qf), an, ck, ls_)) (if p1 = 0 then hg k0 else hq k0) 0 0 := by
  refine Met.ofW (cc := cX4_row) (maxL := 3) (ret := (some .int)) (by decide) rfl ?_
  intro p e s m args below meth c s₁ B hml hv
  obtain ⟨rfl, hsz, hP, hK, hD0⟩ := hv
  have hx := B.exec
  have hb := B.bytes
  have hr := B.returns
  have hts := atoms_spec (ws := wsX4_row) B.pre
  have hown : s.vm.findClass RX4 = some m.cls := findClass_of_methodNamed B.named
  have hlocks := B.notSynchronized
  have kf147 := hts (.fieldLink RX4 147 "TargetRows$HistoryRows" "tags" "[I") (List.mem_cons_of_mem _ kw_105)
  have kf148 := hts (.fieldLink RX4 148 "TargetRows$HistoryRows" "targets" "[I") (List.mem_cons_of_mem _ kw_107)
  have kf27 := hts (.fieldLink RX4 27 "TargetRows" "rows" "LTargetRows$HistoryRows;") (List.mem_cons_of_mem _ kw_174)
  subst hsz
  have hD := hD0.self (sz := s.heap.size)
  generalize hAe : va_A [(b0, .inr (4, [.ref (t0), .ref (u0), .ref (r0), .ref (q0), .ref (b1), .int (ck), .int (ls_)])), (b1, .inl (cI, 7, .inl (an))), (t0, .inr (3, [.int (nI S), .int (nI Wy), .ref (t1), .ref (t2), .ref (t3), .int (fl), .int (nI sb), .ref (t4), .int (us)])), (t1, .inl (cI, S * Wy, .inl (tg))), (t2, .inl (cI, S * Wy, .inl (kd))), (t3, .inl (cI, S * Wy, .inl (tt))), (t4, .inl (cI, S * Wy, .inl (lu))), (u0, .inr (0, [.ref (u1), .ref (u2), .int (hh)])), (u1, .inl (cI, 64, .inl (hg))), (u2, .inl (cI, 64, .inl (hq))), (r0, .inr (2, [.int (nI L), .int (nI (rd)), .int (ro), .int (ru), .ref (r1)])), (r1, .inl (cI, L, .inl (rp))), (q0, .inr (1, [.int (nI (qs)), .int (nI (qf)), .int (nI L), .ref (q1), .ref (q2), .ref (q3), .ref (q4)])), (q1, .inl (cI, 16, .inl (qp))), (q2, .inl (cI, 16, .inl (qt))), (q3, .inl (cI, 16, .inl (qd))), (q4, .inl (cI, 16 * L, .inl (qr)))] s.heap.size = A at hD ⊢
  have hA : ∀ q : Nat, s.heap.size ≤ q → A q := fun q h => by rw [← hAe]; exact Or.inr h
  have hS : va_S A s.heap s.heap [] := va_S.rf
  have hP : va_P D vwCl [(b0, .inr (4, [.ref (t0), .ref (u0), .ref (r0), .ref (q0), .ref (b1), .int (ck), .int (ls_)])), (b1, .inl (cI, 7, .inl (an))), (t0, .inr (3, [.int (nI S), .int (nI Wy), .ref (t1), .ref (t2), .ref (t3), .int (fl), .int (nI sb), .ref (t4), .int (us)])), (t1, .inl (cI, S * Wy, .inl (tg))), (t2, .inl (cI, S * Wy, .inl (kd))), (t3, .inl (cI, S * Wy, .inl (tt))), (t4, .inl (cI, S * Wy, .inl (lu))), (u0, .inr (0, [.ref (u1), .ref (u2), .int (hh)])), (u1, .inl (cI, 64, .inl (hg))), (u2, .inl (cI, 64, .inl (hq))), (r0, .inr (2, [.int (nI L), .int (nI (rd)), .int (ro), .int (ru), .ref (r1)])), (r1, .inl (cI, L, .inl (rp))), (q0, .inr (1, [.int (nI (qs)), .int (nI (qf)), .int (nI L), .ref (q1), .ref (q2), .ref (q3), .ref (q4)])), (q1, .inl (cI, 16, .inl (qp))), (q2, .inl (cI, 16, .inl (qt))), (q3, .inl (cI, 16, .inl (qd))), (q4, .inl (cI, 16 * L, .inl (qr)))] s.heap := hP
  have hD : va_D A [(b0, .inr (4, [.ref (t0), .ref (u0), .ref (r0), .ref (q0), .ref (b1), .int (ck), .int (ls_)])), (b1, .inl (cI, 7, .inl (an))), (t0, .inr (3, [.int (nI S), .int (nI Wy), .ref (t1), .ref (t2), .ref (t3), .int (fl), .int (nI sb), .ref (t4), .int (us)])), (t1, .inl (cI, S * Wy, .inl (tg))), (t2, .inl (cI, S * Wy, .inl (kd))), (t3, .inl (cI, S * Wy, .inl (tt))), (t4, .inl (cI, S * Wy, .inl (lu))), (u0, .inr (0, [.ref (u1), .ref (u2), .int (hh)])), (u1, .inl (cI, 64, .inl (hg))), (u2, .inl (cI, 64, .inl (hq))), (r0, .inr (2, [.int (nI L), .int (nI (rd)), .int (ro), .int (ru), .ref (r1)])), (r1, .inl (cI, L, .inl (rp))), (q0, .inr (1, [.int (nI (qs)), .int (nI (qf)), .int (nI L), .ref (q1), .ref (q2), .ref (q3), .ref (q4)])), (q1, .inl (cI, 16, .inl (qp))), (q2, .inl (cI, 16, .inl (qt))), (q3, .inl (cI, 16, .inl (qd))), (q4, .inl (cI, 16 * L, .inl (qr)))] := hD
  have hl := lv_entry ([.ref (b0), .int (nI k0), .int (p1)]) (n := 3) (Nat.le_of_ble_eq_true rfl)
  rw [lg_entry_eq]
  generalize (lg_sl ([.ref (b0), .int (nI k0), .int (p1)]) ++ List.replicate (3 - (lg_sl ([.ref (b0), .int (nI k0), .int (p1)])).length) Slot.unset).toArray = ls at hl ⊢
  have hl : lv_has ls 3 [(0, .ref (b0)), (1, .int (nI k0)), (2, .int (p1))] := hl
  refine lv_iload_n hx hb dX4_row_0 rfl (lv_at hl 1 rfl) ?_
  refine lv_if_lt (tgt := 10) hx hb dX4_row_1 (by decide) (fun c_1 => absurd c_1 (nI_pos (by omega))) (fun c_1 => ?_)
  refine lv_iload_n hx hb dX4_row_4 rfl (lv_at hl 1 rfl) ?_
  refine lv_bipush (v := 64) hx hb dX4_row_5 (by decide) ?_
  refine lv_icmp_lt (tgt := 20) hx hb dX4_row_7 (by decide) (fun c_7 => ?_) (fun c_7 => absurd (nI_lt (b := 64) hk0 (by decide)) c_7)
  refine lv_iload_n hx hb dX4_row_20 rfl (lv_at hl 2 rfl) ?_
  refine lv_if_lt (tgt := 29) hx hb dX4_row_21 (by decide) (fun c_21 => absurd c_21 hw0) (fun c_21 => ?_)
  refine lv_iload_n hx hb dX4_row_24 rfl (lv_at hl 2 rfl) ?_
  refine lv_iconst (v := 1) hx hb dX4_row_25 (by decide) ?_
  refine lv_icmp_le (tgt := 39) hx hb dX4_row_26 (by decide) (fun c_26 => ?_) (fun c_26 => absurd hw1 c_26)
  refine lv_iload_n hx hb dX4_row_39 rfl (lv_at hl 2 rfl) ?_
  refine lv_if_ne (tgt := 55) hx hb dX4_row_40 (by decide) (fun c_40 => ?_) (fun c_40 => ?_)
  ·
    refine lv_aload_n hx hb dX4_row_55 rfl (lv_at hl 0 rfl) ?_
    refine va_get (D := D) (ci := 4) (v := .ref (u0)) (C := RX4) (T := TX4) (N := 7) hx hb hts (fun w h => List.mem_cons_of_mem _ (hiX4 w h)) hown hK hP 0 rfl rfl 1 (by decide) kf27 (fun _ h9 => h9) rfl dX4_row_56 ?_
    refine va_get (D := D) (ci := 0) (v := .ref (u2)) (C := RX0) (T := TX0) (N := 3) hx hb hts (fun w h => List.mem_cons_of_mem _ (hiX0 w h)) hown hK hP 7 rfl rfl 1 (by decide) kf148 (fun _ h9 => h9) rfl dX4_row_59 ?_
    refine lv_iload_n hx hb dX4_row_62 rfl (lv_at hl 1 rfl) ?_
    refine ka_ild hx hb hK hP 9 0 rfl rfl (k := k0) (rfl) (⟨hk0, by decide⟩) dX4_row_63 ?_
    exact kr_i (rfl) hx hb hr hlocks hP hK hD hS ((if_neg c_40).symm) dX4_row_64
  ·
    refine lv_aload_n hx hb dX4_row_43 rfl (lv_at hl 0 rfl) ?_
    refine va_get (D := D) (ci := 4) (v := .ref (u0)) (C := RX4) (T := TX4) (N := 7) hx hb hts (fun w h => List.mem_cons_of_mem _ (hiX4 w h)) hown hK hP 0 rfl rfl 1 (by decide) kf27 (fun _ h9 => h9) rfl dX4_row_44 ?_
    refine va_get (D := D) (ci := 0) (v := .ref (u1)) (C := RX0) (T := TX0) (N := 3) hx hb hts (fun w h => List.mem_cons_of_mem _ (hiX0 w h)) hown hK hP 7 rfl rfl 0 (by decide) kf147 (fun _ h9 => h9) rfl dX4_row_47 ?_
    refine lv_iload_n hx hb dX4_row_50 rfl (lv_at hl 1 rfl) ?_
    refine ka_ild hx hb hK hP 8 0 rfl rfl (k := k0) (rfl) (⟨hk0, by decide⟩) dX4_row_51 ?_
    refine lv_goto (tgt := 64) hx hb dX4_row_52 (by decide) ?_
    exact kr_i (rfl) hx hb hr hlocks hP hK hD hS ((if_pos c_40).symm) dX4_row_64

set_option maxHeartbeats 4000000 in
set_option maxRecDepth 100000 in
/-- ring -/
theorem c_X4_ring (l : Launch) (D : va_G) (cI cJ cZ : ClassId) (sz : Nat) (b0 b1 t0 t1 t2 t3 t4 u0 u1 u2 r0 r1 q0 q1 q2 q3 q4 : Nat) (S Wy sb L : Nat) (tg kd tt lu : Fn) (fl us : Int32) (hg hq : Fn) (hh : Int32) (rp : Fn) (rd : Nat) (ro ru : Int32) (qp qt qd qr : Fn) (qs qf : Nat) (an : Fn) (ck ls_ : Int32) (k0 : Nat) (hk0 : k0 < rd) (hSs : S = 0 ∨ S = 2 ^ sb) (hS16 : S ≤ 16) (hsb : sb ≤ 4) (hW : 0 < Wy) (hW4 : Wy ≤ 4) (hd : rd ≤ L) (hL : L < 2 ^ 10) (hf : qf < 16) (hs : qs ≤ 16) : KI l yX4_ring wsX4_ring ({ frames := 1, cells := 0, slots := 0, locals := 21 } : Room) D (kTy cI cJ cZ) [.ref (b0), .int (nI k0)] [(b0, .inr (4, [.ref (t0), .ref (u0), .ref (r0), .ref (q0), .ref (b1), .int (ck), .int (ls_)])), (b1, .inl (cI, 7, .inl (an))), (t0, .inr (3, [.int (nI S), .int (nI Wy), .ref (t1), .ref (t2), .ref (t3), .int (fl), .int (nI sb), .ref (t4), .int (us)])), (t1, .inl (cI, S * Wy, .inl (tg))), (t2, .inl (cI, S * Wy, .inl (kd))), (t3, .inl (cI, S * Wy, .inl (tt))), (t4, .inl (cI, S * Wy, .inl (lu))), (u0, .inr (0, [.ref (u1), .ref (u2), .int (hh)])), (u1, .inl (cI, 64, .inl (hg))), (u2, .inl (cI, 64, .inl (hq))), (r0, .inr (2, [.int (nI L), .int (nI (rd)), .int (ro), .int (ru), .ref (r1)])), (r1, .inl (cI, L, .inl (rp))), (q0, .inr (1, [.int (nI (qs)), .int (nI (qf)), .int (nI L), .ref (q1), .ref (q2), .ref (q3), .ref (q4)])), (q1, .inl (cI, 16, .inl (qp))), (q2, .inl (cI, 16, .inl (qt))), (q3, .inl (cI, 16, .inl (qd))), (q4, .inl (cI, 16 * L, .inl (qr)))] sz (wTR b0 b1 t0 t1 t2 t3 t4 u0 u1 u2 r0 r1 q0 q1 q2 q3 q4 cI S Wy sb L ((tg, kd, tt, lu, fl, us), (hg, hq, hh), (rp, rd, ro, ru), (qp, qt, qd, qr, qs, qf), an, ck, ls_)) (rf_top (rp, rd, ro, ru) k0) 0 0 := by
  refine Met.ofW (cc := cX4_ring) (maxL := 2) (ret := (some .int)) (by decide) rfl ?_
  intro p e s m args below meth c s₁ B hml hv
  obtain ⟨rfl, hsz, hP, hK, hD0⟩ := hv
  have hx := B.exec
  have hb := B.bytes
  have hr := B.returns
  have hts := atoms_spec (ws := wsX4_ring) B.pre
  have hown : s.vm.findClass RX4 = some m.cls := findClass_of_methodNamed B.named
  have hlocks := B.notSynchronized
  have kf149 := hts (.fieldLink RX4 149 "TargetRows$Returns" "depth" "I") (List.mem_cons_of_mem _ kw_127)
  have kf36 := hts (.fieldLink RX4 36 "TargetRows" "stack" "LTargetRows$Returns;") (List.mem_cons_of_mem _ kw_175)
  subst hsz
  have hD := hD0.self (sz := s.heap.size)
  generalize hAe : va_A [(b0, .inr (4, [.ref (t0), .ref (u0), .ref (r0), .ref (q0), .ref (b1), .int (ck), .int (ls_)])), (b1, .inl (cI, 7, .inl (an))), (t0, .inr (3, [.int (nI S), .int (nI Wy), .ref (t1), .ref (t2), .ref (t3), .int (fl), .int (nI sb), .ref (t4), .int (us)])), (t1, .inl (cI, S * Wy, .inl (tg))), (t2, .inl (cI, S * Wy, .inl (kd))), (t3, .inl (cI, S * Wy, .inl (tt))), (t4, .inl (cI, S * Wy, .inl (lu))), (u0, .inr (0, [.ref (u1), .ref (u2), .int (hh)])), (u1, .inl (cI, 64, .inl (hg))), (u2, .inl (cI, 64, .inl (hq))), (r0, .inr (2, [.int (nI L), .int (nI (rd)), .int (ro), .int (ru), .ref (r1)])), (r1, .inl (cI, L, .inl (rp))), (q0, .inr (1, [.int (nI (qs)), .int (nI (qf)), .int (nI L), .ref (q1), .ref (q2), .ref (q3), .ref (q4)])), (q1, .inl (cI, 16, .inl (qp))), (q2, .inl (cI, 16, .inl (qt))), (q3, .inl (cI, 16, .inl (qd))), (q4, .inl (cI, 16 * L, .inl (qr)))] s.heap.size = A at hD ⊢
  have hA : ∀ q : Nat, s.heap.size ≤ q → A q := fun q h => by rw [← hAe]; exact Or.inr h
  have hS : va_S A s.heap s.heap [] := va_S.rf
  have hP : va_P D vwCl [(b0, .inr (4, [.ref (t0), .ref (u0), .ref (r0), .ref (q0), .ref (b1), .int (ck), .int (ls_)])), (b1, .inl (cI, 7, .inl (an))), (t0, .inr (3, [.int (nI S), .int (nI Wy), .ref (t1), .ref (t2), .ref (t3), .int (fl), .int (nI sb), .ref (t4), .int (us)])), (t1, .inl (cI, S * Wy, .inl (tg))), (t2, .inl (cI, S * Wy, .inl (kd))), (t3, .inl (cI, S * Wy, .inl (tt))), (t4, .inl (cI, S * Wy, .inl (lu))), (u0, .inr (0, [.ref (u1), .ref (u2), .int (hh)])), (u1, .inl (cI, 64, .inl (hg))), (u2, .inl (cI, 64, .inl (hq))), (r0, .inr (2, [.int (nI L), .int (nI (rd)), .int (ro), .int (ru), .ref (r1)])), (r1, .inl (cI, L, .inl (rp))), (q0, .inr (1, [.int (nI (qs)), .int (nI (qf)), .int (nI L), .ref (q1), .ref (q2), .ref (q3), .ref (q4)])), (q1, .inl (cI, 16, .inl (qp))), (q2, .inl (cI, 16, .inl (qt))), (q3, .inl (cI, 16, .inl (qd))), (q4, .inl (cI, 16 * L, .inl (qr)))] s.heap := hP
  have hD : va_D A [(b0, .inr (4, [.ref (t0), .ref (u0), .ref (r0), .ref (q0), .ref (b1), .int (ck), .int (ls_)])), (b1, .inl (cI, 7, .inl (an))), (t0, .inr (3, [.int (nI S), .int (nI Wy), .ref (t1), .ref (t2), .ref (t3), .int (fl), .int (nI sb), .ref (t4), .int (us)])), (t1, .inl (cI, S * Wy, .inl (tg))), (t2, .inl (cI, S * Wy, .inl (kd))), (t3, .inl (cI, S * Wy, .inl (tt))), (t4, .inl (cI, S * Wy, .inl (lu))), (u0, .inr (0, [.ref (u1), .ref (u2), .int (hh)])), (u1, .inl (cI, 64, .inl (hg))), (u2, .inl (cI, 64, .inl (hq))), (r0, .inr (2, [.int (nI L), .int (nI (rd)), .int (ro), .int (ru), .ref (r1)])), (r1, .inl (cI, L, .inl (rp))), (q0, .inr (1, [.int (nI (qs)), .int (nI (qf)), .int (nI L), .ref (q1), .ref (q2), .ref (q3), .ref (q4)])), (q1, .inl (cI, 16, .inl (qp))), (q2, .inl (cI, 16, .inl (qt))), (q3, .inl (cI, 16, .inl (qd))), (q4, .inl (cI, 16 * L, .inl (qr)))] := hD
  have hl := lv_entry ([.ref (b0), .int (nI k0)]) (n := 2) (Nat.le_of_ble_eq_true rfl)
  rw [lg_entry_eq]
  generalize (lg_sl ([.ref (b0), .int (nI k0)]) ++ List.replicate (2 - (lg_sl ([.ref (b0), .int (nI k0)])).length) Slot.unset).toArray = ls at hl ⊢
  have hl : lv_has ls 2 [(0, .ref (b0)), (1, .int (nI k0))] := hl
  refine lv_iload_n hx hb dX4_ring_0 rfl (lv_at hl 1 rfl) ?_
  refine lv_if_lt (tgt := 15) hx hb dX4_ring_1 (by decide) (fun c_1 => absurd c_1 (nI_pos (by omega))) (fun c_1 => ?_)
  refine lv_iload_n hx hb dX4_ring_4 rfl (lv_at hl 1 rfl) ?_
  refine lv_aload_n hx hb dX4_ring_5 rfl (lv_at hl 0 rfl) ?_
  refine va_get (D := D) (ci := 4) (v := .ref (r0)) (C := RX4) (T := TX4) (N := 7) hx hb hts (fun w h => List.mem_cons_of_mem _ (hiX4 w h)) hown hK hP 0 rfl rfl 2 (by decide) kf36 (fun _ h9 => h9) rfl dX4_ring_6 ?_
  refine va_get (D := D) (ci := 2) (v := .int (nI (rd))) (C := RX2) (T := TX2) (N := 5) hx hb hts (fun w h => List.mem_cons_of_mem _ (hiX2 w h)) hown hK hP 10 rfl rfl 1 (by decide) kf149 (fun _ h9 => h9) rfl dX4_ring_9 ?_
  refine lv_icmp_lt (tgt := 25) hx hb dX4_ring_12 (by decide) (fun c_12 => ?_) (fun c_12 => absurd (nI_lt hk0 (by omega)) c_12)
  refine lv_aload_n hx hb dX4_ring_25 rfl (lv_at hl 0 rfl) ?_
  refine va_get (D := D) (ci := 4) (v := .ref (r0)) (C := RX4) (T := TX4) (N := 7) hx hb hts (fun w h => List.mem_cons_of_mem _ (hiX4 w h)) hown hK hP 0 rfl rfl 2 (by decide) kf36 (fun _ h9 => h9) rfl dX4_ring_26 ?_
  refine lv_iload_n hx hb dX4_ring_29 rfl (lv_at hl 1 rfl) ?_
  refine kc_i (wc := [(r0, .inr (2, [.int (nI L), .int (nI (rd)), .int (ro), .int (ru), .ref (r1)])), (r1, .inl (cI, L, .inl (rp)))]) (wr := [(b0, .inr (4, [.ref (t0), .ref (u0), .ref (r0), .ref (q0), .ref (b1), .int (ck), .int (ls_)])), (b1, .inl (cI, 7, .inl (an))), (t0, .inr (3, [.int (nI S), .int (nI Wy), .ref (t1), .ref (t2), .ref (t3), .int (fl), .int (nI sb), .ref (t4), .int (us)])), (t1, .inl (cI, S * Wy, .inl (tg))), (t2, .inl (cI, S * Wy, .inl (kd))), (t3, .inl (cI, S * Wy, .inl (tt))), (t4, .inl (cI, S * Wy, .inl (lu))), (u0, .inr (0, [.ref (u1), .ref (u2), .int (hh)])), (u1, .inl (cI, 64, .inl (hg))), (u2, .inl (cI, 64, .inl (hq))), (q0, .inr (1, [.int (nI (qs)), .int (nI (qf)), .int (nI L), .ref (q1), .ref (q2), .ref (q3), .ref (q4)])), (q1, .inl (cI, 16, .inl (qp))), (q2, .inl (cI, 16, .inl (qt))), (q3, .inl (cI, 16, .inl (qd))), (q4, .inl (cI, 16 * L, .inl (qr)))]) [10, 11] [0, 1, 2, 3, 4, 5, 6, 7, 8, 9, 12, 13, 14, 15, 16] rfl rfl (by decide) (by decide) hP hD hS hA (va_runV (As := [.int (nI k0)]) (rest := []) ⟨hx, hb, hml, hown, hts⟩ (c_X2_fromTop l D cI cJ cZ _ _ _ _ _ _ _ _ _ hk0 hd (by omega)) (cwV 1 hts (kw_V kw_218 kw_219 kw_220 kw_31 kw_221) rfl rfl rfl (by decide +kernel) ⟨Nat.le_of_ble_eq_true rfl, Nat.le_of_ble_eq_true rfl⟩) ⟨kP_blind, va_recv hK (hP.sub (ws' := [(r0, .inr (2, [.int (nI L), .int (nI (rd)), .int (ro), .int (ru), .ref (r1)])), (r1, .inl (cI, L, .inl (rp)))]) [10, 11] rfl) (ci := 2) (q0 := 0) rfl rfl, kP_at (hP.sub [10, 11] rfl) hK (hD.sub [10, 11] (by decide) rfl)⟩ rfl rfl hl.1 rfl (lv_room (Nat.le_of_ble_eq_true rfl)) dX4_ring_30 ⟨Nat.zero_le _, Nat.zero_le _⟩) (fun H locs hP hD hS => ?_)
  have hP := hP.sub (ws' := [(b0, .inr (4, [.ref (t0), .ref (u0), .ref (r0), .ref (q0), .ref (b1), .int (ck), .int (ls_)])), (b1, .inl (cI, 7, .inl (an))), (t0, .inr (3, [.int (nI S), .int (nI Wy), .ref (t1), .ref (t2), .ref (t3), .int (fl), .int (nI sb), .ref (t4), .int (us)])), (t1, .inl (cI, S * Wy, .inl (tg))), (t2, .inl (cI, S * Wy, .inl (kd))), (t3, .inl (cI, S * Wy, .inl (tt))), (t4, .inl (cI, S * Wy, .inl (lu))), (u0, .inr (0, [.ref (u1), .ref (u2), .int (hh)])), (u1, .inl (cI, 64, .inl (hg))), (u2, .inl (cI, 64, .inl (hq))), (r0, .inr (2, [.int (nI L), .int (nI (rd)), .int (ro), .int (ru), .ref (r1)])), (r1, .inl (cI, L, .inl (rp))), (q0, .inr (1, [.int (nI (qs)), .int (nI (qf)), .int (nI L), .ref (q1), .ref (q2), .ref (q3), .ref (q4)])), (q1, .inl (cI, 16, .inl (qp))), (q2, .inl (cI, 16, .inl (qt))), (q3, .inl (cI, 16, .inl (qd))), (q4, .inl (cI, 16 * L, .inl (qr)))]) [0, 1, 2, 3, 4, 5, 6, 7, 8, 9, 15, 16, 10, 11, 12, 13, 14] rfl
  have hD := hD.sub (ws' := [(b0, .inr (4, [.ref (t0), .ref (u0), .ref (r0), .ref (q0), .ref (b1), .int (ck), .int (ls_)])), (b1, .inl (cI, 7, .inl (an))), (t0, .inr (3, [.int (nI S), .int (nI Wy), .ref (t1), .ref (t2), .ref (t3), .int (fl), .int (nI sb), .ref (t4), .int (us)])), (t1, .inl (cI, S * Wy, .inl (tg))), (t2, .inl (cI, S * Wy, .inl (kd))), (t3, .inl (cI, S * Wy, .inl (tt))), (t4, .inl (cI, S * Wy, .inl (lu))), (u0, .inr (0, [.ref (u1), .ref (u2), .int (hh)])), (u1, .inl (cI, 64, .inl (hg))), (u2, .inl (cI, 64, .inl (hq))), (r0, .inr (2, [.int (nI L), .int (nI (rd)), .int (ro), .int (ru), .ref (r1)])), (r1, .inl (cI, L, .inl (rp))), (q0, .inr (1, [.int (nI (qs)), .int (nI (qf)), .int (nI L), .ref (q1), .ref (q2), .ref (q3), .ref (q4)])), (q1, .inl (cI, 16, .inl (qp))), (q2, .inl (cI, 16, .inl (qt))), (q3, .inl (cI, 16, .inl (qd))), (q4, .inl (cI, 16 * L, .inl (qr)))]) [0, 1, 2, 3, 4, 5, 6, 7, 8, 9, 15, 16, 10, 11, 12, 13, 14] (by decide) rfl
  exact kr_i (rfl) hx hb hr hlocks hP hK hD hS (rfl) dX4_ring_33

set_option maxHeartbeats 4000000 in
set_option maxRecDepth 100000 in
/-- queued -/
theorem c_X4_queued (l : Launch) (D : va_G) (cI cJ cZ : ClassId) (sz : Nat) (b0 b1 t0 t1 t2 t3 t4 u0 u1 u2 r0 r1 q0 q1 q2 q3 q4 : Nat) (S Wy sb L : Nat) (tg kd tt lu : Fn) (fl us : Int32) (hg hq : Fn) (hh : Int32) (rp : Fn) (rd : Nat) (ro ru : Int32) (qp qt qd qr : Fn) (qs qf : Nat) (an : Fn) (ck ls_ : Int32) (k0 : Nat) (p1 : Int32) (hk0 : k0 < qs) (hw0 : ¬ p1 < 0) (hw1 : p1 ≤ 1) (hSs : S = 0 ∨ S = 2 ^ sb) (hS16 : S ≤ 16) (hsb : sb ≤ 4) (hW : 0 < Wy) (hW4 : Wy ≤ 4) (hd : rd ≤ L) (hL : L < 2 ^ 10) (hf : qf < 16) (hs : qs ≤ 16) : KI l yX4_queued wsX4_queued ({ frames := 2, cells := 0, slots := 0, locals := 42 } : Room) D (kTy cI cJ cZ) [.ref (b0), .int (nI k0), .int (p1)] [(b0, .inr (4, [.ref (t0), .ref (u0), .ref (r0), .ref (q0), .ref (b1), .int (ck), .int (ls_)])), (b1, .inl (cI, 7, .inl (an))), (t0, .inr (3, [.int (nI S), .int (nI Wy), .ref (t1), .ref (t2), .ref (t3), .int (fl), .int (nI sb), .ref (t4), .int (us)])), (t1, .inl (cI, S * Wy, .inl (tg))), (t2, .inl (cI, S * Wy, .inl (kd))), (t3, .inl (cI, S * Wy, .inl (tt))), (t4, .inl (cI, S * Wy, .inl (lu))), (u0, .inr (0, [.ref (u1), .ref (u2), .int (hh)])), (u1, .inl (cI, 64, .inl (hg))), (u2, .inl (cI, 64, .inl (hq))), (r0, .inr (2, [.int (nI L), .int (nI (rd)), .int (ro), .int (ru), .ref (r1)])), (r1, .inl (cI, L, .inl (rp))), (q0, .inr (1, [.int (nI (qs)), .int (nI (qf)), .int (nI L), .ref (q1), .ref (q2), .ref (q3), .ref (q4)])), (q1, .inl (cI, 16, .inl (qp))), (q2, .inl (cI, 16, .inl (qt))), (q3, .inl (cI, 16, .inl (qd))), (q4, .inl (cI, 16 * L, .inl (qr)))] sz (wTR b0 b1 t0 t1 t2 t3 t4 u0 u1 u2 r0 r1 q0 q1 q2 q3 q4 cI S Wy sb L ((tg, kd, tt, lu, fl, us), (hg, hq, hh), (rp, rd, ro, ru), (qp, qt, qd, qr, qs, qf), an, ck, ls_)) (if p1 = 0 then qp (qf_ix (qp, qt, qd, qr, qs, qf) k0) else qt (qf_ix (qp, qt, qd, qr, qs, qf) k0)) 0 0 := by
  refine Met.ofW (cc := cX4_queued) (maxL := 3) (ret := (some .int)) (by decide) rfl ?_
  intro p e s m args below meth c s₁ B hml hv
  obtain ⟨rfl, hsz, hP, hK, hD0⟩ := hv
  have hx := B.exec
  have hb := B.bytes
  have hr := B.returns
  have hts := atoms_spec (ws := wsX4_queued) B.pre
  have hown : s.vm.findClass RX4 = some m.cls := findClass_of_methodNamed B.named
  have hlocks := B.notSynchronized
  have kf43 := hts (.fieldLink RX4 43 "TargetRows" "queue" "LTargetRows$Queue;") (List.mem_cons_of_mem _ kw_176)
  have kf58 := hts (.fieldLink RX4 58 "TargetRows$Queue" "size" "I") (List.mem_cons_of_mem _ kw_151)
  subst hsz
  have hD := hD0.self (sz := s.heap.size)
  generalize hAe : va_A [(b0, .inr (4, [.ref (t0), .ref (u0), .ref (r0), .ref (q0), .ref (b1), .int (ck), .int (ls_)])), (b1, .inl (cI, 7, .inl (an))), (t0, .inr (3, [.int (nI S), .int (nI Wy), .ref (t1), .ref (t2), .ref (t3), .int (fl), .int (nI sb), .ref (t4), .int (us)])), (t1, .inl (cI, S * Wy, .inl (tg))), (t2, .inl (cI, S * Wy, .inl (kd))), (t3, .inl (cI, S * Wy, .inl (tt))), (t4, .inl (cI, S * Wy, .inl (lu))), (u0, .inr (0, [.ref (u1), .ref (u2), .int (hh)])), (u1, .inl (cI, 64, .inl (hg))), (u2, .inl (cI, 64, .inl (hq))), (r0, .inr (2, [.int (nI L), .int (nI (rd)), .int (ro), .int (ru), .ref (r1)])), (r1, .inl (cI, L, .inl (rp))), (q0, .inr (1, [.int (nI (qs)), .int (nI (qf)), .int (nI L), .ref (q1), .ref (q2), .ref (q3), .ref (q4)])), (q1, .inl (cI, 16, .inl (qp))), (q2, .inl (cI, 16, .inl (qt))), (q3, .inl (cI, 16, .inl (qd))), (q4, .inl (cI, 16 * L, .inl (qr)))] s.heap.size = A at hD ⊢
  have hA : ∀ q : Nat, s.heap.size ≤ q → A q := fun q h => by rw [← hAe]; exact Or.inr h
  have hS : va_S A s.heap s.heap [] := va_S.rf
  have hP : va_P D vwCl [(b0, .inr (4, [.ref (t0), .ref (u0), .ref (r0), .ref (q0), .ref (b1), .int (ck), .int (ls_)])), (b1, .inl (cI, 7, .inl (an))), (t0, .inr (3, [.int (nI S), .int (nI Wy), .ref (t1), .ref (t2), .ref (t3), .int (fl), .int (nI sb), .ref (t4), .int (us)])), (t1, .inl (cI, S * Wy, .inl (tg))), (t2, .inl (cI, S * Wy, .inl (kd))), (t3, .inl (cI, S * Wy, .inl (tt))), (t4, .inl (cI, S * Wy, .inl (lu))), (u0, .inr (0, [.ref (u1), .ref (u2), .int (hh)])), (u1, .inl (cI, 64, .inl (hg))), (u2, .inl (cI, 64, .inl (hq))), (r0, .inr (2, [.int (nI L), .int (nI (rd)), .int (ro), .int (ru), .ref (r1)])), (r1, .inl (cI, L, .inl (rp))), (q0, .inr (1, [.int (nI (qs)), .int (nI (qf)), .int (nI L), .ref (q1), .ref (q2), .ref (q3), .ref (q4)])), (q1, .inl (cI, 16, .inl (qp))), (q2, .inl (cI, 16, .inl (qt))), (q3, .inl (cI, 16, .inl (qd))), (q4, .inl (cI, 16 * L, .inl (qr)))] s.heap := hP
  have hD : va_D A [(b0, .inr (4, [.ref (t0), .ref (u0), .ref (r0), .ref (q0), .ref (b1), .int (ck), .int (ls_)])), (b1, .inl (cI, 7, .inl (an))), (t0, .inr (3, [.int (nI S), .int (nI Wy), .ref (t1), .ref (t2), .ref (t3), .int (fl), .int (nI sb), .ref (t4), .int (us)])), (t1, .inl (cI, S * Wy, .inl (tg))), (t2, .inl (cI, S * Wy, .inl (kd))), (t3, .inl (cI, S * Wy, .inl (tt))), (t4, .inl (cI, S * Wy, .inl (lu))), (u0, .inr (0, [.ref (u1), .ref (u2), .int (hh)])), (u1, .inl (cI, 64, .inl (hg))), (u2, .inl (cI, 64, .inl (hq))), (r0, .inr (2, [.int (nI L), .int (nI (rd)), .int (ro), .int (ru), .ref (r1)])), (r1, .inl (cI, L, .inl (rp))), (q0, .inr (1, [.int (nI (qs)), .int (nI (qf)), .int (nI L), .ref (q1), .ref (q2), .ref (q3), .ref (q4)])), (q1, .inl (cI, 16, .inl (qp))), (q2, .inl (cI, 16, .inl (qt))), (q3, .inl (cI, 16, .inl (qd))), (q4, .inl (cI, 16 * L, .inl (qr)))] := hD
  have hl := lv_entry ([.ref (b0), .int (nI k0), .int (p1)]) (n := 3) (Nat.le_of_ble_eq_true rfl)
  rw [lg_entry_eq]
  generalize (lg_sl ([.ref (b0), .int (nI k0), .int (p1)]) ++ List.replicate (3 - (lg_sl ([.ref (b0), .int (nI k0), .int (p1)])).length) Slot.unset).toArray = ls at hl ⊢
  have hl : lv_has ls 3 [(0, .ref (b0)), (1, .int (nI k0)), (2, .int (p1))] := hl
  refine lv_iload_n hx hb dX4_queued_0 rfl (lv_at hl 1 rfl) ?_
  refine lv_if_lt (tgt := 15) hx hb dX4_queued_1 (by decide) (fun c_1 => absurd c_1 (nI_pos (by omega))) (fun c_1 => ?_)
  refine lv_iload_n hx hb dX4_queued_4 rfl (lv_at hl 1 rfl) ?_
  refine lv_aload_n hx hb dX4_queued_5 rfl (lv_at hl 0 rfl) ?_
  refine va_get (D := D) (ci := 4) (v := .ref (q0)) (C := RX4) (T := TX4) (N := 7) hx hb hts (fun w h => List.mem_cons_of_mem _ (hiX4 w h)) hown hK hP 0 rfl rfl 3 (by decide) kf43 (fun _ h9 => h9) rfl dX4_queued_6 ?_
  refine va_get (D := D) (ci := 1) (v := .int (nI (qs))) (C := RX1) (T := TX1) (N := 7) hx hb hts (fun w h => List.mem_cons_of_mem _ (hiX1 w h)) hown hK hP 12 rfl rfl 0 (by decide) kf58 (fun _ h9 => h9) rfl dX4_queued_9 ?_
  refine lv_icmp_lt (tgt := 25) hx hb dX4_queued_12 (by decide) (fun c_12 => ?_) (fun c_12 => absurd (nI_lt hk0 (by omega)) c_12)
  refine lv_iload_n hx hb dX4_queued_25 rfl (lv_at hl 2 rfl) ?_
  refine lv_if_lt (tgt := 34) hx hb dX4_queued_26 (by decide) (fun c_26 => absurd c_26 hw0) (fun c_26 => ?_)
  refine lv_iload_n hx hb dX4_queued_29 rfl (lv_at hl 2 rfl) ?_
  refine lv_iconst (v := 1) hx hb dX4_queued_30 (by decide) ?_
  refine lv_icmp_le (tgt := 44) hx hb dX4_queued_31 (by decide) (fun c_31 => ?_) (fun c_31 => absurd hw1 c_31)
  refine lv_iload_n hx hb dX4_queued_44 rfl (lv_at hl 2 rfl) ?_
  refine lv_if_ne (tgt := 59) hx hb dX4_queued_45 (by decide) (fun c_45 => ?_) (fun c_45 => ?_)
  ·
    refine lv_aload_n hx hb dX4_queued_59 rfl (lv_at hl 0 rfl) ?_
    refine va_get (D := D) (ci := 4) (v := .ref (q0)) (C := RX4) (T := TX4) (N := 7) hx hb hts (fun w h => List.mem_cons_of_mem _ (hiX4 w h)) hown hK hP 0 rfl rfl 3 (by decide) kf43 (fun _ h9 => h9) rfl dX4_queued_60 ?_
    refine lv_iload_n hx hb dX4_queued_63 rfl (lv_at hl 1 rfl) ?_
    refine kc_i (wc := [(q0, .inr (1, [.int (nI (qs)), .int (nI (qf)), .int (nI L), .ref (q1), .ref (q2), .ref (q3), .ref (q4)])), (q1, .inl (cI, 16, .inl (qp))), (q2, .inl (cI, 16, .inl (qt))), (q3, .inl (cI, 16, .inl (qd))), (q4, .inl (cI, 16 * L, .inl (qr)))]) (wr := [(b0, .inr (4, [.ref (t0), .ref (u0), .ref (r0), .ref (q0), .ref (b1), .int (ck), .int (ls_)])), (b1, .inl (cI, 7, .inl (an))), (t0, .inr (3, [.int (nI S), .int (nI Wy), .ref (t1), .ref (t2), .ref (t3), .int (fl), .int (nI sb), .ref (t4), .int (us)])), (t1, .inl (cI, S * Wy, .inl (tg))), (t2, .inl (cI, S * Wy, .inl (kd))), (t3, .inl (cI, S * Wy, .inl (tt))), (t4, .inl (cI, S * Wy, .inl (lu))), (u0, .inr (0, [.ref (u1), .ref (u2), .int (hh)])), (u1, .inl (cI, 64, .inl (hg))), (u2, .inl (cI, 64, .inl (hq))), (r0, .inr (2, [.int (nI L), .int (nI (rd)), .int (ro), .int (ru), .ref (r1)])), (r1, .inl (cI, L, .inl (rp)))]) [12, 13, 14, 15, 16] [0, 1, 2, 3, 4, 5, 6, 7, 8, 9, 10, 11] rfl rfl (by decide) (by decide) hP hD hS hA (va_runV (As := [.int (nI k0)]) (rest := []) ⟨hx, hb, hml, hown, hts⟩ (c_X1_toldAt l D cI cJ cZ _ _ _ _ _ _ _ _ _ _ _ _ _ _ (by omega) hf hL) (cwV 1 hts (kw_V kw_417 kw_418 kw_419 kw_32 kw_420) rfl rfl rfl (by decide +kernel) ⟨Nat.le_of_ble_eq_true rfl, Nat.le_of_ble_eq_true rfl⟩) ⟨kP_blind, va_recv hK (hP.sub (ws' := [(q0, .inr (1, [.int (nI (qs)), .int (nI (qf)), .int (nI L), .ref (q1), .ref (q2), .ref (q3), .ref (q4)])), (q1, .inl (cI, 16, .inl (qp))), (q2, .inl (cI, 16, .inl (qt))), (q3, .inl (cI, 16, .inl (qd))), (q4, .inl (cI, 16 * L, .inl (qr)))]) [12, 13, 14, 15, 16] rfl) (ci := 1) (q0 := 0) rfl rfl, kP_at (hP.sub [12, 13, 14, 15, 16] rfl) hK (hD.sub [12, 13, 14, 15, 16] (by decide) rfl)⟩ rfl rfl hl.1 rfl (lv_room (Nat.le_of_ble_eq_true rfl)) dX4_queued_64 ⟨Nat.zero_le _, Nat.zero_le _⟩) (fun H locs hP hD hS => ?_)
    have hP := hP.sub (ws' := [(b0, .inr (4, [.ref (t0), .ref (u0), .ref (r0), .ref (q0), .ref (b1), .int (ck), .int (ls_)])), (b1, .inl (cI, 7, .inl (an))), (t0, .inr (3, [.int (nI S), .int (nI Wy), .ref (t1), .ref (t2), .ref (t3), .int (fl), .int (nI sb), .ref (t4), .int (us)])), (t1, .inl (cI, S * Wy, .inl (tg))), (t2, .inl (cI, S * Wy, .inl (kd))), (t3, .inl (cI, S * Wy, .inl (tt))), (t4, .inl (cI, S * Wy, .inl (lu))), (u0, .inr (0, [.ref (u1), .ref (u2), .int (hh)])), (u1, .inl (cI, 64, .inl (hg))), (u2, .inl (cI, 64, .inl (hq))), (r0, .inr (2, [.int (nI L), .int (nI (rd)), .int (ro), .int (ru), .ref (r1)])), (r1, .inl (cI, L, .inl (rp))), (q0, .inr (1, [.int (nI (qs)), .int (nI (qf)), .int (nI L), .ref (q1), .ref (q2), .ref (q3), .ref (q4)])), (q1, .inl (cI, 16, .inl (qp))), (q2, .inl (cI, 16, .inl (qt))), (q3, .inl (cI, 16, .inl (qd))), (q4, .inl (cI, 16 * L, .inl (qr)))]) [0, 1, 2, 3, 4, 5, 6, 7, 8, 9, 10, 11, 12, 13, 14, 15, 16] rfl
    have hD := hD.sub (ws' := [(b0, .inr (4, [.ref (t0), .ref (u0), .ref (r0), .ref (q0), .ref (b1), .int (ck), .int (ls_)])), (b1, .inl (cI, 7, .inl (an))), (t0, .inr (3, [.int (nI S), .int (nI Wy), .ref (t1), .ref (t2), .ref (t3), .int (fl), .int (nI sb), .ref (t4), .int (us)])), (t1, .inl (cI, S * Wy, .inl (tg))), (t2, .inl (cI, S * Wy, .inl (kd))), (t3, .inl (cI, S * Wy, .inl (tt))), (t4, .inl (cI, S * Wy, .inl (lu))), (u0, .inr (0, [.ref (u1), .ref (u2), .int (hh)])), (u1, .inl (cI, 64, .inl (hg))), (u2, .inl (cI, 64, .inl (hq))), (r0, .inr (2, [.int (nI L), .int (nI (rd)), .int (ro), .int (ru), .ref (r1)])), (r1, .inl (cI, L, .inl (rp))), (q0, .inr (1, [.int (nI (qs)), .int (nI (qf)), .int (nI L), .ref (q1), .ref (q2), .ref (q3), .ref (q4)])), (q1, .inl (cI, 16, .inl (qp))), (q2, .inl (cI, 16, .inl (qt))), (q3, .inl (cI, 16, .inl (qd))), (q4, .inl (cI, 16 * L, .inl (qr)))]) [0, 1, 2, 3, 4, 5, 6, 7, 8, 9, 10, 11, 12, 13, 14, 15, 16] (by decide) rfl
    exact kr_i (rfl) hx hb hr hlocks hP hK hD hS ((if_neg c_45).symm) dX4_queued_67
  ·
    refine lv_aload_n hx hb dX4_queued_48 rfl (lv_at hl 0 rfl) ?_
    refine va_get (D := D) (ci := 4) (v := .ref (q0)) (C := RX4) (T := TX4) (N := 7) hx hb hts (fun w h => List.mem_cons_of_mem _ (hiX4 w h)) hown hK hP 0 rfl rfl 3 (by decide) kf43 (fun _ h9 => h9) rfl dX4_queued_49 ?_
    refine lv_iload_n hx hb dX4_queued_52 rfl (lv_at hl 1 rfl) ?_
    refine kc_i (wc := [(q0, .inr (1, [.int (nI (qs)), .int (nI (qf)), .int (nI L), .ref (q1), .ref (q2), .ref (q3), .ref (q4)])), (q1, .inl (cI, 16, .inl (qp))), (q2, .inl (cI, 16, .inl (qt))), (q3, .inl (cI, 16, .inl (qd))), (q4, .inl (cI, 16 * L, .inl (qr)))]) (wr := [(b0, .inr (4, [.ref (t0), .ref (u0), .ref (r0), .ref (q0), .ref (b1), .int (ck), .int (ls_)])), (b1, .inl (cI, 7, .inl (an))), (t0, .inr (3, [.int (nI S), .int (nI Wy), .ref (t1), .ref (t2), .ref (t3), .int (fl), .int (nI sb), .ref (t4), .int (us)])), (t1, .inl (cI, S * Wy, .inl (tg))), (t2, .inl (cI, S * Wy, .inl (kd))), (t3, .inl (cI, S * Wy, .inl (tt))), (t4, .inl (cI, S * Wy, .inl (lu))), (u0, .inr (0, [.ref (u1), .ref (u2), .int (hh)])), (u1, .inl (cI, 64, .inl (hg))), (u2, .inl (cI, 64, .inl (hq))), (r0, .inr (2, [.int (nI L), .int (nI (rd)), .int (ro), .int (ru), .ref (r1)])), (r1, .inl (cI, L, .inl (rp)))]) [12, 13, 14, 15, 16] [0, 1, 2, 3, 4, 5, 6, 7, 8, 9, 10, 11] rfl rfl (by decide) (by decide) hP hD hS hA (va_runV (As := [.int (nI k0)]) (rest := []) ⟨hx, hb, hml, hown, hts⟩ (c_X1_placeAt l D cI cJ cZ _ _ _ _ _ _ _ _ _ _ _ _ _ _ (by omega) hf hL) (cwV 1 hts (kw_V kw_413 kw_414 kw_415 kw_32 kw_416) rfl rfl rfl (by decide +kernel) ⟨Nat.le_of_ble_eq_true rfl, Nat.le_of_ble_eq_true rfl⟩) ⟨kP_blind, va_recv hK (hP.sub (ws' := [(q0, .inr (1, [.int (nI (qs)), .int (nI (qf)), .int (nI L), .ref (q1), .ref (q2), .ref (q3), .ref (q4)])), (q1, .inl (cI, 16, .inl (qp))), (q2, .inl (cI, 16, .inl (qt))), (q3, .inl (cI, 16, .inl (qd))), (q4, .inl (cI, 16 * L, .inl (qr)))]) [12, 13, 14, 15, 16] rfl) (ci := 1) (q0 := 0) rfl rfl, kP_at (hP.sub [12, 13, 14, 15, 16] rfl) hK (hD.sub [12, 13, 14, 15, 16] (by decide) rfl)⟩ rfl rfl hl.1 rfl (lv_room (Nat.le_of_ble_eq_true rfl)) dX4_queued_53 ⟨Nat.zero_le _, Nat.zero_le _⟩) (fun H locs hP hD hS => ?_)
    have hP := hP.sub (ws' := [(b0, .inr (4, [.ref (t0), .ref (u0), .ref (r0), .ref (q0), .ref (b1), .int (ck), .int (ls_)])), (b1, .inl (cI, 7, .inl (an))), (t0, .inr (3, [.int (nI S), .int (nI Wy), .ref (t1), .ref (t2), .ref (t3), .int (fl), .int (nI sb), .ref (t4), .int (us)])), (t1, .inl (cI, S * Wy, .inl (tg))), (t2, .inl (cI, S * Wy, .inl (kd))), (t3, .inl (cI, S * Wy, .inl (tt))), (t4, .inl (cI, S * Wy, .inl (lu))), (u0, .inr (0, [.ref (u1), .ref (u2), .int (hh)])), (u1, .inl (cI, 64, .inl (hg))), (u2, .inl (cI, 64, .inl (hq))), (r0, .inr (2, [.int (nI L), .int (nI (rd)), .int (ro), .int (ru), .ref (r1)])), (r1, .inl (cI, L, .inl (rp))), (q0, .inr (1, [.int (nI (qs)), .int (nI (qf)), .int (nI L), .ref (q1), .ref (q2), .ref (q3), .ref (q4)])), (q1, .inl (cI, 16, .inl (qp))), (q2, .inl (cI, 16, .inl (qt))), (q3, .inl (cI, 16, .inl (qd))), (q4, .inl (cI, 16 * L, .inl (qr)))]) [0, 1, 2, 3, 4, 5, 6, 7, 8, 9, 10, 11, 12, 13, 14, 15, 16] rfl
    have hD := hD.sub (ws' := [(b0, .inr (4, [.ref (t0), .ref (u0), .ref (r0), .ref (q0), .ref (b1), .int (ck), .int (ls_)])), (b1, .inl (cI, 7, .inl (an))), (t0, .inr (3, [.int (nI S), .int (nI Wy), .ref (t1), .ref (t2), .ref (t3), .int (fl), .int (nI sb), .ref (t4), .int (us)])), (t1, .inl (cI, S * Wy, .inl (tg))), (t2, .inl (cI, S * Wy, .inl (kd))), (t3, .inl (cI, S * Wy, .inl (tt))), (t4, .inl (cI, S * Wy, .inl (lu))), (u0, .inr (0, [.ref (u1), .ref (u2), .int (hh)])), (u1, .inl (cI, 64, .inl (hg))), (u2, .inl (cI, 64, .inl (hq))), (r0, .inr (2, [.int (nI L), .int (nI (rd)), .int (ro), .int (ru), .ref (r1)])), (r1, .inl (cI, L, .inl (rp))), (q0, .inr (1, [.int (nI (qs)), .int (nI (qf)), .int (nI L), .ref (q1), .ref (q2), .ref (q3), .ref (q4)])), (q1, .inl (cI, 16, .inl (qp))), (q2, .inl (cI, 16, .inl (qt))), (q3, .inl (cI, 16, .inl (qd))), (q4, .inl (cI, 16 * L, .inl (qr)))]) [0, 1, 2, 3, 4, 5, 6, 7, 8, 9, 10, 11, 12, 13, 14, 15, 16] (by decide) rfl
    refine lv_goto (tgt := 67) hx hb dX4_queued_56 (by decide) ?_
    exact kr_i (rfl) hx hb hr hlocks hP hK hD hS ((if_pos c_45).symm) dX4_queued_67

set_option maxHeartbeats 4000000 in
set_option maxRecDepth 100000 in
/-- count -/
theorem c_X4_count (l : Launch) (D : va_G) (cI cJ cZ : ClassId) (sz : Nat) (b0 b1 t0 t1 t2 t3 t4 u0 u1 u2 r0 r1 q0 q1 q2 q3 q4 : Nat) (S Wy sb L : Nat) (tg kd tt lu : Fn) (fl us : Int32) (hg hq : Fn) (hh : Int32) (rp : Fn) (rd : Nat) (ro ru : Int32) (qp qt qd qr : Fn) (qs qf : Nat) (an : Fn) (ck ls_ : Int32) (p0 : Int32) : KI l yX4_count wsX4_count ({ frames := 0, cells := 0, slots := 0, locals := 0 } : Room) D (kTy cI cJ cZ) [.ref (b0), .int (p0)] [(b0, .inr (4, [.ref (t0), .ref (u0), .ref (r0), .ref (q0), .ref (b1), .int (ck), .int (ls_)])), (b1, .inl (cI, 7, .inl (an))), (t0, .inr (3, [.int (nI S), .int (nI Wy), .ref (t1), .ref (t2), .ref (t3), .int (fl), .int (nI sb), .ref (t4), .int (us)])), (t1, .inl (cI, S * Wy, .inl (tg))), (t2, .inl (cI, S * Wy, .inl (kd))), (t3, .inl (cI, S * Wy, .inl (tt))), (t4, .inl (cI, S * Wy, .inl (lu))), (u0, .inr (0, [.ref (u1), .ref (u2), .int (hh)])), (u1, .inl (cI, 64, .inl (hg))), (u2, .inl (cI, 64, .inl (hq))), (r0, .inr (2, [.int (nI L), .int (nI (rd)), .int (ro), .int (ru), .ref (r1)])), (r1, .inl (cI, L, .inl (rp))), (q0, .inr (1, [.int (nI (qs)), .int (nI (qf)), .int (nI L), .ref (q1), .ref (q2), .ref (q3), .ref (q4)])), (q1, .inl (cI, 16, .inl (qp))), (q2, .inl (cI, 16, .inl (qt))), (q3, .inl (cI, 16, .inl (qd))), (q4, .inl (cI, 16 * L, .inl (qr)))] sz (wTR b0 b1 t0 t1 t2 t3 t4 u0 u1 u2 r0 r1 q0 q1 q2 q3 q4 cI S Wy sb L ((tg, kd, tt, lu, fl, us), (hg, hq, hh), (rp, rd, ro, ru), (qp, qt, qd, qr, qs, qf), an, ck, ls_)) (cf_count S Wy L ((tg, kd, tt, lu, fl, us), (hg, hq, hh), (rp, rd, ro, ru), (qp, qt, qd, qr, qs, qf), an, ck, ls_) p0) 0 0 := by
  refine Met.ofW (cc := cX4_count) (maxL := 2) (ret := (some .int)) (by decide) rfl ?_
  intro p e s m args below meth c s₁ B hml hv
  obtain ⟨rfl, hsz, hP, hK, hD0⟩ := hv
  have hx := B.exec
  have hb := B.bytes
  have hr := B.returns
  have hts := atoms_spec (ws := wsX4_count) B.pre
  have hown : s.vm.findClass RX4 = some m.cls := findClass_of_methodNamed B.named
  have hlocks := B.notSynchronized
  have kf113 := hts (.fieldLink RX4 113 "TargetRows" "checked" "I") (List.mem_cons_of_mem _ kw_178)
  have kf123 := hts (.fieldLink RX4 123 "TargetRows" "lost" "I") (List.mem_cons_of_mem _ kw_179)
  have kf126 := hts (.fieldLink RX4 126 "TargetRows$Table" "sets" "I") (List.mem_cons_of_mem _ kw_63)
  have kf129 := hts (.fieldLink RX4 129 "TargetRows$Table" "ways" "I") (List.mem_cons_of_mem _ kw_65)
  have kf149 := hts (.fieldLink RX4 149 "TargetRows$Returns" "depth" "I") (List.mem_cons_of_mem _ kw_127)
  have kf159 := hts (.fieldLink RX4 159 "TargetRows$Returns" "limit" "I") (List.mem_cons_of_mem _ kw_124)
  have kf162 := hts (.fieldLink RX4 162 "TargetRows$Returns" "overflows" "I") (List.mem_cons_of_mem _ kw_129)
  have kf165 := hts (.fieldLink RX4 165 "TargetRows$Returns" "underflows" "I") (List.mem_cons_of_mem _ kw_131)
  have kf168 := hts (.fieldLink RX4 168 "TargetRows$Table" "filled" "I") (List.mem_cons_of_mem _ kw_73)
  have kf171 := hts (.fieldLink RX4 171 "TargetRows$HistoryRows" "history" "I") (List.mem_cons_of_mem _ kw_109)
  have kf18 := hts (.fieldLink RX4 18 "TargetRows" "table" "LTargetRows$Table;") (List.mem_cons_of_mem _ kw_173)
  have kf27 := hts (.fieldLink RX4 27 "TargetRows" "rows" "LTargetRows$HistoryRows;") (List.mem_cons_of_mem _ kw_174)
  have kf36 := hts (.fieldLink RX4 36 "TargetRows" "stack" "LTargetRows$Returns;") (List.mem_cons_of_mem _ kw_175)
  have kf43 := hts (.fieldLink RX4 43 "TargetRows" "queue" "LTargetRows$Queue;") (List.mem_cons_of_mem _ kw_176)
  have kf47 := hts (.fieldLink RX4 47 "TargetRows" "answers" "[I") (List.mem_cons_of_mem _ kw_177)
  have kf58 := hts (.fieldLink RX4 58 "TargetRows$Queue" "size" "I") (List.mem_cons_of_mem _ kw_151)
  subst hsz
  have hD := hD0.self (sz := s.heap.size)
  generalize hAe : va_A [(b0, .inr (4, [.ref (t0), .ref (u0), .ref (r0), .ref (q0), .ref (b1), .int (ck), .int (ls_)])), (b1, .inl (cI, 7, .inl (an))), (t0, .inr (3, [.int (nI S), .int (nI Wy), .ref (t1), .ref (t2), .ref (t3), .int (fl), .int (nI sb), .ref (t4), .int (us)])), (t1, .inl (cI, S * Wy, .inl (tg))), (t2, .inl (cI, S * Wy, .inl (kd))), (t3, .inl (cI, S * Wy, .inl (tt))), (t4, .inl (cI, S * Wy, .inl (lu))), (u0, .inr (0, [.ref (u1), .ref (u2), .int (hh)])), (u1, .inl (cI, 64, .inl (hg))), (u2, .inl (cI, 64, .inl (hq))), (r0, .inr (2, [.int (nI L), .int (nI (rd)), .int (ro), .int (ru), .ref (r1)])), (r1, .inl (cI, L, .inl (rp))), (q0, .inr (1, [.int (nI (qs)), .int (nI (qf)), .int (nI L), .ref (q1), .ref (q2), .ref (q3), .ref (q4)])), (q1, .inl (cI, 16, .inl (qp))), (q2, .inl (cI, 16, .inl (qt))), (q3, .inl (cI, 16, .inl (qd))), (q4, .inl (cI, 16 * L, .inl (qr)))] s.heap.size = A at hD ⊢
  have hA : ∀ q : Nat, s.heap.size ≤ q → A q := fun q h => by rw [← hAe]; exact Or.inr h
  have hS : va_S A s.heap s.heap [] := va_S.rf
  have hP : va_P D vwCl [(b0, .inr (4, [.ref (t0), .ref (u0), .ref (r0), .ref (q0), .ref (b1), .int (ck), .int (ls_)])), (b1, .inl (cI, 7, .inl (an))), (t0, .inr (3, [.int (nI S), .int (nI Wy), .ref (t1), .ref (t2), .ref (t3), .int (fl), .int (nI sb), .ref (t4), .int (us)])), (t1, .inl (cI, S * Wy, .inl (tg))), (t2, .inl (cI, S * Wy, .inl (kd))), (t3, .inl (cI, S * Wy, .inl (tt))), (t4, .inl (cI, S * Wy, .inl (lu))), (u0, .inr (0, [.ref (u1), .ref (u2), .int (hh)])), (u1, .inl (cI, 64, .inl (hg))), (u2, .inl (cI, 64, .inl (hq))), (r0, .inr (2, [.int (nI L), .int (nI (rd)), .int (ro), .int (ru), .ref (r1)])), (r1, .inl (cI, L, .inl (rp))), (q0, .inr (1, [.int (nI (qs)), .int (nI (qf)), .int (nI L), .ref (q1), .ref (q2), .ref (q3), .ref (q4)])), (q1, .inl (cI, 16, .inl (qp))), (q2, .inl (cI, 16, .inl (qt))), (q3, .inl (cI, 16, .inl (qd))), (q4, .inl (cI, 16 * L, .inl (qr)))] s.heap := hP
  have hD : va_D A [(b0, .inr (4, [.ref (t0), .ref (u0), .ref (r0), .ref (q0), .ref (b1), .int (ck), .int (ls_)])), (b1, .inl (cI, 7, .inl (an))), (t0, .inr (3, [.int (nI S), .int (nI Wy), .ref (t1), .ref (t2), .ref (t3), .int (fl), .int (nI sb), .ref (t4), .int (us)])), (t1, .inl (cI, S * Wy, .inl (tg))), (t2, .inl (cI, S * Wy, .inl (kd))), (t3, .inl (cI, S * Wy, .inl (tt))), (t4, .inl (cI, S * Wy, .inl (lu))), (u0, .inr (0, [.ref (u1), .ref (u2), .int (hh)])), (u1, .inl (cI, 64, .inl (hg))), (u2, .inl (cI, 64, .inl (hq))), (r0, .inr (2, [.int (nI L), .int (nI (rd)), .int (ro), .int (ru), .ref (r1)])), (r1, .inl (cI, L, .inl (rp))), (q0, .inr (1, [.int (nI (qs)), .int (nI (qf)), .int (nI L), .ref (q1), .ref (q2), .ref (q3), .ref (q4)])), (q1, .inl (cI, 16, .inl (qp))), (q2, .inl (cI, 16, .inl (qt))), (q3, .inl (cI, 16, .inl (qd))), (q4, .inl (cI, 16 * L, .inl (qr)))] := hD
  have hl := lv_entry ([.ref (b0), .int (p0)]) (n := 2) (Nat.le_of_ble_eq_true rfl)
  rw [lg_entry_eq]
  generalize (lg_sl ([.ref (b0), .int (p0)]) ++ List.replicate (2 - (lg_sl ([.ref (b0), .int (p0)])).length) Slot.unset).toArray = ls at hl ⊢
  have hl : lv_has ls 2 [(0, .ref (b0)), (1, .int (p0))] := hl
  refine lv_iload_n hx hb dX4_count_0 rfl (lv_at hl 1 rfl) ?_
  refine lv_iconst (v := 1) hx hb dX4_count_1 (by decide) ?_
  refine lv_icmp_lt (tgt := 23) hx hb dX4_count_2 (by decide) (fun c_2 => ?_) (fun c_2 => ?_)
  ·
    refine lv_iload_n hx hb dX4_count_23 rfl (lv_at hl 1 rfl) ?_
    have hnc : ¬ (1 ≤ p0 ∧ p0 ≤ 7) := fun q => absurd q.1 (Int32.not_le.mpr c_2)
    by_cases e0 : p0 = 0
    · subst e0
      refine lv_tableIn (off := 88) (tgt := 112) hx hb dX4_count_24 (by decide) (by decide) (by decide) (by decide) ?_
      refine lv_aload_n hx hb dX4_count_112 rfl (lv_at hl 0 rfl) ?_
      refine va_get (D := D) (ci := 4) (v := .int (ck)) (C := RX4) (T := TX4) (N := 7) hx hb hts (fun w h => List.mem_cons_of_mem _ (hiX4 w h)) hown hK hP 0 rfl rfl 5 (by decide) kf113 (fun _ h9 => h9) rfl dX4_count_113 ?_
      exact kr_i (rfl) hx hb hr hlocks hP hK hD hS (by simp only [cf_count]; rfl) dX4_count_116
    by_cases e8 : p0 = 8
    · subst e8
      refine lv_tableIn (off := 93) (tgt := 117) hx hb dX4_count_24 (by decide) (by decide) (by decide) (by decide) ?_
      refine lv_aload_n hx hb dX4_count_117 rfl (lv_at hl 0 rfl) ?_
      refine va_get (D := D) (ci := 4) (v := .ref (r0)) (C := RX4) (T := TX4) (N := 7) hx hb hts (fun w h => List.mem_cons_of_mem _ (hiX4 w h)) hown hK hP 0 rfl rfl 2 (by decide) kf36 (fun _ h9 => h9) rfl dX4_count_118 ?_
      refine va_get (D := D) (ci := 2) (v := .int (ro)) (C := RX2) (T := TX2) (N := 5) hx hb hts (fun w h => List.mem_cons_of_mem _ (hiX2 w h)) hown hK hP 10 rfl rfl 2 (by decide) kf162 (fun _ h9 => h9) rfl dX4_count_121 ?_
      exact kr_i (rfl) hx hb hr hlocks hP hK hD hS (by simp only [cf_count]; rfl) dX4_count_124
    by_cases e9 : p0 = 9
    · subst e9
      refine lv_tableIn (off := 101) (tgt := 125) hx hb dX4_count_24 (by decide) (by decide) (by decide) (by decide) ?_
      refine lv_aload_n hx hb dX4_count_125 rfl (lv_at hl 0 rfl) ?_
      refine va_get (D := D) (ci := 4) (v := .ref (r0)) (C := RX4) (T := TX4) (N := 7) hx hb hts (fun w h => List.mem_cons_of_mem _ (hiX4 w h)) hown hK hP 0 rfl rfl 2 (by decide) kf36 (fun _ h9 => h9) rfl dX4_count_126 ?_
      refine va_get (D := D) (ci := 2) (v := .int (ru)) (C := RX2) (T := TX2) (N := 5) hx hb hts (fun w h => List.mem_cons_of_mem _ (hiX2 w h)) hown hK hP 10 rfl rfl 3 (by decide) kf165 (fun _ h9 => h9) rfl dX4_count_129 ?_
      exact kr_i (rfl) hx hb hr hlocks hP hK hD hS (by simp only [cf_count]; rfl) dX4_count_132
    by_cases e10 : p0 = 10
    · subst e10
      refine lv_tableIn (off := 109) (tgt := 133) hx hb dX4_count_24 (by decide) (by decide) (by decide) (by decide) ?_
      refine lv_aload_n hx hb dX4_count_133 rfl (lv_at hl 0 rfl) ?_
      refine va_get (D := D) (ci := 4) (v := .ref (q0)) (C := RX4) (T := TX4) (N := 7) hx hb hts (fun w h => List.mem_cons_of_mem _ (hiX4 w h)) hown hK hP 0 rfl rfl 3 (by decide) kf43 (fun _ h9 => h9) rfl dX4_count_134 ?_
      refine va_get (D := D) (ci := 1) (v := .int (nI (qs))) (C := RX1) (T := TX1) (N := 7) hx hb hts (fun w h => List.mem_cons_of_mem _ (hiX1 w h)) hown hK hP 12 rfl rfl 0 (by decide) kf58 (fun _ h9 => h9) rfl dX4_count_137 ?_
      exact kr_i (rfl) hx hb hr hlocks hP hK hD hS (by simp only [cf_count]; rfl) dX4_count_140
    by_cases e11 : p0 = 11
    · subst e11
      refine lv_tableIn (off := 117) (tgt := 141) hx hb dX4_count_24 (by decide) (by decide) (by decide) (by decide) ?_
      refine lv_aload_n hx hb dX4_count_141 rfl (lv_at hl 0 rfl) ?_
      refine va_get (D := D) (ci := 4) (v := .ref (r0)) (C := RX4) (T := TX4) (N := 7) hx hb hts (fun w h => List.mem_cons_of_mem _ (hiX4 w h)) hown hK hP 0 rfl rfl 2 (by decide) kf36 (fun _ h9 => h9) rfl dX4_count_142 ?_
      refine va_get (D := D) (ci := 2) (v := .int (nI (rd))) (C := RX2) (T := TX2) (N := 5) hx hb hts (fun w h => List.mem_cons_of_mem _ (hiX2 w h)) hown hK hP 10 rfl rfl 1 (by decide) kf149 (fun _ h9 => h9) rfl dX4_count_145 ?_
      exact kr_i (rfl) hx hb hr hlocks hP hK hD hS (by simp only [cf_count]; rfl) dX4_count_148
    by_cases e12 : p0 = 12
    · subst e12
      refine lv_tableIn (off := 125) (tgt := 149) hx hb dX4_count_24 (by decide) (by decide) (by decide) (by decide) ?_
      refine lv_aload_n hx hb dX4_count_149 rfl (lv_at hl 0 rfl) ?_
      refine va_get (D := D) (ci := 4) (v := .ref (t0)) (C := RX4) (T := TX4) (N := 7) hx hb hts (fun w h => List.mem_cons_of_mem _ (hiX4 w h)) hown hK hP 0 rfl rfl 0 (by decide) kf18 (fun _ h9 => h9) rfl dX4_count_150 ?_
      refine va_get (D := D) (ci := 3) (v := .int (fl)) (C := RX3) (T := TX3) (N := 9) hx hb hts (fun w h => List.mem_cons_of_mem _ (hiX3 w h)) hown hK hP 2 rfl rfl 5 (by decide) kf168 (fun _ h9 => h9) rfl dX4_count_153 ?_
      exact kr_i (rfl) hx hb hr hlocks hP hK hD hS (by simp only [cf_count]; rfl) dX4_count_156
    by_cases e13 : p0 = 13
    · subst e13
      refine lv_tableIn (off := 133) (tgt := 157) hx hb dX4_count_24 (by decide) (by decide) (by decide) (by decide) ?_
      refine lv_aload_n hx hb dX4_count_157 rfl (lv_at hl 0 rfl) ?_
      refine va_get (D := D) (ci := 4) (v := .ref (u0)) (C := RX4) (T := TX4) (N := 7) hx hb hts (fun w h => List.mem_cons_of_mem _ (hiX4 w h)) hown hK hP 0 rfl rfl 1 (by decide) kf27 (fun _ h9 => h9) rfl dX4_count_158 ?_
      refine va_get (D := D) (ci := 0) (v := .int (hh)) (C := RX0) (T := TX0) (N := 3) hx hb hts (fun w h => List.mem_cons_of_mem _ (hiX0 w h)) hown hK hP 7 rfl rfl 2 (by decide) kf171 (fun _ h9 => h9) rfl dX4_count_161 ?_
      exact kr_i (rfl) hx hb hr hlocks hP hK hD hS (by simp only [cf_count]; rfl) dX4_count_164
    by_cases e14 : p0 = 14
    · subst e14
      refine lv_tableIn (off := 141) (tgt := 165) hx hb dX4_count_24 (by decide) (by decide) (by decide) (by decide) ?_
      refine lv_aload_n hx hb dX4_count_165 rfl (lv_at hl 0 rfl) ?_
      refine va_get (D := D) (ci := 4) (v := .int (ls_)) (C := RX4) (T := TX4) (N := 7) hx hb hts (fun w h => List.mem_cons_of_mem _ (hiX4 w h)) hown hK hP 0 rfl rfl 6 (by decide) kf123 (fun _ h9 => h9) rfl dX4_count_166 ?_
      exact kr_i (rfl) hx hb hr hlocks hP hK hD hS (by simp only [cf_count]; rfl) dX4_count_169
    by_cases e15 : p0 = 15
    · subst e15
      refine lv_tableIn (off := 146) (tgt := 170) hx hb dX4_count_24 (by decide) (by decide) (by decide) (by decide) ?_
      refine lv_aload_n hx hb dX4_count_170 rfl (lv_at hl 0 rfl) ?_
      refine va_get (D := D) (ci := 4) (v := .ref (t0)) (C := RX4) (T := TX4) (N := 7) hx hb hts (fun w h => List.mem_cons_of_mem _ (hiX4 w h)) hown hK hP 0 rfl rfl 0 (by decide) kf18 (fun _ h9 => h9) rfl dX4_count_171 ?_
      refine va_get (D := D) (ci := 3) (v := .int (nI S)) (C := RX3) (T := TX3) (N := 9) hx hb hts (fun w h => List.mem_cons_of_mem _ (hiX3 w h)) hown hK hP 2 rfl rfl 0 (by decide) kf126 (fun _ h9 => h9) rfl dX4_count_174 ?_
      exact kr_i (rfl) hx hb hr hlocks hP hK hD hS (by simp only [cf_count]; rfl) dX4_count_177
    by_cases e16 : p0 = 16
    · subst e16
      refine lv_tableIn (off := 154) (tgt := 178) hx hb dX4_count_24 (by decide) (by decide) (by decide) (by decide) ?_
      refine lv_aload_n hx hb dX4_count_178 rfl (lv_at hl 0 rfl) ?_
      refine va_get (D := D) (ci := 4) (v := .ref (t0)) (C := RX4) (T := TX4) (N := 7) hx hb hts (fun w h => List.mem_cons_of_mem _ (hiX4 w h)) hown hK hP 0 rfl rfl 0 (by decide) kf18 (fun _ h9 => h9) rfl dX4_count_179 ?_
      refine va_get (D := D) (ci := 3) (v := .int (nI Wy)) (C := RX3) (T := TX3) (N := 9) hx hb hts (fun w h => List.mem_cons_of_mem _ (hiX3 w h)) hown hK hP 2 rfl rfl 1 (by decide) kf129 (fun _ h9 => h9) rfl dX4_count_182 ?_
      exact kr_i (rfl) hx hb hr hlocks hP hK hD hS (by simp only [cf_count]; rfl) dX4_count_185
    by_cases e17 : p0 = 17
    · subst e17
      refine lv_tableIn (off := 162) (tgt := 186) hx hb dX4_count_24 (by decide) (by decide) (by decide) (by decide) ?_
      refine lv_aload_n hx hb dX4_count_186 rfl (lv_at hl 0 rfl) ?_
      refine va_get (D := D) (ci := 4) (v := .ref (r0)) (C := RX4) (T := TX4) (N := 7) hx hb hts (fun w h => List.mem_cons_of_mem _ (hiX4 w h)) hown hK hP 0 rfl rfl 2 (by decide) kf36 (fun _ h9 => h9) rfl dX4_count_187 ?_
      refine va_get (D := D) (ci := 2) (v := .int (nI L)) (C := RX2) (T := TX2) (N := 5) hx hb hts (fun w h => List.mem_cons_of_mem _ (hiX2 w h)) hown hK hP 10 rfl rfl 0 (by decide) kf159 (fun _ h9 => h9) rfl dX4_count_190 ?_
      exact kr_i (rfl) hx hb hr hlocks hP hK hD hS (by simp only [cf_count]; rfl) dX4_count_193
    refine lv_tableOut (tgt := 194) hx hb dX4_count_24 (ct_out hnc e0 e8 e9 e10 e11 e12 e13 e14 e15 e16 e17) (by decide) ?_
    refine lv_iconst (v := (-1)) hx hb dX4_count_194 (by decide) ?_
    exact kr_i (rfl) hx hb hr hlocks hP hK hD hS (by simp only [cf_count, if_neg hnc, if_neg e0, if_neg e8, if_neg e9, if_neg e10, if_neg e11, if_neg e12, if_neg e13, if_neg e14, if_neg e15, if_neg e16, if_neg e17]) dX4_count_195
  ·
    refine lv_iload_n hx hb dX4_count_5 rfl (lv_at hl 1 rfl) ?_
    refine lv_aload_n hx hb dX4_count_6 rfl (lv_at hl 0 rfl) ?_
    refine va_get (D := D) (ci := 4) (v := .ref (b1)) (C := RX4) (T := TX4) (N := 7) hx hb hts (fun w h => List.mem_cons_of_mem _ (hiX4 w h)) hown hK hP 0 rfl rfl 4 (by decide) kf47 (fun _ h9 => h9) rfl dX4_count_7 ?_
    refine va_alen (v := nI (7)) hx hb hK hP 1 0 rfl rfl rfl dX4_count_10 ?_
    refine lv_icmp_gt (tgt := 23) hx hb dX4_count_11 (by decide) (fun c_11 => ?_) (fun c_11 => ?_)
    ·
      refine lv_iload_n hx hb dX4_count_23 rfl (lv_at hl 1 rfl) ?_
      have hnc : ¬ (1 ≤ p0 ∧ p0 ≤ 7) := fun q => absurd q.2 (Int32.not_le.mpr c_11)
      by_cases e0 : p0 = 0
      · subst e0
        refine lv_tableIn (off := 88) (tgt := 112) hx hb dX4_count_24 (by decide) (by decide) (by decide) (by decide) ?_
        refine lv_aload_n hx hb dX4_count_112 rfl (lv_at hl 0 rfl) ?_
        refine va_get (D := D) (ci := 4) (v := .int (ck)) (C := RX4) (T := TX4) (N := 7) hx hb hts (fun w h => List.mem_cons_of_mem _ (hiX4 w h)) hown hK hP 0 rfl rfl 5 (by decide) kf113 (fun _ h9 => h9) rfl dX4_count_113 ?_
        exact kr_i (rfl) hx hb hr hlocks hP hK hD hS (by simp only [cf_count]; rfl) dX4_count_116
      by_cases e8 : p0 = 8
      · subst e8
        refine lv_tableIn (off := 93) (tgt := 117) hx hb dX4_count_24 (by decide) (by decide) (by decide) (by decide) ?_
        refine lv_aload_n hx hb dX4_count_117 rfl (lv_at hl 0 rfl) ?_
        refine va_get (D := D) (ci := 4) (v := .ref (r0)) (C := RX4) (T := TX4) (N := 7) hx hb hts (fun w h => List.mem_cons_of_mem _ (hiX4 w h)) hown hK hP 0 rfl rfl 2 (by decide) kf36 (fun _ h9 => h9) rfl dX4_count_118 ?_
        refine va_get (D := D) (ci := 2) (v := .int (ro)) (C := RX2) (T := TX2) (N := 5) hx hb hts (fun w h => List.mem_cons_of_mem _ (hiX2 w h)) hown hK hP 10 rfl rfl 2 (by decide) kf162 (fun _ h9 => h9) rfl dX4_count_121 ?_
        exact kr_i (rfl) hx hb hr hlocks hP hK hD hS (by simp only [cf_count]; rfl) dX4_count_124
      by_cases e9 : p0 = 9
      · subst e9
        refine lv_tableIn (off := 101) (tgt := 125) hx hb dX4_count_24 (by decide) (by decide) (by decide) (by decide) ?_
        refine lv_aload_n hx hb dX4_count_125 rfl (lv_at hl 0 rfl) ?_
        refine va_get (D := D) (ci := 4) (v := .ref (r0)) (C := RX4) (T := TX4) (N := 7) hx hb hts (fun w h => List.mem_cons_of_mem _ (hiX4 w h)) hown hK hP 0 rfl rfl 2 (by decide) kf36 (fun _ h9 => h9) rfl dX4_count_126 ?_
        refine va_get (D := D) (ci := 2) (v := .int (ru)) (C := RX2) (T := TX2) (N := 5) hx hb hts (fun w h => List.mem_cons_of_mem _ (hiX2 w h)) hown hK hP 10 rfl rfl 3 (by decide) kf165 (fun _ h9 => h9) rfl dX4_count_129 ?_
        exact kr_i (rfl) hx hb hr hlocks hP hK hD hS (by simp only [cf_count]; rfl) dX4_count_132
      by_cases e10 : p0 = 10
      · subst e10
        refine lv_tableIn (off := 109) (tgt := 133) hx hb dX4_count_24 (by decide) (by decide) (by decide) (by decide) ?_
        refine lv_aload_n hx hb dX4_count_133 rfl (lv_at hl 0 rfl) ?_
        refine va_get (D := D) (ci := 4) (v := .ref (q0)) (C := RX4) (T := TX4) (N := 7) hx hb hts (fun w h => List.mem_cons_of_mem _ (hiX4 w h)) hown hK hP 0 rfl rfl 3 (by decide) kf43 (fun _ h9 => h9) rfl dX4_count_134 ?_
        refine va_get (D := D) (ci := 1) (v := .int (nI (qs))) (C := RX1) (T := TX1) (N := 7) hx hb hts (fun w h => List.mem_cons_of_mem _ (hiX1 w h)) hown hK hP 12 rfl rfl 0 (by decide) kf58 (fun _ h9 => h9) rfl dX4_count_137 ?_
        exact kr_i (rfl) hx hb hr hlocks hP hK hD hS (by simp only [cf_count]; rfl) dX4_count_140
      by_cases e11 : p0 = 11
      · subst e11
        refine lv_tableIn (off := 117) (tgt := 141) hx hb dX4_count_24 (by decide) (by decide) (by decide) (by decide) ?_
        refine lv_aload_n hx hb dX4_count_141 rfl (lv_at hl 0 rfl) ?_
        refine va_get (D := D) (ci := 4) (v := .ref (r0)) (C := RX4) (T := TX4) (N := 7) hx hb hts (fun w h => List.mem_cons_of_mem _ (hiX4 w h)) hown hK hP 0 rfl rfl 2 (by decide) kf36 (fun _ h9 => h9) rfl dX4_count_142 ?_
        refine va_get (D := D) (ci := 2) (v := .int (nI (rd))) (C := RX2) (T := TX2) (N := 5) hx hb hts (fun w h => List.mem_cons_of_mem _ (hiX2 w h)) hown hK hP 10 rfl rfl 1 (by decide) kf149 (fun _ h9 => h9) rfl dX4_count_145 ?_
        exact kr_i (rfl) hx hb hr hlocks hP hK hD hS (by simp only [cf_count]; rfl) dX4_count_148
      by_cases e12 : p0 = 12
      · subst e12
        refine lv_tableIn (off := 125) (tgt := 149) hx hb dX4_count_24 (by decide) (by decide) (by decide) (by decide) ?_
        refine lv_aload_n hx hb dX4_count_149 rfl (lv_at hl 0 rfl) ?_
        refine va_get (D := D) (ci := 4) (v := .ref (t0)) (C := RX4) (T := TX4) (N := 7) hx hb hts (fun w h => List.mem_cons_of_mem _ (hiX4 w h)) hown hK hP 0 rfl rfl 0 (by decide) kf18 (fun _ h9 => h9) rfl dX4_count_150 ?_
        refine va_get (D := D) (ci := 3) (v := .int (fl)) (C := RX3) (T := TX3) (N := 9) hx hb hts (fun w h => List.mem_cons_of_mem _ (hiX3 w h)) hown hK hP 2 rfl rfl 5 (by decide) kf168 (fun _ h9 => h9) rfl dX4_count_153 ?_
        exact kr_i (rfl) hx hb hr hlocks hP hK hD hS (by simp only [cf_count]; rfl) dX4_count_156
      by_cases e13 : p0 = 13
      · subst e13
        refine lv_tableIn (off := 133) (tgt := 157) hx hb dX4_count_24 (by decide) (by decide) (by decide) (by decide) ?_
        refine lv_aload_n hx hb dX4_count_157 rfl (lv_at hl 0 rfl) ?_
        refine va_get (D := D) (ci := 4) (v := .ref (u0)) (C := RX4) (T := TX4) (N := 7) hx hb hts (fun w h => List.mem_cons_of_mem _ (hiX4 w h)) hown hK hP 0 rfl rfl 1 (by decide) kf27 (fun _ h9 => h9) rfl dX4_count_158 ?_
        refine va_get (D := D) (ci := 0) (v := .int (hh)) (C := RX0) (T := TX0) (N := 3) hx hb hts (fun w h => List.mem_cons_of_mem _ (hiX0 w h)) hown hK hP 7 rfl rfl 2 (by decide) kf171 (fun _ h9 => h9) rfl dX4_count_161 ?_
        exact kr_i (rfl) hx hb hr hlocks hP hK hD hS (by simp only [cf_count]; rfl) dX4_count_164
      by_cases e14 : p0 = 14
      · subst e14
        refine lv_tableIn (off := 141) (tgt := 165) hx hb dX4_count_24 (by decide) (by decide) (by decide) (by decide) ?_
        refine lv_aload_n hx hb dX4_count_165 rfl (lv_at hl 0 rfl) ?_
        refine va_get (D := D) (ci := 4) (v := .int (ls_)) (C := RX4) (T := TX4) (N := 7) hx hb hts (fun w h => List.mem_cons_of_mem _ (hiX4 w h)) hown hK hP 0 rfl rfl 6 (by decide) kf123 (fun _ h9 => h9) rfl dX4_count_166 ?_
        exact kr_i (rfl) hx hb hr hlocks hP hK hD hS (by simp only [cf_count]; rfl) dX4_count_169
      by_cases e15 : p0 = 15
      · subst e15
        refine lv_tableIn (off := 146) (tgt := 170) hx hb dX4_count_24 (by decide) (by decide) (by decide) (by decide) ?_
        refine lv_aload_n hx hb dX4_count_170 rfl (lv_at hl 0 rfl) ?_
        refine va_get (D := D) (ci := 4) (v := .ref (t0)) (C := RX4) (T := TX4) (N := 7) hx hb hts (fun w h => List.mem_cons_of_mem _ (hiX4 w h)) hown hK hP 0 rfl rfl 0 (by decide) kf18 (fun _ h9 => h9) rfl dX4_count_171 ?_
        refine va_get (D := D) (ci := 3) (v := .int (nI S)) (C := RX3) (T := TX3) (N := 9) hx hb hts (fun w h => List.mem_cons_of_mem _ (hiX3 w h)) hown hK hP 2 rfl rfl 0 (by decide) kf126 (fun _ h9 => h9) rfl dX4_count_174 ?_
        exact kr_i (rfl) hx hb hr hlocks hP hK hD hS (by simp only [cf_count]; rfl) dX4_count_177
      by_cases e16 : p0 = 16
      · subst e16
        refine lv_tableIn (off := 154) (tgt := 178) hx hb dX4_count_24 (by decide) (by decide) (by decide) (by decide) ?_
        refine lv_aload_n hx hb dX4_count_178 rfl (lv_at hl 0 rfl) ?_
        refine va_get (D := D) (ci := 4) (v := .ref (t0)) (C := RX4) (T := TX4) (N := 7) hx hb hts (fun w h => List.mem_cons_of_mem _ (hiX4 w h)) hown hK hP 0 rfl rfl 0 (by decide) kf18 (fun _ h9 => h9) rfl dX4_count_179 ?_
        refine va_get (D := D) (ci := 3) (v := .int (nI Wy)) (C := RX3) (T := TX3) (N := 9) hx hb hts (fun w h => List.mem_cons_of_mem _ (hiX3 w h)) hown hK hP 2 rfl rfl 1 (by decide) kf129 (fun _ h9 => h9) rfl dX4_count_182 ?_
        exact kr_i (rfl) hx hb hr hlocks hP hK hD hS (by simp only [cf_count]; rfl) dX4_count_185
      by_cases e17 : p0 = 17
      · subst e17
        refine lv_tableIn (off := 162) (tgt := 186) hx hb dX4_count_24 (by decide) (by decide) (by decide) (by decide) ?_
        refine lv_aload_n hx hb dX4_count_186 rfl (lv_at hl 0 rfl) ?_
        refine va_get (D := D) (ci := 4) (v := .ref (r0)) (C := RX4) (T := TX4) (N := 7) hx hb hts (fun w h => List.mem_cons_of_mem _ (hiX4 w h)) hown hK hP 0 rfl rfl 2 (by decide) kf36 (fun _ h9 => h9) rfl dX4_count_187 ?_
        refine va_get (D := D) (ci := 2) (v := .int (nI L)) (C := RX2) (T := TX2) (N := 5) hx hb hts (fun w h => List.mem_cons_of_mem _ (hiX2 w h)) hown hK hP 10 rfl rfl 0 (by decide) kf159 (fun _ h9 => h9) rfl dX4_count_190 ?_
        exact kr_i (rfl) hx hb hr hlocks hP hK hD hS (by simp only [cf_count]; rfl) dX4_count_193
      refine lv_tableOut (tgt := 194) hx hb dX4_count_24 (ct_out hnc e0 e8 e9 e10 e11 e12 e13 e14 e15 e16 e17) (by decide) ?_
      refine lv_iconst (v := (-1)) hx hb dX4_count_194 (by decide) ?_
      exact kr_i (rfl) hx hb hr hlocks hP hK hD hS (by simp only [cf_count, if_neg hnc, if_neg e0, if_neg e8, if_neg e9, if_neg e10, if_neg e11, if_neg e12, if_neg e13, if_neg e14, if_neg e15, if_neg e16, if_neg e17]) dX4_count_195
    ·
      obtain ⟨k, hk, ek, ek2⟩ := ct_ix (Int32.not_lt.mp c_2) (Int32.not_lt.mp c_11)
      refine lv_aload_n hx hb dX4_count_14 rfl (lv_at hl 0 rfl) ?_
      refine va_get (D := D) (ci := 4) (v := .ref (b1)) (C := RX4) (T := TX4) (N := 7) hx hb hts (fun w h => List.mem_cons_of_mem _ (hiX4 w h)) hown hK hP 0 rfl rfl 4 (by decide) kf47 (fun _ h9 => h9) rfl dX4_count_15 ?_
      refine lv_iload_n hx hb dX4_count_18 rfl (lv_at hl 1 rfl) ?_
      refine lv_iconst (v := 1) hx hb dX4_count_19 (by decide) ?_
      refine lv_isub hx hb dX4_count_20 ?_
      refine kt_i (y := nI k) (ek2) ?_
      refine ka_ild hx hb hK hP 1 0 rfl rfl (k := k) (rfl) (⟨hk, by decide⟩) dX4_count_21 ?_
      exact kr_i (rfl) hx hb hr hlocks hP hK hD hS (by simp only [cf_count]; rw [if_pos ⟨Int32.not_lt.mp c_2, Int32.not_lt.mp c_11⟩]; exact congrArg an ek.symm) dX4_count_22
end
