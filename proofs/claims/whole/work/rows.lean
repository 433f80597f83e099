section
-- ===== PART A: goes FIRST, ahead of the names: the tables' words, and 'selects' of the private methods out of them =====
/-- a private method of a class that the tables say can be made, by its rows of tables_1 -/
def lw_okq (q : MethodName × Nat) : Prop := (q.1.cls ≠ "java/lang/invoke/MethodHandle" ∧ q.1.cls ≠ "java/lang/invoke/VarHandle") ∧ Cond.instantiable q.1.cls q.2 ∈ tables_1 ∧ Cond.privateMethod q.1 ∈ tables_1 ∧ Cond.instanceMethod q.1 ∈ tables_1
theorem lw_p0 : lw_okq (⟨"GroupOrder", "answeredOrdersOf", "(I)J"⟩, 9) := ⟨⟨by decide +kernel, by decide +kernel⟩, List.mem_of_getElem? (i := 12) (by decide +kernel), List.mem_of_getElem? (i := 171) (by decide +kernel), List.mem_of_getElem? (i := 172) (by decide +kernel)⟩
theorem lw_p1 : lw_okq (⟨"GroupOrder", "putStarts", "(LGroupOrder$Order;)V"⟩, 9) := ⟨⟨by decide +kernel, by decide +kernel⟩, List.mem_of_getElem? (i := 12) (by decide +kernel), List.mem_of_getElem? (i := 175) (by decide +kernel), List.mem_of_getElem? (i := 176) (by decide +kernel)⟩
theorem lw_p2 : lw_okq (⟨"GroupOrder", "keeperOf", "(I)LGroupOrder$Group;"⟩, 9) := ⟨⟨by decide +kernel, by decide +kernel⟩, List.mem_of_getElem? (i := 12) (by decide +kernel), List.mem_of_getElem? (i := 179) (by decide +kernel), List.mem_of_getElem? (i := 180) (by decide +kernel)⟩
theorem lw_p3 : lw_okq (⟨"GroupOrder", "deliver", "(IZ)I"⟩, 9) := ⟨⟨by decide +kernel, by decide +kernel⟩, List.mem_of_getElem? (i := 12) (by decide +kernel), List.mem_of_getElem? (i := 268) (by decide +kernel), List.mem_of_getElem? (i := 269) (by decide +kernel)⟩
theorem lw_p4 : lw_okq (⟨"GroupOrder", "receive", "(LGroupOrder$Group;LGroupOrder$Message;)V"⟩, 9) := ⟨⟨by decide +kernel, by decide +kernel⟩, List.mem_of_getElem? (i := 12) (by decide +kernel), List.mem_of_getElem? (i := 280) (by decide +kernel), List.mem_of_getElem? (i := 281) (by decide +kernel)⟩
theorem lw_p5 : lw_okq (⟨"GroupOrder$Group", "earliestWaiting", "()LGroupOrder$Part;"⟩, 7) := ⟨⟨by decide +kernel, by decide +kernel⟩, List.mem_of_getElem? (i := 47) (by decide +kernel), List.mem_of_getElem? (i := 301) (by decide +kernel), List.mem_of_getElem? (i := 302) (by decide +kernel)⟩
theorem lw_p6 : lw_okq (⟨"GroupOrder$Part", "leastTime", "()I"⟩, 11) := ⟨⟨by decide +kernel, by decide +kernel⟩, List.mem_of_getElem? (i := 186) (by decide +kernel), List.mem_of_getElem? (i := 313) (by decide +kernel), List.mem_of_getElem? (i := 314) (by decide +kernel)⟩
theorem lw_p7 : lw_okq (⟨"GroupOrder", "workOutAll", "(LGroupOrder$Group;)V"⟩, 9) := ⟨⟨by decide +kernel, by decide +kernel⟩, List.mem_of_getElem? (i := 12) (by decide +kernel), List.mem_of_getElem? (i := 320) (by decide +kernel), List.mem_of_getElem? (i := 321) (by decide +kernel)⟩
theorem lw_p8 : lw_okq (⟨"GroupOrder", "putValues", "(LGroupOrder$Part;)V"⟩, 9) := ⟨⟨by decide +kernel, by decide +kernel⟩, List.mem_of_getElem? (i := 12) (by decide +kernel), List.mem_of_getElem? (i := 324) (by decide +kernel), List.mem_of_getElem? (i := 325) (by decide +kernel)⟩
theorem lw_p9 : lw_okq (⟨"GroupOrder", "workOut", "(LGroupOrder$Part;)V"⟩, 9) := ⟨⟨by decide +kernel, by decide +kernel⟩, List.mem_of_getElem? (i := 12) (by decide +kernel), List.mem_of_getElem? (i := 328) (by decide +kernel), List.mem_of_getElem? (i := 329) (by decide +kernel)⟩
theorem lw_p10 : lw_okq (⟨"GroupOrder", "isGroup", "(I)Z"⟩, 9) := ⟨⟨by decide +kernel, by decide +kernel⟩, List.mem_of_getElem? (i := 12) (by decide +kernel), List.mem_of_getElem? (i := 357) (by decide +kernel), List.mem_of_getElem? (i := 358) (by decide +kernel)⟩
theorem lw_p11 : lw_okq (⟨"GroupOrder", "hasOrder", "(I)Z"⟩, 9) := ⟨⟨by decide +kernel, by decide +kernel⟩, List.mem_of_getElem? (i := 12) (by decide +kernel), List.mem_of_getElem? (i := 381) (by decide +kernel), List.mem_of_getElem? (i := 382) (by decide +kernel)⟩
theorem lw_p12 : lw_okq (⟨"GroupOrder", "groupsTookInOrder", "()Z"⟩, 9) := ⟨⟨by decide +kernel, by decide +kernel⟩, List.mem_of_getElem? (i := 12) (by decide +kernel), List.mem_of_getElem? (i := 406) (by decide +kernel), List.mem_of_getElem? (i := 407) (by decide +kernel)⟩
theorem lw_p13 : lw_okq (⟨"GroupOrder", "isBehind", "(LGroupOrder$Order;LGroupOrder$Order;)Z"⟩, 9) := ⟨⟨by decide +kernel, by decide +kernel⟩, List.mem_of_getElem? (i := 12) (by decide +kernel), List.mem_of_getElem? (i := 410) (by decide +kernel), List.mem_of_getElem? (i := 411) (by decide +kernel)⟩
theorem lw_p14 : lw_okq (⟨"GroupOrder", "finalTimeOf", "(LGroupOrder$Order;)I"⟩, 9) := ⟨⟨by decide +kernel, by decide +kernel⟩, List.mem_of_getElem? (i := 12) (by decide +kernel), List.mem_of_getElem? (i := 414) (by decide +kernel), List.mem_of_getElem? (i := 415) (by decide +kernel)⟩
theorem lw_p15 : lw_okq (⟨"GroupOrder", "clientsWereFollowed", "()Z"⟩, 9) := ⟨⟨by decide +kernel, by decide +kernel⟩, List.mem_of_getElem? (i := 12) (by decide +kernel), List.mem_of_getElem? (i := 419) (by decide +kernel), List.mem_of_getElem? (i := 420) (by decide +kernel)⟩
def lw_privs_1 : List (MethodName × Nat) := [(⟨"GroupOrder", "answeredOrdersOf", "(I)J"⟩, 9), (⟨"GroupOrder", "putStarts", "(LGroupOrder$Order;)V"⟩, 9), (⟨"GroupOrder", "keeperOf", "(I)LGroupOrder$Group;"⟩, 9), (⟨"GroupOrder", "deliver", "(IZ)I"⟩, 9), (⟨"GroupOrder", "receive", "(LGroupOrder$Group;LGroupOrder$Message;)V"⟩, 9), (⟨"GroupOrder$Group", "earliestWaiting", "()LGroupOrder$Part;"⟩, 7), (⟨"GroupOrder$Part", "leastTime", "()I"⟩, 11), (⟨"GroupOrder", "workOutAll", "(LGroupOrder$Group;)V"⟩, 9), (⟨"GroupOrder", "putValues", "(LGroupOrder$Part;)V"⟩, 9), (⟨"GroupOrder", "workOut", "(LGroupOrder$Part;)V"⟩, 9), (⟨"GroupOrder", "isGroup", "(I)Z"⟩, 9), (⟨"GroupOrder", "hasOrder", "(I)Z"⟩, 9), (⟨"GroupOrder", "groupsTookInOrder", "()Z"⟩, 9), (⟨"GroupOrder", "isBehind", "(LGroupOrder$Order;LGroupOrder$Order;)Z"⟩, 9), (⟨"GroupOrder", "finalTimeOf", "(LGroupOrder$Order;)I"⟩, 9), (⟨"GroupOrder", "clientsWereFollowed", "()Z"⟩, 9)]
theorem lw_r1 : ∀ q ∈ lw_privs_1, lw_okq q := List.forall_mem_cons.mpr ⟨lw_p0, List.forall_mem_cons.mpr ⟨lw_p1, List.forall_mem_cons.mpr ⟨lw_p2, List.forall_mem_cons.mpr ⟨lw_p3, List.forall_mem_cons.mpr ⟨lw_p4, List.forall_mem_cons.mpr ⟨lw_p5, List.forall_mem_cons.mpr ⟨lw_p6, List.forall_mem_cons.mpr ⟨lw_p7, List.forall_mem_cons.mpr ⟨lw_p8, List.forall_mem_cons.mpr ⟨lw_p9, List.forall_mem_cons.mpr ⟨lw_p10, List.forall_mem_cons.mpr ⟨lw_p11, List.forall_mem_cons.mpr ⟨lw_p12, List.forall_mem_cons.mpr ⟨lw_p13, List.forall_mem_cons.mpr ⟨lw_p14, List.forall_mem_cons.mpr ⟨lw_p15, fun _ h => absurd h List.not_mem_nil⟩⟩⟩⟩⟩⟩⟩⟩⟩⟩⟩⟩⟩⟩⟩⟩
theorem lw_p16 : lw_okq (⟨"GroupOrder", "replayGivesTheSame", "()Z"⟩, 9) := ⟨⟨by decide +kernel, by decide +kernel⟩, List.mem_of_getElem? (i := 12) (by decide +kernel), List.mem_of_getElem? (i := 423) (by decide +kernel), List.mem_of_getElem? (i := 424) (by decide +kernel)⟩
theorem lw_p17 : lw_okq (⟨"GroupOrder", "nextAnswered", "(LGroupOrder$Order;)LGroupOrder$Order;"⟩, 9) := ⟨⟨by decide +kernel, by decide +kernel⟩, List.mem_of_getElem? (i := 12) (by decide +kernel), List.mem_of_getElem? (i := 427) (by decide +kernel), List.mem_of_getElem? (i := 428) (by decide +kernel)⟩
theorem lw_p18 : lw_okq (⟨"GroupOrder", "replayAnswersTheSame", "(LGroupOrder$Order;)Z"⟩, 9) := ⟨⟨by decide +kernel, by decide +kernel⟩, List.mem_of_getElem? (i := 12) (by decide +kernel), List.mem_of_getElem? (i := 431) (by decide +kernel), List.mem_of_getElem? (i := 432) (by decide +kernel)⟩
theorem lw_p19 : lw_okq (⟨"GroupOrder", "isWorkedOutAt", "(LGroupOrder$Order;I)Z"⟩, 9) := ⟨⟨by decide +kernel, by decide +kernel⟩, List.mem_of_getElem? (i := 12) (by decide +kernel), List.mem_of_getElem? (i := 435) (by decide +kernel), List.mem_of_getElem? (i := 436) (by decide +kernel)⟩
theorem lw_p20 : lw_okq (⟨"GroupOrder", "countAnswered", "()I"⟩, 9) := ⟨⟨by decide +kernel, by decide +kernel⟩, List.mem_of_getElem? (i := 12) (by decide +kernel), List.mem_of_getElem? (i := 443) (by decide +kernel), List.mem_of_getElem? (i := 444) (by decide +kernel)⟩
theorem lw_p21 : lw_okq (⟨"GroupOrder", "countWorkedOutByAll", "()I"⟩, 9) := ⟨⟨by decide +kernel, by decide +kernel⟩, List.mem_of_getElem? (i := 12) (by decide +kernel), List.mem_of_getElem? (i := 447) (by decide +kernel), List.mem_of_getElem? (i := 448) (by decide +kernel)⟩
theorem lw_p22 : lw_okq (⟨"GroupOrderModel", "putOthers", "(IIII)V"⟩, 34) := ⟨⟨by decide +kernel, by decide +kernel⟩, List.mem_of_getElem? (i := 454) (by decide +kernel), List.mem_of_getElem? (i := 572) (by decide +kernel), List.mem_of_getElem? (i := 573) (by decide +kernel)⟩
theorem lw_p23 : lw_okq (⟨"GroupOrderModel", "isOf", "(II)Z"⟩, 34) := ⟨⟨by decide +kernel, by decide +kernel⟩, List.mem_of_getElem? (i := 454) (by decide +kernel), List.mem_of_getElem? (i := 576) (by decide +kernel), List.mem_of_getElem? (i := 577) (by decide +kernel)⟩
theorem lw_p24 : lw_okq (⟨"GroupOrderModel", "put", "(IIIII)V"⟩, 34) := ⟨⟨by decide +kernel, by decide +kernel⟩, List.mem_of_getElem? (i := 454) (by decide +kernel), List.mem_of_getElem? (i := 580) (by decide +kernel), List.mem_of_getElem? (i := 581) (by decide +kernel)⟩
theorem lw_p25 : lw_okq (⟨"GroupOrderModel", "move", "(II)V"⟩, 34) := ⟨⟨by decide +kernel, by decide +kernel⟩, List.mem_of_getElem? (i := 454) (by decide +kernel), List.mem_of_getElem? (i := 588) (by decide +kernel), List.mem_of_getElem? (i := 589) (by decide +kernel)⟩
theorem lw_p26 : lw_okq (⟨"GroupOrderModel", "comes", "(I)V"⟩, 34) := ⟨⟨by decide +kernel, by decide +kernel⟩, List.mem_of_getElem? (i := 454) (by decide +kernel), List.mem_of_getElem? (i := 592) (by decide +kernel), List.mem_of_getElem? (i := 593) (by decide +kernel)⟩
theorem lw_p27 : lw_okq (⟨"GroupOrderModel", "comesStart", "(II)V"⟩, 34) := ⟨⟨by decide +kernel, by decide +kernel⟩, List.mem_of_getElem? (i := 454) (by decide +kernel), List.mem_of_getElem? (i := 596) (by decide +kernel), List.mem_of_getElem? (i := 597) (by decide +kernel)⟩
theorem lw_p28 : lw_okq (⟨"GroupOrderModel", "makesFinal", "(I)Z"⟩, 34) := ⟨⟨by decide +kernel, by decide +kernel⟩, List.mem_of_getElem? (i := 454) (by decide +kernel), List.mem_of_getElem? (i := 606) (by decide +kernel), List.mem_of_getElem? (i := 607) (by decide +kernel)⟩
theorem lw_p29 : lw_okq (⟨"GroupOrderModel", "takes", "(I)Z"⟩, 34) := ⟨⟨by decide +kernel, by decide +kernel⟩, List.mem_of_getElem? (i := 454) (by decide +kernel), List.mem_of_getElem? (i := 610) (by decide +kernel), List.mem_of_getElem? (i := 611) (by decide +kernel)⟩
theorem lw_p30 : lw_okq (⟨"GroupOrderModel", "works", "(I)Z"⟩, 34) := ⟨⟨by decide +kernel, by decide +kernel⟩, List.mem_of_getElem? (i := 454) (by decide +kernel), List.mem_of_getElem? (i := 614) (by decide +kernel), List.mem_of_getElem? (i := 615) (by decide +kernel)⟩
theorem lw_p31 : lw_okq (⟨"GroupOrderModel", "workOut", "(II)V"⟩, 34) := ⟨⟨by decide +kernel, by decide +kernel⟩, List.mem_of_getElem? (i := 454) (by decide +kernel), List.mem_of_getElem? (i := 618) (by decide +kernel), List.mem_of_getElem? (i := 619) (by decide +kernel)⟩
def lw_privs_2 : List (MethodName × Nat) := [(⟨"GroupOrder", "replayGivesTheSame", "()Z"⟩, 9), (⟨"GroupOrder", "nextAnswered", "(LGroupOrder$Order;)LGroupOrder$Order;"⟩, 9), (⟨"GroupOrder", "replayAnswersTheSame", "(LGroupOrder$Order;)Z"⟩, 9), (⟨"GroupOrder", "isWorkedOutAt", "(LGroupOrder$Order;I)Z"⟩, 9), (⟨"GroupOrder", "countAnswered", "()I"⟩, 9), (⟨"GroupOrder", "countWorkedOutByAll", "()I"⟩, 9), (⟨"GroupOrderModel", "putOthers", "(IIII)V"⟩, 34), (⟨"GroupOrderModel", "isOf", "(II)Z"⟩, 34), (⟨"GroupOrderModel", "put", "(IIIII)V"⟩, 34), (⟨"GroupOrderModel", "move", "(II)V"⟩, 34), (⟨"GroupOrderModel", "comes", "(I)V"⟩, 34), (⟨"GroupOrderModel", "comesStart", "(II)V"⟩, 34), (⟨"GroupOrderModel", "makesFinal", "(I)Z"⟩, 34), (⟨"GroupOrderModel", "takes", "(I)Z"⟩, 34), (⟨"GroupOrderModel", "works", "(I)Z"⟩, 34), (⟨"GroupOrderModel", "workOut", "(II)V"⟩, 34)]
theorem lw_r2 : ∀ q ∈ lw_privs_2, lw_okq q := List.forall_mem_cons.mpr ⟨lw_p16, List.forall_mem_cons.mpr ⟨lw_p17, List.forall_mem_cons.mpr ⟨lw_p18, List.forall_mem_cons.mpr ⟨lw_p19, List.forall_mem_cons.mpr ⟨lw_p20, List.forall_mem_cons.mpr ⟨lw_p21, List.forall_mem_cons.mpr ⟨lw_p22, List.forall_mem_cons.mpr ⟨lw_p23, List.forall_mem_cons.mpr ⟨lw_p24, List.forall_mem_cons.mpr ⟨lw_p25, List.forall_mem_cons.mpr ⟨lw_p26, List.forall_mem_cons.mpr ⟨lw_p27, List.forall_mem_cons.mpr ⟨lw_p28, List.forall_mem_cons.mpr ⟨lw_p29, List.forall_mem_cons.mpr ⟨lw_p30, List.forall_mem_cons.mpr ⟨lw_p31, fun _ h => absurd h List.not_mem_nil⟩⟩⟩⟩⟩⟩⟩⟩⟩⟩⟩⟩⟩⟩⟩⟩
theorem lw_p32 : lw_okq (⟨"GroupOrderModel", "doneCount", "()I"⟩, 34) := ⟨⟨by decide +kernel, by decide +kernel⟩, List.mem_of_getElem? (i := 454) (by decide +kernel), List.mem_of_getElem? (i := 674) (by decide +kernel), List.mem_of_getElem? (i := 675) (by decide +kernel)⟩
def lw_privs_3 : List (MethodName × Nat) := [(⟨"GroupOrderModel", "doneCount", "()I"⟩, 34)]
theorem lw_r3 : ∀ q ∈ lw_privs_3, lw_okq q := List.forall_mem_cons.mpr ⟨lw_p32, fun _ h => absurd h List.not_mem_nil⟩
def lw_privs : List (MethodName × Nat) := lw_privs_1 ++ (lw_privs_2 ++ (lw_privs_3))
def lw_tbl : List Cond := k2_sels lw_privs ++ tables_1
theorem lw_privs_ok : ∀ q ∈ lw_privs, lw_okq q := by
  show ∀ q ∈ lw_privs_1 ++ (lw_privs_2 ++ (lw_privs_3)), lw_okq q
  exact List.forall_mem_append.mpr ⟨lw_r1, List.forall_mem_append.mpr ⟨lw_r2, lw_r3⟩⟩
end
section
def RX0 : String := "GroupOrder$Flights"
def TX0 : u_T := fun k => match k with
  | 0 => ("GroupOrder$Flights", "row", "[LGroupOrder$Message;", true)
  | _ => ("GroupOrder$Flights", "size", "I", false)
def tyX0 : Nat → FieldType := fun k => match k with
  | 0 => .array (.object "GroupOrder$Message")
  | _ => .int
abbrev wsX00 : List Cond := u_ws RX0 TX0 2
theorem nmX0 : ∀ a, a < 2 → ∀ b, b < 2 → a ≠ b → (TX0 a).2.1 ≠ (TX0 b).2.1 := by decide +kernel
theorem tyX0_ok : ∀ k, k < 2 → parseFieldDescriptor (TX0 k).2.2.1 = some (tyX0 k) := by decide +kernel
abbrev cX0_init : ByteArray := prog_2_method_1_code
def yX0_init : MethodName := ⟨RX0, "<init>", "()V"⟩
abbrev cX0_has : ByteArray := prog_2_method_2_code
def yX0_has : MethodName := ⟨RX0, "has", "(I)Z"⟩
abbrev cX0_put : ByteArray := prog_2_method_3_code
def yX0_put : MethodName := ⟨RX0, "put", "(LGroupOrder$Message;)V"⟩
abbrev cX0_drop : ByteArray := prog_2_method_4_code
def yX0_drop : MethodName := ⟨RX0, "drop", "(I)V"⟩
def RX1 : String := "GroupOrder$Group"
def TX1 : u_T := fun k => match k with
  | 0 => ("GroupOrder$Group", "number", "I", true)
  | 1 => ("GroupOrder$Group", "isUp", "Z", false)
  | 2 => ("GroupOrder$Group", "clockTime", "I", false)
  | 3 => ("GroupOrder$Group", "parts", "[LGroupOrder$Part;", true)
  | 4 => ("GroupOrder$Group", "takenParts", "[LGroupOrder$Part;", true)
  | 5 => ("GroupOrder$Group", "takenCount", "I", false)
  | _ => ("GroupOrder$Group", "workedOutCount", "I", false)
def tyX1 : Nat → FieldType := fun k => match k with
  | 0 => .int
  | 1 => .boolean
  | 2 => .int
  | 3 => .array (.object "GroupOrder$Part")
  | 4 => .array (.object "GroupOrder$Part")
  | 5 => .int
  | _ => .int
abbrev wsX10 : List Cond := u_ws RX1 TX1 7
theorem nmX1 : ∀ a, a < 7 → ∀ b, b < 7 → a ≠ b → (TX1 a).2.1 ≠ (TX1 b).2.1 := by decide +kernel
theorem tyX1_ok : ∀ k, k < 7 → parseFieldDescriptor (TX1 k).2.2.1 = some (tyX1 k) := by decide +kernel
abbrev cX1_init : ByteArray := prog_3_method_1_code
def yX1_init : MethodName := ⟨RX1, "<init>", "(I)V"⟩
abbrev cX1_partFor : ByteArray := prog_3_method_2_code
def yX1_partFor : MethodName := ⟨RX1, "partFor", "(LGroupOrder$Order;)LGroupOrder$Part;"⟩
abbrev cX1_start : ByteArray := prog_3_method_3_code
def yX1_start : MethodName := ⟨RX1, "start", "(LGroupOrder$Part;)V"⟩
abbrev cX1_makeFinal : ByteArray := prog_3_method_4_code
def yX1_makeFinal : MethodName := ⟨RX1, "makeFinal", "()V"⟩
abbrev cX1_takeAll : ByteArray := prog_3_method_5_code
def yX1_takeAll : MethodName := ⟨RX1, "takeAll", "()V"⟩
abbrev cX1_earliestWaiting : ByteArray := prog_3_method_6_code
def yX1_earliestWaiting : MethodName := ⟨RX1, "earliestWaiting", "()LGroupOrder$Part;"⟩
def RX2 : String := "GroupOrder$Message"
def TX2 : u_T := fun k => match k with
  | 0 => ("GroupOrder$Message", "kind", "I", true)
  | 1 => ("GroupOrder$Message", "from", "I", true)
  | 2 => ("GroupOrder$Message", "to", "LGroupOrder$Part;", true)
  | _ => ("GroupOrder$Message", "content", "I", true)
def tyX2 : Nat → FieldType := fun k => match k with
  | 0 => .int
  | 1 => .int
  | 2 => .object "GroupOrder$Part"
  | _ => .int
abbrev wsX20 : List Cond := u_ws RX2 TX2 4
theorem nmX2 : ∀ a, a < 4 → ∀ b, b < 4 → a ≠ b → (TX2 a).2.1 ≠ (TX2 b).2.1 := by decide +kernel
theorem tyX2_ok : ∀ k, k < 4 → parseFieldDescriptor (TX2 k).2.2.1 = some (tyX2 k) := by decide +kernel
abbrev cX2_init : ByteArray := prog_4_method_1_code
def yX2_init : MethodName := ⟨RX2, "<init>", "(IILGroupOrder$Part;I)V"⟩
def RX3 : String := "GroupOrder$Order"
def TX3 : u_T := fun k => match k with
  | 0 => ("GroupOrder$Order", "number", "I", true)
  | 1 => ("GroupOrder$Order", "client", "I", true)
  | 2 => ("GroupOrder$Order", "kind", "I", true)
  | 3 => ("GroupOrder$Order", "a", "I", true)
  | 4 => ("GroupOrder$Order", "b", "I", true)
  | 5 => ("GroupOrder$Order", "c", "I", true)
  | 6 => ("GroupOrder$Order", "clientTime", "I", false)
  | 7 => ("GroupOrder$Order", "answeredBefore", "J", false)
  | 8 => ("GroupOrder$Order", "isAnswered", "Z", false)
  | _ => ("GroupOrder$Order", "result", "I", false)
def tyX3 : Nat → FieldType := fun k => match k with
  | 0 => .int
  | 1 => .int
  | 2 => .int
  | 3 => .int
  | 4 => .int
  | 5 => .int
  | 6 => .int
  | 7 => .long
  | 8 => .boolean
  | _ => .int
abbrev wsX30 : List Cond := u_ws RX3 TX3 10
theorem nmX3 : ∀ a, a < 10 → ∀ b, b < 10 → a ≠ b → (TX3 a).2.1 ≠ (TX3 b).2.1 := by decide +kernel
theorem tyX3_ok : ∀ k, k < 10 → parseFieldDescriptor (TX3 k).2.2.1 = some (tyX3 k) := by decide +kernel
abbrev cX3_init : ByteArray := prog_5_method_1_code
def yX3_init : MethodName := ⟨RX3, "<init>", "(IIIIII)V"⟩
abbrev cX3_isMoved : ByteArray := prog_5_method_2_code
def yX3_isMoved : MethodName := ⟨RX3, "isMoved", "(I)Z"⟩
abbrev cX3_behindA : ByteArray := prog_5_method_3_code
def yX3_behindA : MethodName := ⟨RX3, "behindA", "(II)I"⟩
abbrev cX3_behindB : ByteArray := prog_5_method_4_code
def yX3_behindB : MethodName := ⟨RX3, "behindB", "(II)I"⟩
abbrev cX3_reply : ByteArray := prog_5_method_5_code
def yX3_reply : MethodName := ⟨RX3, "reply", "(II)I"⟩
def RX4 : String := "GroupOrder$Part"
def TX4 : u_T := fun k => match k with
  | 0 => ("GroupOrder$Part", "order", "LGroupOrder$Order;", true)
  | 1 => ("GroupOrder$Part", "group", "I", true)
  | 2 => ("GroupOrder$Part", "other", "LGroupOrder$Part;", false)
  | 3 => ("GroupOrder$Part", "localTime", "I", false)
  | 4 => ("GroupOrder$Part", "otherLocalTime", "I", false)
  | 5 => ("GroupOrder$Part", "finalTime", "I", false)
  | 6 => ("GroupOrder$Part", "isTaken", "Z", false)
  | 7 => ("GroupOrder$Part", "wasValueSent", "Z", false)
  | 8 => ("GroupOrder$Part", "hasOtherValue", "Z", false)
  | 9 => ("GroupOrder$Part", "otherValue", "I", false)
  | _ => ("GroupOrder$Part", "isWorkedOut", "Z", false)
def tyX4 : Nat → FieldType := fun k => match k with
  | 0 => .object "GroupOrder$Order"
  | 1 => .int
  | 2 => .object "GroupOrder$Part"
  | 3 => .int
  | 4 => .int
  | 5 => .int
  | 6 => .boolean
  | 7 => .boolean
  | 8 => .boolean
  | 9 => .int
  | _ => .boolean
abbrev wsX40 : List Cond := u_ws RX4 TX4 11
theorem nmX4 : ∀ a, a < 11 → ∀ b, b < 11 → a ≠ b → (TX4 a).2.1 ≠ (TX4 b).2.1 := by decide +kernel
theorem tyX4_ok : ∀ k, k < 11 → parseFieldDescriptor (TX4 k).2.2.1 = some (tyX4 k) := by decide +kernel
abbrev cX4_init : ByteArray := prog_6_method_1_code
def yX4_init : MethodName := ⟨RX4, "<init>", "(LGroupOrder$Order;I)V"⟩
abbrev cX4_hasAllLocalTimes : ByteArray := prog_6_method_2_code
def yX4_hasAllLocalTimes : MethodName := ⟨RX4, "hasAllLocalTimes", "()Z"⟩
abbrev cX4_waits : ByteArray := prog_6_method_3_code
def yX4_waits : MethodName := ⟨RX4, "waits", "()Z"⟩
abbrev cX4_isEarlierThan : ByteArray := prog_6_method_4_code
def yX4_isEarlierThan : MethodName := ⟨RX4, "isEarlierThan", "(LGroupOrder$Part;)Z"⟩
abbrev cX4_leastTime : ByteArray := prog_6_method_5_code
def yX4_leastTime : MethodName := ⟨RX4, "leastTime", "()I"⟩
def RX5 : String := "GroupOrder"
def TX5 : u_T := fun k => match k with
  | 0 => ("GroupOrder", "groups", "[LGroupOrder$Group;", true)
  | 1 => ("GroupOrder", "values", "[I", true)
  | 2 => ("GroupOrder", "clientTimes", "[I", true)
  | 3 => ("GroupOrder", "orders", "[LGroupOrder$Order;", true)
  | 4 => ("GroupOrder", "flights", "LGroupOrder$Flights;", true)
  | 5 => ("GroupOrder", "orderCount", "I", false)
  | 6 => ("GroupOrder", "broughtCount", "I", false)
  | 7 => ("GroupOrder", "serialValues", "[I", true)
  | _ => ("GroupOrder", "dueValues", "[I", true)
def tyX5 : Nat → FieldType := fun k => match k with
  | 0 => .array (.object "GroupOrder$Group")
  | 1 => .array .int
  | 2 => .array .int
  | 3 => .array (.object "GroupOrder$Order")
  | 4 => .object "GroupOrder$Flights"
  | 5 => .int
  | 6 => .int
  | 7 => .array .int
  | _ => .array .int
abbrev wsX50 : List Cond := u_ws RX5 TX5 9
theorem nmX5 : ∀ a, a < 9 → ∀ b, b < 9 → a ≠ b → (TX5 a).2.1 ≠ (TX5 b).2.1 := by decide +kernel
theorem tyX5_ok : ∀ k, k < 9 → parseFieldDescriptor (TX5 k).2.2.1 = some (tyX5 k) := by decide +kernel
abbrev cX5_init : ByteArray := prog_1_method_1_code
def yX5_init : MethodName := ⟨RX5, "<init>", "(I)V"⟩
abbrev cX5_send : ByteArray := prog_1_method_2_code
def yX5_send : MethodName := ⟨RX5, "send", "(IIIII)I"⟩
abbrev cX5_bring : ByteArray := prog_1_method_3_code
def yX5_bring : MethodName := ⟨RX5, "bring", "(I)I"⟩
abbrev cX5_twice : ByteArray := prog_1_method_4_code
def yX5_twice : MethodName := ⟨RX5, "twice", "(I)I"⟩
abbrev cX5_up : ByteArray := prog_1_method_5_code
def yX5_up : MethodName := ⟨RX5, "up", "(IZ)Z"⟩
abbrev cX5_flight : ByteArray := prog_1_method_6_code
def yX5_flight : MethodName := ⟨RX5, "flight", "(II)I"⟩
abbrev cX5_flying : ByteArray := prog_1_method_7_code
def yX5_flying : MethodName := ⟨RX5, "flying", "()I"⟩
abbrev cX5_taken : ByteArray := prog_1_method_8_code
def yX5_taken : MethodName := ⟨RX5, "taken", "(II)I"⟩
abbrev cX5_answer : ByteArray := prog_1_method_9_code
def yX5_answer : MethodName := ⟨RX5, "answer", "(I)I"⟩
abbrev cX5_answered : ByteArray := prog_1_method_10_code
def yX5_answered : MethodName := ⟨RX5, "answered", "(I)Z"⟩
abbrev cX5_time : ByteArray := prog_1_method_11_code
def yX5_time : MethodName := ⟨RX5, "time", "(III)I"⟩
abbrev cX5_value : ByteArray := prog_1_method_12_code
def yX5_value : MethodName := ⟨RX5, "value", "(I)I"⟩
abbrev cX5_clock : ByteArray := prog_1_method_13_code
def yX5_clock : MethodName := ⟨RX5, "clock", "(I)I"⟩
abbrev cX5_seen : ByteArray := prog_1_method_14_code
def yX5_seen : MethodName := ⟨RX5, "seen", "(I)I"⟩
abbrev cX5_agree : ByteArray := prog_1_method_15_code
def yX5_agree : MethodName := ⟨RX5, "agree", "()Z"⟩
abbrev cX5_count : ByteArray := prog_1_method_16_code
def yX5_count : MethodName := ⟨RX5, "count", "(I)I"⟩
abbrev cX5_isGroup : ByteArray := prog_1_method_17_code
def yX5_isGroup : MethodName := ⟨RX5, "isGroup", "(I)Z"⟩
abbrev cX5_hasOrder : ByteArray := prog_1_method_18_code
def yX5_hasOrder : MethodName := ⟨RX5, "hasOrder", "(I)Z"⟩
abbrev cX5_isClient : ByteArray := prog_1_method_19_code
def yX5_isClient : MethodName := ⟨RX5, "isClient", "(I)Z"⟩
abbrev cX5_isKey : ByteArray := prog_1_method_20_code
def yX5_isKey : MethodName := ⟨RX5, "isKey", "(I)Z"⟩
abbrev cX5_isOrder : ByteArray := prog_1_method_21_code
def yX5_isOrder : MethodName := ⟨RX5, "isOrder", "(IIIII)Z"⟩
abbrev cX5_keeperOf : ByteArray := prog_1_method_22_code
def yX5_keeperOf : MethodName := ⟨RX5, "keeperOf", "(I)LGroupOrder$Group;"⟩
abbrev cX5_answeredOrdersOf : ByteArray := prog_1_method_23_code
def yX5_answeredOrdersOf : MethodName := ⟨RX5, "answeredOrdersOf", "(I)J"⟩
abbrev cX5_putStarts : ByteArray := prog_1_method_24_code
def yX5_putStarts : MethodName := ⟨RX5, "putStarts", "(LGroupOrder$Order;)V"⟩
abbrev cX5_deliver : ByteArray := prog_1_method_25_code
def yX5_deliver : MethodName := ⟨RX5, "deliver", "(IZ)I"⟩
abbrev cX5_receive : ByteArray := prog_1_method_26_code
def yX5_receive : MethodName := ⟨RX5, "receive", "(LGroupOrder$Group;LGroupOrder$Message;)V"⟩
abbrev cX5_workOutAll : ByteArray := prog_1_method_27_code
def yX5_workOutAll : MethodName := ⟨RX5, "workOutAll", "(LGroupOrder$Group;)V"⟩
abbrev cX5_putValues : ByteArray := prog_1_method_28_code
def yX5_putValues : MethodName := ⟨RX5, "putValues", "(LGroupOrder$Part;)V"⟩
abbrev cX5_workOut : ByteArray := prog_1_method_29_code
def yX5_workOut : MethodName := ⟨RX5, "workOut", "(LGroupOrder$Part;)V"⟩
abbrev cX5_countAnswered : ByteArray := prog_1_method_30_code
def yX5_countAnswered : MethodName := ⟨RX5, "countAnswered", "()I"⟩
abbrev cX5_countWorkedOutByAll : ByteArray := prog_1_method_31_code
def yX5_countWorkedOutByAll : MethodName := ⟨RX5, "countWorkedOutByAll", "()I"⟩
abbrev cX5_isWorkedOutAt : ByteArray := prog_1_method_32_code
def yX5_isWorkedOutAt : MethodName := ⟨RX5, "isWorkedOutAt", "(LGroupOrder$Order;I)Z"⟩
abbrev cX5_groupsTookInOrder : ByteArray := prog_1_method_33_code
def yX5_groupsTookInOrder : MethodName := ⟨RX5, "groupsTookInOrder", "()Z"⟩
abbrev cX5_clientsWereFollowed : ByteArray := prog_1_method_34_code
def yX5_clientsWereFollowed : MethodName := ⟨RX5, "clientsWereFollowed", "()Z"⟩
abbrev cX5_replayGivesTheSame : ByteArray := prog_1_method_35_code
def yX5_replayGivesTheSame : MethodName := ⟨RX5, "replayGivesTheSame", "()Z"⟩
abbrev cX5_replayAnswersTheSame : ByteArray := prog_1_method_36_code
def yX5_replayAnswersTheSame : MethodName := ⟨RX5, "replayAnswersTheSame", "(LGroupOrder$Order;)Z"⟩
abbrev cX5_nextAnswered : ByteArray := prog_1_method_37_code
def yX5_nextAnswered : MethodName := ⟨RX5, "nextAnswered", "(LGroupOrder$Order;)LGroupOrder$Order;"⟩
abbrev cX5_isBehind : ByteArray := prog_1_method_38_code
def yX5_isBehind : MethodName := ⟨RX5, "isBehind", "(LGroupOrder$Order;LGroupOrder$Order;)Z"⟩
abbrev cX5_finalTimeOf : ByteArray := prog_1_method_39_code
def yX5_finalTimeOf : MethodName := ⟨RX5, "finalTimeOf", "(LGroupOrder$Order;)I"⟩
def RX6 : String := "GroupOrderModel"
def TX6 : u_T := fun k => match k with
  | 0 => ("GroupOrderModel", "groups", "I", true)
  | 1 => ("GroupOrderModel", "clocks", "[I", true)
  | 2 => ("GroupOrderModel", "down", "[Z", true)
  | 3 => ("GroupOrderModel", "values", "[I", true)
  | 4 => ("GroupOrderModel", "orders", "I", false)
  | 5 => ("GroupOrderModel", "clients", "[I", true)
  | 6 => ("GroupOrderModel", "kinds", "[I", true)
  | 7 => ("GroupOrderModel", "as", "[I", true)
  | 8 => ("GroupOrderModel", "bs", "[I", true)
  | 9 => ("GroupOrderModel", "cs", "[I", true)
  | 10 => ("GroupOrderModel", "sentAt", "[I", true)
  | 11 => ("GroupOrderModel", "answered", "[Z", true)
  | 12 => ("GroupOrderModel", "answers", "[I", true)
  | 13 => ("GroupOrderModel", "times", "[I", true)
  | 14 => ("GroupOrderModel", "started", "[Z", true)
  | 15 => ("GroupOrderModel", "finals", "[I", true)
  | 16 => ("GroupOrderModel", "isTaken", "[Z", true)
  | 17 => ("GroupOrderModel", "sent", "[Z", true)
  | 18 => ("GroupOrderModel", "worked", "[Z", true)
  | 19 => ("GroupOrderModel", "locals", "[I", true)
  | 20 => ("GroupOrderModel", "came", "[Z", true)
  | 21 => ("GroupOrderModel", "cameA", "[I", true)
  | 22 => ("GroupOrderModel", "cameB", "[I", true)
  | 23 => ("GroupOrderModel", "takenCount", "[I", true)
  | 24 => ("GroupOrderModel", "takenRow", "[I", true)
  | 25 => ("GroupOrderModel", "flying", "I", false)
  | 26 => ("GroupOrderModel", "kindOf", "[I", true)
  | 27 => ("GroupOrderModel", "orderOf", "[I", true)
  | 28 => ("GroupOrderModel", "fromOf", "[I", true)
  | 29 => ("GroupOrderModel", "toOf", "[I", true)
  | 30 => ("GroupOrderModel", "timeOf", "[I", true)
  | 31 => ("GroupOrderModel", "aOf", "[I", true)
  | 32 => ("GroupOrderModel", "bOf", "[I", true)
  | _ => ("GroupOrderModel", "brought", "I", false)
def tyX6 : Nat → FieldType := fun k => match k with
  | 0 => .int
  | 1 => .array .int
  | 2 => .array .boolean
  | 3 => .array .int
  | 4 => .int
  | 5 => .array .int
  | 6 => .array .int
  | 7 => .array .int
  | 8 => .array .int
  | 9 => .array .int
  | 10 => .array .int
  | 11 => .array .boolean
  | 12 => .array .int
  | 13 => .array .int
  | 14 => .array .boolean
  | 15 => .array .int
  | 16 => .array .boolean
  | 17 => .array .boolean
  | 18 => .array .boolean
  | 19 => .array .int
  | 20 => .array .boolean
  | 21 => .array .int
  | 22 => .array .int
  | 23 => .array .int
  | 24 => .array .int
  | 25 => .int
  | 26 => .array .int
  | 27 => .array .int
  | 28 => .array .int
  | 29 => .array .int
  | 30 => .array .int
  | 31 => .array .int
  | 32 => .array .int
  | _ => .int
abbrev wsX60 : List Cond := u_ws RX6 TX6 34
theorem nmX6 : ∀ a, a < 34 → ∀ b, b < 34 → a ≠ b → (TX6 a).2.1 ≠ (TX6 b).2.1 := by decide +kernel
theorem tyX6_ok : ∀ k, k < 34 → parseFieldDescriptor (TX6 k).2.2.1 = some (tyX6 k) := by decide +kernel
abbrev cX6_init : ByteArray := prog_8_method_1_code
def yX6_init : MethodName := ⟨RX6, "<init>", "(I)V"⟩
abbrev cX6_isIn : ByteArray := prog_8_method_3_code
def yX6_isIn : MethodName := ⟨RX6, "isIn", "(II)Z"⟩
abbrev cX6_isOf : ByteArray := prog_8_method_4_code
def yX6_isOf : MethodName := ⟨RX6, "isOf", "(II)Z"⟩
abbrev cX6_at : ByteArray := prog_8_method_5_code
def yX6_at : MethodName := ⟨RX6, "at", "(II)I"⟩
abbrev cX6_of : ByteArray := prog_8_method_6_code
def yX6_of : MethodName := ⟨RX6, "of", "(III)I"⟩
abbrev cX6_put : ByteArray := prog_8_method_7_code
def yX6_put : MethodName := ⟨RX6, "put", "(IIIII)V"⟩
abbrev cX6_putOthers : ByteArray := prog_8_method_8_code
def yX6_putOthers : MethodName := ⟨RX6, "putOthers", "(IIII)V"⟩
abbrev cX6_send : ByteArray := prog_8_method_9_code
def yX6_send : MethodName := ⟨RX6, "send", "(IIIII)I"⟩
abbrev cX6_comesStart : ByteArray := prog_8_method_10_code
def yX6_comesStart : MethodName := ⟨RX6, "comesStart", "(II)V"⟩
abbrev cX6_comes : ByteArray := prog_8_method_11_code
def yX6_comes : MethodName := ⟨RX6, "comes", "(I)V"⟩
abbrev cX6_makesFinal : ByteArray := prog_8_method_12_code
def yX6_makesFinal : MethodName := ⟨RX6, "makesFinal", "(I)Z"⟩
abbrev cX6_takes : ByteArray := prog_8_method_13_code
def yX6_takes : MethodName := ⟨RX6, "takes", "(I)Z"⟩
abbrev cX6_works : ByteArray := prog_8_method_14_code
def yX6_works : MethodName := ⟨RX6, "works", "(I)Z"⟩
abbrev cX6_workOut : ByteArray := prog_8_method_15_code
def yX6_workOut : MethodName := ⟨RX6, "workOut", "(II)V"⟩
abbrev cX6_bring : ByteArray := prog_8_method_16_code
def yX6_bring : MethodName := ⟨RX6, "bring", "(I)I"⟩
abbrev cX6_move : ByteArray := prog_8_method_17_code
def yX6_move : MethodName := ⟨RX6, "move", "(II)V"⟩
abbrev cX6_twice : ByteArray := prog_8_method_18_code
def yX6_twice : MethodName := ⟨RX6, "twice", "(I)I"⟩
abbrev cX6_up : ByteArray := prog_8_method_19_code
def yX6_up : MethodName := ⟨RX6, "up", "(IZ)Z"⟩
abbrev cX6_flight : ByteArray := prog_8_method_20_code
def yX6_flight : MethodName := ⟨RX6, "flight", "(II)I"⟩
abbrev cX6_flying : ByteArray := prog_8_method_21_code
def yX6_flying : MethodName := ⟨RX6, "flying", "()I"⟩
abbrev cX6_taken : ByteArray := prog_8_method_22_code
def yX6_taken : MethodName := ⟨RX6, "taken", "(II)I"⟩
abbrev cX6_answer : ByteArray := prog_8_method_23_code
def yX6_answer : MethodName := ⟨RX6, "answer", "(I)I"⟩
abbrev cX6_answered : ByteArray := prog_8_method_24_code
def yX6_answered : MethodName := ⟨RX6, "answered", "(I)Z"⟩
abbrev cX6_time : ByteArray := prog_8_method_25_code
def yX6_time : MethodName := ⟨RX6, "time", "(III)I"⟩
abbrev cX6_value : ByteArray := prog_8_method_26_code
def yX6_value : MethodName := ⟨RX6, "value", "(I)I"⟩
abbrev cX6_clock : ByteArray := prog_8_method_27_code
def yX6_clock : MethodName := ⟨RX6, "clock", "(I)I"⟩
abbrev cX6_seen : ByteArray := prog_8_method_28_code
def yX6_seen : MethodName := ⟨RX6, "seen", "(I)I"⟩
abbrev cX6_agree : ByteArray := prog_8_method_29_code
def yX6_agree : MethodName := ⟨RX6, "agree", "()Z"⟩
abbrev cX6_doneCount : ByteArray := prog_8_method_30_code
def yX6_doneCount : MethodName := ⟨RX6, "doneCount", "()I"⟩
abbrev cX6_count : ByteArray := prog_8_method_31_code
def yX6_count : MethodName := ⟨RX6, "count", "(I)I"⟩
def RJ6 : String := "java/lang/Integer"
def TJ6 : u_T := fun k => match k with
  | _ => ("", "", "", false)
def tyJ6 : Nat → FieldType := fun k => match k with
  | _ => .int
abbrev wsJ60 : List Cond := u_ws RJ6 TJ6 0
theorem nmJ6 : ∀ a, a < 0 → ∀ b, b < 0 → a ≠ b → (TJ6 a).2.1 ≠ (TJ6 b).2.1 := by decide +kernel
theorem tyJ6_ok : ∀ k, k < 0 → parseFieldDescriptor (TJ6 k).2.2.1 = some (tyJ6 k) := by decide +kernel
abbrev cJ6_compare_7cf53 : ByteArray := prog_9_method_40_code
def yJ6_compare_7cf53 : MethodName := ⟨RJ6, "compare", "(II)I"⟩
def RJ9 : String := "java/lang/Math"
def TJ9 : u_T := fun k => match k with
  | _ => ("", "", "", false)
def tyJ9 : Nat → FieldType := fun k => match k with
  | _ => .int
abbrev wsJ90 : List Cond := u_ws RJ9 TJ9 0
theorem nmJ9 : ∀ a, a < 0 → ∀ b, b < 0 → a ≠ b → (TJ9 a).2.1 ≠ (TJ9 b).2.1 := by decide +kernel
theorem tyJ9_ok : ∀ k, k < 0 → parseFieldDescriptor (TJ9 k).2.2.1 = some (tyJ9 k) := by decide +kernel
abbrev cJ9_max_7cf53 : ByteArray := prog_10_method_65_code
def yJ9_max_7cf53 : MethodName := ⟨RJ9, "max", "(II)I"⟩
abbrev cJ9_min_7cf53 : ByteArray := prog_10_method_69_code
def yJ9_min_7cf53 : MethodName := ⟨RJ9, "min", "(II)I"⟩
def RJ7 : String := "java/util/Arrays"
def TJ7 : u_T := fun k => match k with
  | _ => ("", "", "", false)
def tyJ7 : Nat → FieldType := fun k => match k with
  | _ => .int
abbrev wsJ70 : List Cond := u_ws RJ7 TJ7 0
theorem nmJ7 : ∀ a, a < 0 → ∀ b, b < 0 → a ≠ b → (TJ7 a).2.1 ≠ (TJ7 b).2.1 := by decide +kernel
theorem tyJ7_ok : ∀ k, k < 0 → parseFieldDescriptor (TJ7 k).2.2.1 = some (tyJ7 k) := by decide +kernel
abbrev cJ7_fill_53178 : ByteArray := prog_11_method_103_code
def yJ7_fill_53178 : MethodName := ⟨RJ7, "fill", "([II)V"⟩
def RL : String := "GroupOrderLaw"
abbrev cL_cell : ByteArray := method_2_code
def yL_cell : MethodName := ⟨RL, "cell", "([II)I"⟩
abbrev cL_law : ByteArray := code
def yL_law : MethodName := ⟨RL, "law", "([I)Z"⟩
abbrev vwCl : List vw_C := [(RX0, TX0, 2), (RX1, TX1, 7), (RX2, TX2, 4), (RX3, TX3, 10), (RX4, TX4, 11), (RX5, TX5, 9), (RX6, TX6, 34)]
end
section
/-! the words of the tables, one by one: where each stands -/
def gx_Ts : List Cond := lw_tbl.filter goodWord
theorem gx_t1 {w : Cond} (i : Nat) (h : tables_1_1[i]? = some w) (g : goodWord w = true) : w ∈ gx_Ts := List.mem_filter.mpr ⟨List.mem_append_right _ (List.mem_append_left _ (List.mem_of_getElem? h)), g⟩
theorem gx_t2 {w : Cond} (i : Nat) (h : tables_1_2[i]? = some w) (g : goodWord w = true) : w ∈ gx_Ts := List.mem_filter.mpr ⟨List.mem_append_right _ (List.mem_append_right _ (List.mem_append_left _ (List.mem_of_getElem? h))), g⟩
theorem gx_t3 {w : Cond} (i : Nat) (h : tables_1_3[i]? = some w) (g : goodWord w = true) : w ∈ gx_Ts := List.mem_filter.mpr ⟨List.mem_append_right _ (List.mem_append_right _ (List.mem_append_right _ (List.mem_of_getElem? h))), g⟩
theorem gx_tp {y : MethodName} {n : Nat} (h : (y, n) ∈ lw_privs) : Cond.selects y.cls y y ∈ gx_Ts := List.mem_filter.mpr ⟨List.mem_append_left _ (List.mem_map.mpr ⟨(y, n), h, rfl⟩), rfl⟩
theorem wi_L : Cond.initialized RL ∈ gx_Ts := gx_t1 0 (by decide +kernel) rfl
theorem wi_X5 : Cond.initialized RX5 ∈ gx_Ts := gx_t1 1 (by decide +kernel) rfl
theorem wi_X0 : Cond.initialized RX0 ∈ gx_Ts := gx_t1 2 (by decide +kernel) rfl
theorem wi_J9 : Cond.initialized RJ9 ∈ gx_Ts := gx_t1 3 (by decide +kernel) rfl
theorem wi_X1 : Cond.initialized RX1 ∈ gx_Ts := gx_t1 4 (by decide +kernel) rfl
theorem wi_J7 : Cond.initialized RJ7 ∈ gx_Ts := gx_t1 5 (by decide +kernel) rfl
theorem wi_X6 : Cond.initialized RX6 ∈ gx_Ts := gx_t1 6 (by decide +kernel) rfl
theorem wi_X3 : Cond.initialized RX3 ∈ gx_Ts := gx_t1 7 (by decide +kernel) rfl
theorem wi_X4 : Cond.initialized RX4 ∈ gx_Ts := gx_t1 8 (by decide +kernel) rfl
theorem wi_X2 : Cond.initialized RX2 ∈ gx_Ts := gx_t1 9 (by decide +kernel) rfl
theorem wi_J6 : Cond.initialized RJ6 ∈ gx_Ts := gx_t1 10 (by decide +kernel) rfl
theorem wc_L_7 : Cond.classLink RL 7 RX5 ∈ gx_Ts := gx_t1 11 (by decide +kernel) rfl
theorem wn_X5 : Cond.instantiable RX5 9 ∈ gx_Ts := gx_t1 12 (by decide +kernel) rfl
theorem wm_L_15 : Cond.methodLink RL 15 yX5_init ∈ gx_Ts := gx_t1 13 (by decide +kernel) rfl
theorem wy_X5_init : Cond.instanceMethod yX5_init ∈ gx_Ts := gx_t1 14 (by decide +kernel) rfl
theorem wk_X5_init : Cond.code yX5_init cX5_init 4 (Option.none : Option Jvm.ClassFile.FieldType) ∈ gx_Ts := gx_t1 15 (rfl) rfl
theorem wm_X5_3 : Cond.methodLink RX5 3 objectInit ∈ gx_Ts := gx_t1 16 (by decide +kernel) rfl
theorem wy_O : Cond.instanceMethod objectInit ∈ gx_Ts := gx_t1 17 (by decide +kernel) rfl
theorem wk_O : Cond.code objectInit ⟨#[0xb1]⟩ 1 none ∈ gx_Ts := gx_t1 18 (by decide +kernel) rfl
theorem wc_X5_16 : Cond.classLink RX5 16 RX3 ∈ gx_Ts := gx_t1 19 (by decide +kernel) rfl
theorem wo_X3 : Cond.arrayOver (.object RX3) ∈ lw_tbl := List.mem_append_right _ (List.mem_append_left _ (List.mem_of_getElem? (i := 20) (by decide +kernel)))
theorem wc_X5_22 : Cond.classLink RX5 22 RX0 ∈ gx_Ts := gx_t1 21 (by decide +kernel) rfl
theorem wn_X0 : Cond.instantiable RX0 2 ∈ gx_Ts := gx_t1 22 (by decide +kernel) rfl
theorem wq_nest : Cond.methodLinkNest RX5 24 yX0_init RX5 ∈ lw_tbl := List.mem_append_right _ (List.mem_append_left _ (List.mem_of_getElem? (i := 23) (by decide +kernel)))
theorem wy_X0_init : Cond.instanceMethod yX0_init ∈ gx_Ts := gx_t1 24 (by decide +kernel) rfl
theorem wk_X0_init : Cond.code yX0_init cX0_init 1 (Option.none : Option Jvm.ClassFile.FieldType) ∈ gx_Ts := gx_t1 25 (rfl) rfl
theorem wm_X0_3 : Cond.methodLink RX0 3 objectInit ∈ gx_Ts := gx_t1 26 (by decide +kernel) rfl
theorem wc_X0_9 : Cond.classLink RX0 9 RX2 ∈ gx_Ts := gx_t1 27 (by decide +kernel) rfl
theorem wo_X2 : Cond.arrayOver (.object RX2) ∈ lw_tbl := List.mem_append_right _ (List.mem_append_left _ (List.mem_of_getElem? (i := 28) (by decide +kernel)))
theorem wf_X0_11 : Cond.fieldLink RX0 11 RX0 "row" "[LGroupOrder$Message;" ∈ gx_Ts := gx_t1 29 (by decide +kernel) rfl
theorem wf_X5_103 : Cond.fieldLink RX5 103 RX0 "row" "[LGroupOrder$Message;" ∈ gx_Ts := gx_t1 30 (by decide +kernel) rfl
theorem wf_X0_17 : Cond.fieldLink RX0 17 RX0 "size" "I" ∈ gx_Ts := gx_t1 31 (by decide +kernel) rfl
theorem wf_X5_131 : Cond.fieldLink RX5 131 RX0 "size" "I" ∈ gx_Ts := gx_t1 32 (by decide +kernel) rfl
theorem wa_int : Cond.arrayClass Jvm.ClassFile.FieldType.int ∈ gx_Ts := gx_t1 38 (by decide +kernel) rfl
theorem wm_X5_35 : Cond.methodLink RX5 35 yJ9_min_7cf53 ∈ gx_Ts := gx_t1 39 (by decide +kernel) rfl
theorem ws_J9_min_7cf53 : Cond.static yJ9_min_7cf53 ∈ gx_Ts := gx_t1 40 (by decide +kernel) rfl
theorem wk_J9_min_7cf53 : Cond.code yJ9_min_7cf53 cJ9_min_7cf53 2 (Option.some Jvm.ClassFile.FieldType.int) ∈ gx_Ts := gx_t1 41 (rfl) rfl
theorem wm_X5_41 : Cond.methodLink RX5 41 yJ9_max_7cf53 ∈ gx_Ts := gx_t1 42 (by decide +kernel) rfl
theorem ws_J9_max_7cf53 : Cond.static yJ9_max_7cf53 ∈ gx_Ts := gx_t1 43 (by decide +kernel) rfl
theorem wk_J9_max_7cf53 : Cond.code yJ9_max_7cf53 cJ9_max_7cf53 2 (Option.some Jvm.ClassFile.FieldType.int) ∈ gx_Ts := gx_t1 44 (rfl) rfl
theorem wc_X5_44 : Cond.classLink RX5 44 RX1 ∈ gx_Ts := gx_t1 45 (by decide +kernel) rfl
theorem wo_X1 : Cond.arrayOver (.object RX1) ∈ lw_tbl := List.mem_append_right _ (List.mem_append_left _ (List.mem_of_getElem? (i := 46) (by decide +kernel)))
theorem wn_X1 : Cond.instantiable RX1 7 ∈ gx_Ts := gx_t1 47 (by decide +kernel) rfl
theorem wm_X5_50 : Cond.methodLink RX5 50 yX1_init ∈ gx_Ts := gx_t1 48 (by decide +kernel) rfl
theorem wy_X1_init : Cond.instanceMethod yX1_init ∈ gx_Ts := gx_t1 49 (by decide +kernel) rfl
theorem wk_X1_init : Cond.code yX1_init cX1_init 2 (Option.none : Option Jvm.ClassFile.FieldType) ∈ gx_Ts := gx_t1 50 (rfl) rfl
theorem wm_X1_3 : Cond.methodLink RX1 3 objectInit ∈ gx_Ts := gx_t1 51 (by decide +kernel) rfl
theorem wc_X1_15 : Cond.classLink RX1 15 RX4 ∈ gx_Ts := gx_t1 52 (by decide +kernel) rfl
theorem wo_X4 : Cond.arrayOver (.object RX4) ∈ lw_tbl := List.mem_append_right _ (List.mem_append_left _ (List.mem_of_getElem? (i := 53) (by decide +kernel)))
theorem wf_X1_24 : Cond.fieldLink RX1 24 RX1 "number" "I" ∈ gx_Ts := gx_t1 54 (by decide +kernel) rfl
theorem wf_X5_208 : Cond.fieldLink RX5 208 RX1 "number" "I" ∈ gx_Ts := gx_t1 55 (by decide +kernel) rfl
theorem wf_X1_9 : Cond.fieldLink RX1 9 RX1 "isUp" "Z" ∈ gx_Ts := gx_t1 56 (by decide +kernel) rfl
theorem wf_X5_96 : Cond.fieldLink RX5 96 RX1 "isUp" "Z" ∈ gx_Ts := gx_t1 57 (by decide +kernel) rfl
theorem wf_X1_34 : Cond.fieldLink RX1 34 RX1 "clockTime" "I" ∈ gx_Ts := gx_t1 58 (by decide +kernel) rfl
theorem wf_X5_168 : Cond.fieldLink RX5 168 RX1 "clockTime" "I" ∈ gx_Ts := gx_t1 59 (by decide +kernel) rfl
theorem wf_X1_17 : Cond.fieldLink RX1 17 RX1 "parts" "[LGroupOrder$Part;" ∈ gx_Ts := gx_t1 60 (by decide +kernel) rfl
theorem wf_X5_153 : Cond.fieldLink RX5 153 RX1 "parts" "[LGroupOrder$Part;" ∈ gx_Ts := gx_t1 61 (by decide +kernel) rfl
theorem wf_X1_21 : Cond.fieldLink RX1 21 RX1 "takenParts" "[LGroupOrder$Part;" ∈ gx_Ts := gx_t1 62 (by decide +kernel) rfl
theorem wf_X5_137 : Cond.fieldLink RX5 137 RX1 "takenParts" "[LGroupOrder$Part;" ∈ gx_Ts := gx_t1 63 (by decide +kernel) rfl
theorem wf_X1_63 : Cond.fieldLink RX1 63 RX1 "takenCount" "I" ∈ gx_Ts := gx_t1 64 (by decide +kernel) rfl
theorem wf_X5_134 : Cond.fieldLink RX5 134 RX1 "takenCount" "I" ∈ gx_Ts := gx_t1 65 (by decide +kernel) rfl
theorem wf_X5_253 : Cond.fieldLink RX5 253 RX1 "workedOutCount" "I" ∈ gx_Ts := gx_t1 66 (by decide +kernel) rfl
theorem wm_X5_53 : Cond.methodLink RX5 53 yJ7_fill_53178 ∈ gx_Ts := gx_t1 82 (by decide +kernel) rfl
theorem ws_J7_fill_53178 : Cond.static yJ7_fill_53178 ∈ gx_Ts := gx_t1 83 (by decide +kernel) rfl
theorem wk_J7_fill_53178 : Cond.code yJ7_fill_53178 cJ7_fill_53178 4 (Option.none : Option Jvm.ClassFile.FieldType) ∈ gx_Ts := gx_t1 84 (rfl) rfl
theorem wf_X5_46 : Cond.fieldLink RX5 46 RX5 "groups" "[LGroupOrder$Group;" ∈ gx_Ts := gx_t1 85 (by decide +kernel) rfl
theorem wf_X5_9 : Cond.fieldLink RX5 9 RX5 "values" "[I" ∈ gx_Ts := gx_t1 86 (by decide +kernel) rfl
theorem wf_X5_13 : Cond.fieldLink RX5 13 RX5 "clientTimes" "[I" ∈ gx_Ts := gx_t1 87 (by decide +kernel) rfl
theorem wf_X5_18 : Cond.fieldLink RX5 18 RX5 "orders" "[LGroupOrder$Order;" ∈ gx_Ts := gx_t1 88 (by decide +kernel) rfl
theorem wf_X5_25 : Cond.fieldLink RX5 25 RX5 "flights" "LGroupOrder$Flights;" ∈ gx_Ts := gx_t1 89 (by decide +kernel) rfl
theorem wf_X5_59 : Cond.fieldLink RX5 59 RX5 "orderCount" "I" ∈ gx_Ts := gx_t1 90 (by decide +kernel) rfl
theorem wf_X5_184 : Cond.fieldLink RX5 184 RX5 "broughtCount" "I" ∈ gx_Ts := gx_t1 91 (by decide +kernel) rfl
theorem wf_X5_29 : Cond.fieldLink RX5 29 RX5 "serialValues" "[I" ∈ gx_Ts := gx_t1 92 (by decide +kernel) rfl
theorem wf_X5_32 : Cond.fieldLink RX5 32 RX5 "dueValues" "[I" ∈ gx_Ts := gx_t1 93 (by decide +kernel) rfl
theorem wm_L_21 : Cond.methodLink RL 21 yX5_send ∈ gx_Ts := gx_t1 113 (by decide +kernel) rfl
theorem wy_X5_send : Cond.instanceMethod yX5_send ∈ gx_Ts := gx_t1 114 (by decide +kernel) rfl
theorem wl_X5_send : Cond.selects RX5 yX5_send yX5_send ∈ gx_Ts := gx_t1 115 (by decide +kernel) rfl
theorem wk_X5_send : Cond.code yX5_send cX5_send 7 (Option.some Jvm.ClassFile.FieldType.int) ∈ gx_Ts := gx_t1 116 (rfl) rfl
theorem wm_X5_63 : Cond.methodLink RX5 63 yX5_isOrder ∈ gx_Ts := gx_t1 117 (by decide +kernel) rfl
theorem ws_X5_isOrder : Cond.static yX5_isOrder ∈ gx_Ts := gx_t1 118 (by decide +kernel) rfl
theorem wk_X5_isOrder : Cond.code yX5_isOrder cX5_isOrder 5 (Option.some Jvm.ClassFile.FieldType.boolean) ∈ gx_Ts := gx_t1 119 (rfl) rfl
theorem wm_X5_171 : Cond.methodLink RX5 171 yX5_isClient ∈ gx_Ts := gx_t1 120 (by decide +kernel) rfl
theorem ws_X5_isClient : Cond.static yX5_isClient ∈ gx_Ts := gx_t1 121 (by decide +kernel) rfl
theorem wk_X5_isClient : Cond.code yX5_isClient cX5_isClient 1 (Option.some Jvm.ClassFile.FieldType.boolean) ∈ gx_Ts := gx_t1 122 (rfl) rfl
theorem wm_X5_165 : Cond.methodLink RX5 165 yX5_isKey ∈ gx_Ts := gx_t1 123 (by decide +kernel) rfl
theorem ws_X5_isKey : Cond.static yX5_isKey ∈ gx_Ts := gx_t1 124 (by decide +kernel) rfl
theorem wk_X5_isKey : Cond.code yX5_isKey cX5_isKey 1 (Option.some Jvm.ClassFile.FieldType.boolean) ∈ gx_Ts := gx_t1 125 (rfl) rfl
theorem wt_X5_194 : Cond.constant RX5 194 (1000000 : Int32) ∈ gx_Ts := gx_t1 126 (by decide +kernel) rfl
theorem wn_X3 : Cond.instantiable RX3 10 ∈ gx_Ts := gx_t1 127 (by decide +kernel) rfl
theorem wm_X5_67 : Cond.methodLink RX5 67 yX3_init ∈ gx_Ts := gx_t1 128 (by decide +kernel) rfl
theorem wy_X3_init : Cond.instanceMethod yX3_init ∈ gx_Ts := gx_t1 129 (by decide +kernel) rfl
theorem wk_X3_init : Cond.code yX3_init cX3_init 7 (Option.none : Option Jvm.ClassFile.FieldType) ∈ gx_Ts := gx_t1 130 (rfl) rfl
theorem wm_X3_3 : Cond.methodLink RX3 3 objectInit ∈ gx_Ts := gx_t1 131 (by decide +kernel) rfl
theorem wf_X3_9 : Cond.fieldLink RX3 9 RX3 "number" "I" ∈ gx_Ts := gx_t1 132 (by decide +kernel) rfl
theorem wf_X1_31 : Cond.fieldLink RX1 31 RX3 "number" "I" ∈ gx_Ts := gx_t1 133 (by decide +kernel) rfl
theorem wf_X5_85 : Cond.fieldLink RX5 85 RX3 "number" "I" ∈ gx_Ts := gx_t1 134 (by decide +kernel) rfl
theorem wf_X4_46 : Cond.fieldLink RX4 46 RX3 "number" "I" ∈ gx_Ts := gx_t1 135 (by decide +kernel) rfl
theorem wf_X3_15 : Cond.fieldLink RX3 15 RX3 "client" "I" ∈ gx_Ts := gx_t1 136 (by decide +kernel) rfl
theorem wf_X5_195 : Cond.fieldLink RX5 195 RX3 "client" "I" ∈ gx_Ts := gx_t1 137 (by decide +kernel) rfl
theorem wf_X3_18 : Cond.fieldLink RX3 18 RX3 "kind" "I" ∈ gx_Ts := gx_t1 138 (by decide +kernel) rfl
theorem wf_X3_21 : Cond.fieldLink RX3 21 RX3 "a" "I" ∈ gx_Ts := gx_t1 139 (by decide +kernel) rfl
theorem wf_X5_198 : Cond.fieldLink RX5 198 RX3 "a" "I" ∈ gx_Ts := gx_t1 140 (by decide +kernel) rfl
theorem wf_X3_24 : Cond.fieldLink RX3 24 RX3 "b" "I" ∈ gx_Ts := gx_t1 141 (by decide +kernel) rfl
theorem wf_X5_205 : Cond.fieldLink RX5 205 RX3 "b" "I" ∈ gx_Ts := gx_t1 142 (by decide +kernel) rfl
theorem wf_X3_27 : Cond.fieldLink RX3 27 RX3 "c" "I" ∈ gx_Ts := gx_t1 143 (by decide +kernel) rfl
theorem wf_X5_70 : Cond.fieldLink RX5 70 RX3 "clientTime" "I" ∈ gx_Ts := gx_t1 144 (by decide +kernel) rfl
theorem wf_X1_41 : Cond.fieldLink RX1 41 RX3 "clientTime" "I" ∈ gx_Ts := gx_t1 145 (by decide +kernel) rfl
theorem wf_X5_77 : Cond.fieldLink RX5 77 RX3 "answeredBefore" "J" ∈ gx_Ts := gx_t1 146 (by decide +kernel) rfl
theorem wf_X5_150 : Cond.fieldLink RX5 150 RX3 "isAnswered" "Z" ∈ gx_Ts := gx_t1 147 (by decide +kernel) rfl
theorem wf_X5_144 : Cond.fieldLink RX5 144 RX3 "result" "I" ∈ gx_Ts := gx_t1 148 (by decide +kernel) rfl
theorem wm_X5_73 : Cond.methodLink RX5 73 yX5_answeredOrdersOf ∈ gx_Ts := gx_t1 170 (by decide +kernel) rfl
theorem wy_X5_answeredOrdersOf : Cond.instanceMethod yX5_answeredOrdersOf ∈ gx_Ts := gx_t1 172 (by decide +kernel) rfl
theorem wk_X5_answeredOrdersOf : Cond.code yX5_answeredOrdersOf cX5_answeredOrdersOf 5 (Option.some Jvm.ClassFile.FieldType.long) ∈ gx_Ts := gx_t1 173 (rfl) rfl
theorem wm_X5_81 : Cond.methodLink RX5 81 yX5_putStarts ∈ gx_Ts := gx_t1 174 (by decide +kernel) rfl
theorem wy_X5_putStarts : Cond.instanceMethod yX5_putStarts ∈ gx_Ts := gx_t1 176 (by decide +kernel) rfl
theorem wk_X5_putStarts : Cond.code yX5_putStarts cX5_putStarts 7 (Option.none : Option Jvm.ClassFile.FieldType) ∈ gx_Ts := gx_t1 177 (rfl) rfl
theorem wm_X5_201 : Cond.methodLink RX5 201 yX5_keeperOf ∈ gx_Ts := gx_t1 178 (by decide +kernel) rfl
theorem wy_X5_keeperOf : Cond.instanceMethod yX5_keeperOf ∈ gx_Ts := gx_t1 180 (by decide +kernel) rfl
theorem wk_X5_keeperOf : Cond.code yX5_keeperOf cX5_keeperOf 2 (Option.some (Jvm.ClassFile.FieldType.object "GroupOrder$Group")) ∈ gx_Ts := gx_t1 181 (rfl) rfl
theorem wm_X5_209 : Cond.methodLink RX5 209 yX1_partFor ∈ gx_Ts := gx_t1 182 (by decide +kernel) rfl
theorem wy_X1_partFor : Cond.instanceMethod yX1_partFor ∈ gx_Ts := gx_t1 183 (by decide +kernel) rfl
theorem wl_X1_partFor : Cond.selects RX1 yX1_partFor yX1_partFor ∈ gx_Ts := gx_t1 184 (by decide +kernel) rfl
theorem wk_X1_partFor : Cond.code yX1_partFor cX1_partFor 3 (Option.some (Jvm.ClassFile.FieldType.object "GroupOrder$Part")) ∈ gx_Ts := gx_t1 185 (rfl) rfl
theorem wn_X4 : Cond.instantiable RX4 11 ∈ gx_Ts := gx_t1 186 (by decide +kernel) rfl
theorem wm_X1_28 : Cond.methodLink RX1 28 yX4_init ∈ gx_Ts := gx_t1 187 (by decide +kernel) rfl
theorem wy_X4_init : Cond.instanceMethod yX4_init ∈ gx_Ts := gx_t1 188 (by decide +kernel) rfl
theorem wk_X4_init : Cond.code yX4_init cX4_init 3 (Option.none : Option Jvm.ClassFile.FieldType) ∈ gx_Ts := gx_t1 189 (rfl) rfl
theorem wm_X4_3 : Cond.methodLink RX4 3 objectInit ∈ gx_Ts := gx_t1 190 (by decide +kernel) rfl
theorem wf_X4_21 : Cond.fieldLink RX4 21 RX4 "order" "LGroupOrder$Order;" ∈ gx_Ts := gx_t1 191 (by decide +kernel) rfl
theorem wf_X1_37 : Cond.fieldLink RX1 37 RX4 "order" "LGroupOrder$Order;" ∈ gx_Ts := gx_t1 192 (by decide +kernel) rfl
theorem wf_X5_116 : Cond.fieldLink RX5 116 RX4 "order" "LGroupOrder$Order;" ∈ gx_Ts := gx_t1 193 (by decide +kernel) rfl
theorem wf_X4_25 : Cond.fieldLink RX4 25 RX4 "group" "I" ∈ gx_Ts := gx_t1 194 (by decide +kernel) rfl
theorem wf_X5_125 : Cond.fieldLink RX5 125 RX4 "group" "I" ∈ gx_Ts := gx_t1 195 (by decide +kernel) rfl
theorem wf_X4_28 : Cond.fieldLink RX4 28 RX4 "other" "LGroupOrder$Part;" ∈ gx_Ts := gx_t1 196 (by decide +kernel) rfl
theorem wf_X5_220 : Cond.fieldLink RX5 220 RX4 "other" "LGroupOrder$Part;" ∈ gx_Ts := gx_t1 197 (by decide +kernel) rfl
theorem wf_X4_9 : Cond.fieldLink RX4 9 RX4 "localTime" "I" ∈ gx_Ts := gx_t1 198 (by decide +kernel) rfl
theorem wf_X1_50 : Cond.fieldLink RX1 50 RX4 "localTime" "I" ∈ gx_Ts := gx_t1 199 (by decide +kernel) rfl
theorem wf_X5_156 : Cond.fieldLink RX5 156 RX4 "localTime" "I" ∈ gx_Ts := gx_t1 200 (by decide +kernel) rfl
theorem wf_X4_15 : Cond.fieldLink RX4 15 RX4 "otherLocalTime" "I" ∈ gx_Ts := gx_t1 201 (by decide +kernel) rfl
theorem wf_X1_60 : Cond.fieldLink RX1 60 RX4 "otherLocalTime" "I" ∈ gx_Ts := gx_t1 202 (by decide +kernel) rfl
theorem wf_X5_240 : Cond.fieldLink RX5 240 RX4 "otherLocalTime" "I" ∈ gx_Ts := gx_t1 203 (by decide +kernel) rfl
theorem wf_X4_18 : Cond.fieldLink RX4 18 RX4 "finalTime" "I" ∈ gx_Ts := gx_t1 204 (by decide +kernel) rfl
theorem wf_X1_53 : Cond.fieldLink RX1 53 RX4 "finalTime" "I" ∈ gx_Ts := gx_t1 205 (by decide +kernel) rfl
theorem wf_X5_159 : Cond.fieldLink RX5 159 RX4 "finalTime" "I" ∈ gx_Ts := gx_t1 206 (by decide +kernel) rfl
theorem wf_X4_32 : Cond.fieldLink RX4 32 RX4 "isTaken" "Z" ∈ gx_Ts := gx_t1 207 (by decide +kernel) rfl
theorem wf_X1_70 : Cond.fieldLink RX1 70 RX4 "isTaken" "Z" ∈ gx_Ts := gx_t1 208 (by decide +kernel) rfl
theorem wf_X5_262 : Cond.fieldLink RX5 262 RX4 "wasValueSent" "Z" ∈ gx_Ts := gx_t1 209 (by decide +kernel) rfl
theorem wf_X5_246 : Cond.fieldLink RX5 246 RX4 "hasOtherValue" "Z" ∈ gx_Ts := gx_t1 210 (by decide +kernel) rfl
theorem wf_X5_243 : Cond.fieldLink RX5 243 RX4 "otherValue" "I" ∈ gx_Ts := gx_t1 211 (by decide +kernel) rfl
theorem wf_X5_162 : Cond.fieldLink RX5 162 RX4 "isWorkedOut" "Z" ∈ gx_Ts := gx_t1 212 (by decide +kernel) rfl
theorem wc_X5_108 : Cond.classLink RX5 108 RX2 ∈ gx_Ts := gx_t1 236 (by decide +kernel) rfl
theorem wn_X2 : Cond.instantiable RX2 4 ∈ gx_Ts := gx_t1 237 (by decide +kernel) rfl
theorem wm_X5_213 : Cond.methodLink RX5 213 yX2_init ∈ gx_Ts := gx_t1 238 (by decide +kernel) rfl
theorem wy_X2_init : Cond.instanceMethod yX2_init ∈ gx_Ts := gx_t1 239 (by decide +kernel) rfl
theorem wk_X2_init : Cond.code yX2_init cX2_init 5 (Option.none : Option Jvm.ClassFile.FieldType) ∈ gx_Ts := gx_t2 0 (rfl) rfl
theorem wm_X2_1 : Cond.methodLink RX2 1 objectInit ∈ gx_Ts := gx_t2 1 (by decide +kernel) rfl
theorem wf_X2_7 : Cond.fieldLink RX2 7 RX2 "kind" "I" ∈ gx_Ts := gx_t2 2 (by decide +kernel) rfl
theorem wf_X5_107 : Cond.fieldLink RX5 107 RX2 "kind" "I" ∈ gx_Ts := gx_t2 3 (by decide +kernel) rfl
theorem wf_X2_13 : Cond.fieldLink RX2 13 RX2 "from" "I" ∈ gx_Ts := gx_t2 4 (by decide +kernel) rfl
theorem wf_X5_122 : Cond.fieldLink RX5 122 RX2 "from" "I" ∈ gx_Ts := gx_t2 5 (by decide +kernel) rfl
theorem wf_X2_16 : Cond.fieldLink RX2 16 RX2 "to" "LGroupOrder$Part;" ∈ gx_Ts := gx_t2 6 (by decide +kernel) rfl
theorem wf_X5_112 : Cond.fieldLink RX5 112 RX2 "to" "LGroupOrder$Part;" ∈ gx_Ts := gx_t2 7 (by decide +kernel) rfl
theorem wf_X2_20 : Cond.fieldLink RX2 20 RX2 "content" "I" ∈ gx_Ts := gx_t2 8 (by decide +kernel) rfl
theorem wf_X5_128 : Cond.fieldLink RX5 128 RX2 "content" "I" ∈ gx_Ts := gx_t2 9 (by decide +kernel) rfl
theorem wm_X5_216 : Cond.methodLink RX5 216 yX0_put ∈ gx_Ts := gx_t2 19 (by decide +kernel) rfl
theorem wy_X0_put : Cond.instanceMethod yX0_put ∈ gx_Ts := gx_t2 20 (by decide +kernel) rfl
theorem wl_X0_put : Cond.selects RX0 yX0_put yX0_put ∈ gx_Ts := gx_t2 21 (by decide +kernel) rfl
theorem wk_X0_put : Cond.code yX0_put cX0_put 2 (Option.none : Option Jvm.ClassFile.FieldType) ∈ gx_Ts := gx_t2 22 (rfl) rfl
theorem wm_L_26 : Cond.methodLink RL 26 yX5_bring ∈ gx_Ts := gx_t2 23 (by decide +kernel) rfl
theorem wy_X5_bring : Cond.instanceMethod yX5_bring ∈ gx_Ts := gx_t2 24 (by decide +kernel) rfl
theorem wl_X5_bring : Cond.selects RX5 yX5_bring yX5_bring ∈ gx_Ts := gx_t2 25 (by decide +kernel) rfl
theorem wk_X5_bring : Cond.code yX5_bring cX5_bring 2 (Option.some Jvm.ClassFile.FieldType.int) ∈ gx_Ts := gx_t2 26 (rfl) rfl
theorem wm_X5_88 : Cond.methodLink RX5 88 yX5_deliver ∈ gx_Ts := gx_t2 27 (by decide +kernel) rfl
theorem wy_X5_deliver : Cond.instanceMethod yX5_deliver ∈ gx_Ts := gx_t2 29 (by decide +kernel) rfl
theorem wk_X5_deliver : Cond.code yX5_deliver cX5_deliver 5 (Option.some Jvm.ClassFile.FieldType.int) ∈ gx_Ts := gx_t2 30 (rfl) rfl
theorem wm_X5_100 : Cond.methodLink RX5 100 yX0_has ∈ gx_Ts := gx_t2 31 (by decide +kernel) rfl
theorem wy_X0_has : Cond.instanceMethod yX0_has ∈ gx_Ts := gx_t2 32 (by decide +kernel) rfl
theorem wl_X0_has : Cond.selects RX0 yX0_has yX0_has ∈ gx_Ts := gx_t2 33 (by decide +kernel) rfl
theorem wk_X0_has : Cond.code yX0_has cX0_has 2 (Option.some Jvm.ClassFile.FieldType.boolean) ∈ gx_Ts := gx_t2 34 (rfl) rfl
theorem wm_X5_223 : Cond.methodLink RX5 223 yX0_drop ∈ gx_Ts := gx_t2 35 (by decide +kernel) rfl
theorem wy_X0_drop : Cond.instanceMethod yX0_drop ∈ gx_Ts := gx_t2 36 (by decide +kernel) rfl
theorem wl_X0_drop : Cond.selects RX0 yX0_drop yX0_drop ∈ gx_Ts := gx_t2 37 (by decide +kernel) rfl
theorem wk_X0_drop : Cond.code yX0_drop cX0_drop 3 (Option.none : Option Jvm.ClassFile.FieldType) ∈ gx_Ts := gx_t2 38 (rfl) rfl
theorem wm_X5_226 : Cond.methodLink RX5 226 yX5_receive ∈ gx_Ts := gx_t2 39 (by decide +kernel) rfl
theorem wy_X5_receive : Cond.instanceMethod yX5_receive ∈ gx_Ts := gx_t2 41 (by decide +kernel) rfl
theorem wk_X5_receive : Cond.code yX5_receive cX5_receive 4 (Option.none : Option Jvm.ClassFile.FieldType) ∈ gx_Ts := gx_t2 42 (rfl) rfl
theorem wm_X5_249 : Cond.methodLink RX5 249 yX1_start ∈ gx_Ts := gx_t2 43 (by decide +kernel) rfl
theorem wy_X1_start : Cond.instanceMethod yX1_start ∈ gx_Ts := gx_t2 44 (by decide +kernel) rfl
theorem wl_X1_start : Cond.selects RX1 yX1_start yX1_start ∈ gx_Ts := gx_t2 45 (by decide +kernel) rfl
theorem wk_X1_start : Cond.code yX1_start cX1_start 2 (Option.none : Option Jvm.ClassFile.FieldType) ∈ gx_Ts := gx_t2 46 (rfl) rfl
theorem wm_X1_44 : Cond.methodLink RX1 44 yJ9_max_7cf53 ∈ gx_Ts := gx_t2 47 (by decide +kernel) rfl
theorem wm_X5_230 : Cond.methodLink RX5 230 yX1_makeFinal ∈ gx_Ts := gx_t2 48 (by decide +kernel) rfl
theorem wy_X1_makeFinal : Cond.instanceMethod yX1_makeFinal ∈ gx_Ts := gx_t2 49 (by decide +kernel) rfl
theorem wl_X1_makeFinal : Cond.selects RX1 yX1_makeFinal yX1_makeFinal ∈ gx_Ts := gx_t2 50 (by decide +kernel) rfl
theorem wk_X1_makeFinal : Cond.code yX1_makeFinal cX1_makeFinal 3 (Option.none : Option Jvm.ClassFile.FieldType) ∈ gx_Ts := gx_t2 51 (rfl) rfl
theorem wm_X1_56 : Cond.methodLink RX1 56 yX4_hasAllLocalTimes ∈ gx_Ts := gx_t2 52 (by decide +kernel) rfl
theorem wy_X4_hasAllLocalTimes : Cond.instanceMethod yX4_hasAllLocalTimes ∈ gx_Ts := gx_t2 53 (by decide +kernel) rfl
theorem wl_X4_hasAllLocalTimes : Cond.selects RX4 yX4_hasAllLocalTimes yX4_hasAllLocalTimes ∈ gx_Ts := gx_t2 54 (by decide +kernel) rfl
theorem wk_X4_hasAllLocalTimes : Cond.code yX4_hasAllLocalTimes cX4_hasAllLocalTimes 1 (Option.some Jvm.ClassFile.FieldType.boolean) ∈ gx_Ts := gx_t2 55 (rfl) rfl
theorem wm_X5_233 : Cond.methodLink RX5 233 yX1_takeAll ∈ gx_Ts := gx_t2 56 (by decide +kernel) rfl
theorem wy_X1_takeAll : Cond.instanceMethod yX1_takeAll ∈ gx_Ts := gx_t2 57 (by decide +kernel) rfl
theorem wl_X1_takeAll : Cond.selects RX1 yX1_takeAll yX1_takeAll ∈ gx_Ts := gx_t2 58 (by decide +kernel) rfl
theorem wk_X1_takeAll : Cond.code yX1_takeAll cX1_takeAll 3 (Option.none : Option Jvm.ClassFile.FieldType) ∈ gx_Ts := gx_t2 59 (rfl) rfl
theorem wm_X1_66 : Cond.methodLink RX1 66 yX1_earliestWaiting ∈ gx_Ts := gx_t2 60 (by decide +kernel) rfl
theorem wy_X1_earliestWaiting : Cond.instanceMethod yX1_earliestWaiting ∈ gx_Ts := gx_t2 62 (by decide +kernel) rfl
theorem wk_X1_earliestWaiting : Cond.code yX1_earliestWaiting cX1_earliestWaiting 5 (Option.some (Jvm.ClassFile.FieldType.object "GroupOrder$Part")) ∈ gx_Ts := gx_t2 63 (rfl) rfl
theorem wm_X1_73 : Cond.methodLink RX1 73 yX4_waits ∈ gx_Ts := gx_t2 64 (by decide +kernel) rfl
theorem wy_X4_waits : Cond.instanceMethod yX4_waits ∈ gx_Ts := gx_t2 65 (by decide +kernel) rfl
theorem wl_X4_waits : Cond.selects RX4 yX4_waits yX4_waits ∈ gx_Ts := gx_t2 66 (by decide +kernel) rfl
theorem wk_X4_waits : Cond.code yX4_waits cX4_waits 1 (Option.some Jvm.ClassFile.FieldType.boolean) ∈ gx_Ts := gx_t2 67 (rfl) rfl
theorem wm_X1_76 : Cond.methodLink RX1 76 yX4_isEarlierThan ∈ gx_Ts := gx_t2 68 (by decide +kernel) rfl
theorem wy_X4_isEarlierThan : Cond.instanceMethod yX4_isEarlierThan ∈ gx_Ts := gx_t2 69 (by decide +kernel) rfl
theorem wl_X4_isEarlierThan : Cond.selects RX4 yX4_isEarlierThan yX4_isEarlierThan ∈ gx_Ts := gx_t2 70 (by decide +kernel) rfl
theorem wk_X4_isEarlierThan : Cond.code yX4_isEarlierThan cX4_isEarlierThan 3 (Option.some Jvm.ClassFile.FieldType.boolean) ∈ gx_Ts := gx_t2 71 (rfl) rfl
theorem wm_X4_36 : Cond.methodLink RX4 36 yX4_leastTime ∈ gx_Ts := gx_t2 72 (by decide +kernel) rfl
theorem wy_X4_leastTime : Cond.instanceMethod yX4_leastTime ∈ gx_Ts := gx_t2 74 (by decide +kernel) rfl
theorem wk_X4_leastTime : Cond.code yX4_leastTime cX4_leastTime 1 (Option.some Jvm.ClassFile.FieldType.int) ∈ gx_Ts := gx_t2 75 (rfl) rfl
theorem wm_X4_40 : Cond.methodLink RX4 40 yJ6_compare_7cf53 ∈ gx_Ts := gx_t2 76 (by decide +kernel) rfl
theorem ws_J6_compare_7cf53 : Cond.static yJ6_compare_7cf53 ∈ gx_Ts := gx_t2 77 (by decide +kernel) rfl
theorem wk_J6_compare_7cf53 : Cond.code yJ6_compare_7cf53 cJ6_compare_7cf53 2 (Option.some Jvm.ClassFile.FieldType.int) ∈ gx_Ts := gx_t2 78 (rfl) rfl
theorem wm_X5_236 : Cond.methodLink RX5 236 yX5_workOutAll ∈ gx_Ts := gx_t2 79 (by decide +kernel) rfl
theorem wy_X5_workOutAll : Cond.instanceMethod yX5_workOutAll ∈ gx_Ts := gx_t2 81 (by decide +kernel) rfl
theorem wk_X5_workOutAll : Cond.code yX5_workOutAll cX5_workOutAll 4 (Option.none : Option Jvm.ClassFile.FieldType) ∈ gx_Ts := gx_t2 82 (rfl) rfl
theorem wm_X5_256 : Cond.methodLink RX5 256 yX5_putValues ∈ gx_Ts := gx_t2 83 (by decide +kernel) rfl
theorem wy_X5_putValues : Cond.instanceMethod yX5_putValues ∈ gx_Ts := gx_t2 85 (by decide +kernel) rfl
theorem wk_X5_putValues : Cond.code yX5_putValues cX5_putValues 4 (Option.none : Option Jvm.ClassFile.FieldType) ∈ gx_Ts := gx_t2 86 (rfl) rfl
theorem wm_X5_259 : Cond.methodLink RX5 259 yX5_workOut ∈ gx_Ts := gx_t2 87 (by decide +kernel) rfl
theorem wy_X5_workOut : Cond.instanceMethod yX5_workOut ∈ gx_Ts := gx_t2 89 (by decide +kernel) rfl
theorem wk_X5_workOut : Cond.code yX5_workOut cX5_workOut 7 (Option.none : Option Jvm.ClassFile.FieldType) ∈ gx_Ts := gx_t2 90 (rfl) rfl
theorem wm_X5_265 : Cond.methodLink RX5 265 yX3_behindB ∈ gx_Ts := gx_t2 91 (by decide +kernel) rfl
theorem wy_X3_behindB : Cond.instanceMethod yX3_behindB ∈ gx_Ts := gx_t2 92 (by decide +kernel) rfl
theorem wl_X3_behindB : Cond.selects RX3 yX3_behindB yX3_behindB ∈ gx_Ts := gx_t2 93 (by decide +kernel) rfl
theorem wk_X3_behindB : Cond.code yX3_behindB cX3_behindB 3 (Option.some Jvm.ClassFile.FieldType.int) ∈ gx_Ts := gx_t2 94 (rfl) rfl
theorem wm_X3_30 : Cond.methodLink RX3 30 yX3_isMoved ∈ gx_Ts := gx_t2 95 (by decide +kernel) rfl
theorem wy_X3_isMoved : Cond.instanceMethod yX3_isMoved ∈ gx_Ts := gx_t2 96 (by decide +kernel) rfl
theorem wl_X3_isMoved : Cond.selects RX3 yX3_isMoved yX3_isMoved ∈ gx_Ts := gx_t2 97 (by decide +kernel) rfl
theorem wk_X3_isMoved : Cond.code yX3_isMoved cX3_isMoved 2 (Option.some Jvm.ClassFile.FieldType.boolean) ∈ gx_Ts := gx_t2 98 (rfl) rfl
theorem wm_X5_268 : Cond.methodLink RX5 268 yX3_behindA ∈ gx_Ts := gx_t2 99 (by decide +kernel) rfl
theorem wy_X3_behindA : Cond.instanceMethod yX3_behindA ∈ gx_Ts := gx_t2 100 (by decide +kernel) rfl
theorem wl_X3_behindA : Cond.selects RX3 yX3_behindA yX3_behindA ∈ gx_Ts := gx_t2 101 (by decide +kernel) rfl
theorem wk_X3_behindA : Cond.code yX3_behindA cX3_behindA 3 (Option.some Jvm.ClassFile.FieldType.int) ∈ gx_Ts := gx_t2 102 (rfl) rfl
theorem wm_X5_271 : Cond.methodLink RX5 271 yX3_reply ∈ gx_Ts := gx_t2 103 (by decide +kernel) rfl
theorem wy_X3_reply : Cond.instanceMethod yX3_reply ∈ gx_Ts := gx_t2 104 (by decide +kernel) rfl
theorem wl_X3_reply : Cond.selects RX3 yX3_reply yX3_reply ∈ gx_Ts := gx_t2 105 (by decide +kernel) rfl
theorem wk_X3_reply : Cond.code yX3_reply cX3_reply 3 (Option.some Jvm.ClassFile.FieldType.int) ∈ gx_Ts := gx_t2 106 (rfl) rfl
theorem wm_X3_34 : Cond.methodLink RX3 34 yX3_behindA ∈ gx_Ts := gx_t2 107 (by decide +kernel) rfl
theorem wm_L_31 : Cond.methodLink RL 31 yX5_twice ∈ gx_Ts := gx_t2 108 (by decide +kernel) rfl
theorem wy_X5_twice : Cond.instanceMethod yX5_twice ∈ gx_Ts := gx_t2 109 (by decide +kernel) rfl
theorem wl_X5_twice : Cond.selects RX5 yX5_twice yX5_twice ∈ gx_Ts := gx_t2 110 (by decide +kernel) rfl
theorem wk_X5_twice : Cond.code yX5_twice cX5_twice 2 (Option.some Jvm.ClassFile.FieldType.int) ∈ gx_Ts := gx_t2 111 (rfl) rfl
theorem wm_L_35 : Cond.methodLink RL 35 yX5_up ∈ gx_Ts := gx_t2 112 (by decide +kernel) rfl
theorem wy_X5_up : Cond.instanceMethod yX5_up ∈ gx_Ts := gx_t2 113 (by decide +kernel) rfl
theorem wl_X5_up : Cond.selects RX5 yX5_up yX5_up ∈ gx_Ts := gx_t2 114 (by decide +kernel) rfl
theorem wk_X5_up : Cond.code yX5_up cX5_up 3 (Option.some Jvm.ClassFile.FieldType.boolean) ∈ gx_Ts := gx_t2 115 (rfl) rfl
theorem wm_X5_92 : Cond.methodLink RX5 92 yX5_isGroup ∈ gx_Ts := gx_t2 116 (by decide +kernel) rfl
theorem wy_X5_isGroup : Cond.instanceMethod yX5_isGroup ∈ gx_Ts := gx_t2 118 (by decide +kernel) rfl
theorem wk_X5_isGroup : Cond.code yX5_isGroup cX5_isGroup 2 (Option.some Jvm.ClassFile.FieldType.boolean) ∈ gx_Ts := gx_t2 119 (rfl) rfl
theorem wm_L_40 : Cond.methodLink RL 40 yX5_flight ∈ gx_Ts := gx_t2 120 (by decide +kernel) rfl
theorem wy_X5_flight : Cond.instanceMethod yX5_flight ∈ gx_Ts := gx_t2 121 (by decide +kernel) rfl
theorem wl_X5_flight : Cond.selects RX5 yX5_flight yX5_flight ∈ gx_Ts := gx_t2 122 (by decide +kernel) rfl
theorem wk_X5_flight : Cond.code yX5_flight cX5_flight 4 (Option.some Jvm.ClassFile.FieldType.int) ∈ gx_Ts := gx_t2 123 (rfl) rfl
theorem wm_L_45 : Cond.methodLink RL 45 yX5_flying ∈ gx_Ts := gx_t2 124 (by decide +kernel) rfl
theorem wy_X5_flying : Cond.instanceMethod yX5_flying ∈ gx_Ts := gx_t2 125 (by decide +kernel) rfl
theorem wl_X5_flying : Cond.selects RX5 yX5_flying yX5_flying ∈ gx_Ts := gx_t2 126 (by decide +kernel) rfl
theorem wk_X5_flying : Cond.code yX5_flying cX5_flying 1 (Option.some Jvm.ClassFile.FieldType.int) ∈ gx_Ts := gx_t2 127 (rfl) rfl
theorem wm_L_50 : Cond.methodLink RL 50 yX5_taken ∈ gx_Ts := gx_t2 128 (by decide +kernel) rfl
theorem wy_X5_taken : Cond.instanceMethod yX5_taken ∈ gx_Ts := gx_t2 129 (by decide +kernel) rfl
theorem wl_X5_taken : Cond.selects RX5 yX5_taken yX5_taken ∈ gx_Ts := gx_t2 130 (by decide +kernel) rfl
theorem wk_X5_taken : Cond.code yX5_taken cX5_taken 3 (Option.some Jvm.ClassFile.FieldType.int) ∈ gx_Ts := gx_t2 131 (rfl) rfl
theorem wm_L_54 : Cond.methodLink RL 54 yX5_answer ∈ gx_Ts := gx_t2 132 (by decide +kernel) rfl
theorem wy_X5_answer : Cond.instanceMethod yX5_answer ∈ gx_Ts := gx_t2 133 (by decide +kernel) rfl
theorem wl_X5_answer : Cond.selects RX5 yX5_answer yX5_answer ∈ gx_Ts := gx_t2 134 (by decide +kernel) rfl
theorem wk_X5_answer : Cond.code yX5_answer cX5_answer 2 (Option.some Jvm.ClassFile.FieldType.int) ∈ gx_Ts := gx_t2 135 (rfl) rfl
theorem wm_X5_141 : Cond.methodLink RX5 141 yX5_answered ∈ gx_Ts := gx_t2 136 (by decide +kernel) rfl
theorem wy_X5_answered : Cond.instanceMethod yX5_answered ∈ gx_Ts := gx_t2 137 (by decide +kernel) rfl
theorem wl_X5_answered : Cond.selects RX5 yX5_answered yX5_answered ∈ gx_Ts := gx_t2 138 (by decide +kernel) rfl
theorem wk_X5_answered : Cond.code yX5_answered cX5_answered 2 (Option.some Jvm.ClassFile.FieldType.boolean) ∈ gx_Ts := gx_t2 139 (rfl) rfl
theorem wm_X5_147 : Cond.methodLink RX5 147 yX5_hasOrder ∈ gx_Ts := gx_t2 140 (by decide +kernel) rfl
theorem wy_X5_hasOrder : Cond.instanceMethod yX5_hasOrder ∈ gx_Ts := gx_t2 142 (by decide +kernel) rfl
theorem wk_X5_hasOrder : Cond.code yX5_hasOrder cX5_hasOrder 2 (Option.some Jvm.ClassFile.FieldType.boolean) ∈ gx_Ts := gx_t2 143 (rfl) rfl
theorem wm_L_58 : Cond.methodLink RL 58 yX5_answered ∈ gx_Ts := gx_t2 144 (by decide +kernel) rfl
theorem wm_L_63 : Cond.methodLink RL 63 yX5_time ∈ gx_Ts := gx_t2 145 (by decide +kernel) rfl
theorem wy_X5_time : Cond.instanceMethod yX5_time ∈ gx_Ts := gx_t2 146 (by decide +kernel) rfl
theorem wl_X5_time : Cond.selects RX5 yX5_time yX5_time ∈ gx_Ts := gx_t2 147 (by decide +kernel) rfl
theorem wk_X5_time : Cond.code yX5_time cX5_time 5 (Option.some Jvm.ClassFile.FieldType.int) ∈ gx_Ts := gx_t2 148 (rfl) rfl
theorem wm_L_68 : Cond.methodLink RL 68 yX5_value ∈ gx_Ts := gx_t2 149 (by decide +kernel) rfl
theorem wy_X5_value : Cond.instanceMethod yX5_value ∈ gx_Ts := gx_t2 150 (by decide +kernel) rfl
theorem wl_X5_value : Cond.selects RX5 yX5_value yX5_value ∈ gx_Ts := gx_t2 151 (by decide +kernel) rfl
theorem wk_X5_value : Cond.code yX5_value cX5_value 2 (Option.some Jvm.ClassFile.FieldType.int) ∈ gx_Ts := gx_t2 152 (rfl) rfl
theorem wm_L_72 : Cond.methodLink RL 72 yX5_clock ∈ gx_Ts := gx_t2 153 (by decide +kernel) rfl
theorem wy_X5_clock : Cond.instanceMethod yX5_clock ∈ gx_Ts := gx_t2 154 (by decide +kernel) rfl
theorem wl_X5_clock : Cond.selects RX5 yX5_clock yX5_clock ∈ gx_Ts := gx_t2 155 (by decide +kernel) rfl
theorem wk_X5_clock : Cond.code yX5_clock cX5_clock 2 (Option.some Jvm.ClassFile.FieldType.int) ∈ gx_Ts := gx_t2 156 (rfl) rfl
theorem wm_L_76 : Cond.methodLink RL 76 yX5_seen ∈ gx_Ts := gx_t2 157 (by decide +kernel) rfl
theorem wy_X5_seen : Cond.instanceMethod yX5_seen ∈ gx_Ts := gx_t2 158 (by decide +kernel) rfl
theorem wl_X5_seen : Cond.selects RX5 yX5_seen yX5_seen ∈ gx_Ts := gx_t2 159 (by decide +kernel) rfl
theorem wk_X5_seen : Cond.code yX5_seen cX5_seen 2 (Option.some Jvm.ClassFile.FieldType.int) ∈ gx_Ts := gx_t2 160 (rfl) rfl
theorem wm_L_80 : Cond.methodLink RL 80 yX5_agree ∈ gx_Ts := gx_t2 161 (by decide +kernel) rfl
theorem wy_X5_agree : Cond.instanceMethod yX5_agree ∈ gx_Ts := gx_t2 162 (by decide +kernel) rfl
theorem wl_X5_agree : Cond.selects RX5 yX5_agree yX5_agree ∈ gx_Ts := gx_t2 163 (by decide +kernel) rfl
theorem wk_X5_agree : Cond.code yX5_agree cX5_agree 1 (Option.some Jvm.ClassFile.FieldType.boolean) ∈ gx_Ts := gx_t2 164 (rfl) rfl
theorem wm_X5_174 : Cond.methodLink RX5 174 yX5_groupsTookInOrder ∈ gx_Ts := gx_t2 165 (by decide +kernel) rfl
theorem wy_X5_groupsTookInOrder : Cond.instanceMethod yX5_groupsTookInOrder ∈ gx_Ts := gx_t2 167 (by decide +kernel) rfl
theorem wk_X5_groupsTookInOrder : Cond.code yX5_groupsTookInOrder cX5_groupsTookInOrder 4 (Option.some Jvm.ClassFile.FieldType.boolean) ∈ gx_Ts := gx_t2 168 (rfl) rfl
theorem wm_X5_278 : Cond.methodLink RX5 278 yX5_isBehind ∈ gx_Ts := gx_t2 169 (by decide +kernel) rfl
theorem wy_X5_isBehind : Cond.instanceMethod yX5_isBehind ∈ gx_Ts := gx_t2 171 (by decide +kernel) rfl
theorem wk_X5_isBehind : Cond.code yX5_isBehind cX5_isBehind 4 (Option.some Jvm.ClassFile.FieldType.boolean) ∈ gx_Ts := gx_t2 172 (rfl) rfl
theorem wm_X5_282 : Cond.methodLink RX5 282 yX5_finalTimeOf ∈ gx_Ts := gx_t2 173 (by decide +kernel) rfl
theorem wy_X5_finalTimeOf : Cond.instanceMethod yX5_finalTimeOf ∈ gx_Ts := gx_t2 175 (by decide +kernel) rfl
theorem wk_X5_finalTimeOf : Cond.code yX5_finalTimeOf cX5_finalTimeOf 4 (Option.some Jvm.ClassFile.FieldType.int) ∈ gx_Ts := gx_t2 176 (rfl) rfl
theorem wm_X5_294 : Cond.methodLink RX5 294 yJ6_compare_7cf53 ∈ gx_Ts := gx_t2 177 (by decide +kernel) rfl
theorem wm_X5_178 : Cond.methodLink RX5 178 yX5_clientsWereFollowed ∈ gx_Ts := gx_t2 178 (by decide +kernel) rfl
theorem wy_X5_clientsWereFollowed : Cond.instanceMethod yX5_clientsWereFollowed ∈ gx_Ts := gx_t2 180 (by decide +kernel) rfl
theorem wk_X5_clientsWereFollowed : Cond.code yX5_clientsWereFollowed cX5_clientsWereFollowed 4 (Option.some Jvm.ClassFile.FieldType.boolean) ∈ gx_Ts := gx_t2 181 (rfl) rfl
theorem wm_X5_181 : Cond.methodLink RX5 181 yX5_replayGivesTheSame ∈ gx_Ts := gx_t2 182 (by decide +kernel) rfl
theorem wy_X5_replayGivesTheSame : Cond.instanceMethod yX5_replayGivesTheSame ∈ gx_Ts := gx_t2 184 (by decide +kernel) rfl
theorem wk_X5_replayGivesTheSame : Cond.code yX5_replayGivesTheSame cX5_replayGivesTheSame 3 (Option.some Jvm.ClassFile.FieldType.boolean) ∈ gx_Ts := gx_t2 185 (rfl) rfl
theorem wm_X5_286 : Cond.methodLink RX5 286 yX5_nextAnswered ∈ gx_Ts := gx_t2 186 (by decide +kernel) rfl
theorem wy_X5_nextAnswered : Cond.instanceMethod yX5_nextAnswered ∈ gx_Ts := gx_t2 188 (by decide +kernel) rfl
theorem wk_X5_nextAnswered : Cond.code yX5_nextAnswered cX5_nextAnswered 6 (Option.some (Jvm.ClassFile.FieldType.object "GroupOrder$Order")) ∈ gx_Ts := gx_t2 189 (rfl) rfl
theorem wm_X5_290 : Cond.methodLink RX5 290 yX5_replayAnswersTheSame ∈ gx_Ts := gx_t2 190 (by decide +kernel) rfl
theorem wy_X5_replayAnswersTheSame : Cond.instanceMethod yX5_replayAnswersTheSame ∈ gx_Ts := gx_t2 192 (by decide +kernel) rfl
theorem wk_X5_replayAnswersTheSame : Cond.code yX5_replayAnswersTheSame cX5_replayAnswersTheSame 4 (Option.some Jvm.ClassFile.FieldType.boolean) ∈ gx_Ts := gx_t2 193 (rfl) rfl
theorem wm_X5_274 : Cond.methodLink RX5 274 yX5_isWorkedOutAt ∈ gx_Ts := gx_t2 194 (by decide +kernel) rfl
theorem wy_X5_isWorkedOutAt : Cond.instanceMethod yX5_isWorkedOutAt ∈ gx_Ts := gx_t2 196 (by decide +kernel) rfl
theorem wk_X5_isWorkedOutAt : Cond.code yX5_isWorkedOutAt cX5_isWorkedOutAt 4 (Option.some Jvm.ClassFile.FieldType.boolean) ∈ gx_Ts := gx_t2 197 (rfl) rfl
theorem wm_L_85 : Cond.methodLink RL 85 yX5_count ∈ gx_Ts := gx_t2 198 (by decide +kernel) rfl
theorem wy_X5_count : Cond.instanceMethod yX5_count ∈ gx_Ts := gx_t2 199 (by decide +kernel) rfl
theorem wl_X5_count : Cond.selects RX5 yX5_count yX5_count ∈ gx_Ts := gx_t2 200 (by decide +kernel) rfl
theorem wk_X5_count : Cond.code yX5_count cX5_count 2 (Option.some Jvm.ClassFile.FieldType.int) ∈ gx_Ts := gx_t2 201 (rfl) rfl
theorem wm_X5_187 : Cond.methodLink RX5 187 yX5_countAnswered ∈ gx_Ts := gx_t2 202 (by decide +kernel) rfl
theorem wy_X5_countAnswered : Cond.instanceMethod yX5_countAnswered ∈ gx_Ts := gx_t2 204 (by decide +kernel) rfl
theorem wk_X5_countAnswered : Cond.code yX5_countAnswered cX5_countAnswered 3 (Option.some Jvm.ClassFile.FieldType.int) ∈ gx_Ts := gx_t2 205 (rfl) rfl
theorem wm_X5_191 : Cond.methodLink RX5 191 yX5_countWorkedOutByAll ∈ gx_Ts := gx_t2 206 (by decide +kernel) rfl
theorem wy_X5_countWorkedOutByAll : Cond.instanceMethod yX5_countWorkedOutByAll ∈ gx_Ts := gx_t2 208 (by decide +kernel) rfl
theorem wk_X5_countWorkedOutByAll : Cond.code yX5_countWorkedOutByAll cX5_countWorkedOutByAll 3 (Option.some Jvm.ClassFile.FieldType.int) ∈ gx_Ts := gx_t2 209 (rfl) rfl
theorem wm_L_9 : Cond.methodLink RL 9 yL_cell ∈ gx_Ts := gx_t2 210 (by decide +kernel) rfl
theorem ws_L_cell : Cond.static yL_cell ∈ gx_Ts := gx_t2 211 (by decide +kernel) rfl
theorem wk_L_cell : Cond.code yL_cell cL_cell 2 (Option.some Jvm.ClassFile.FieldType.int) ∈ gx_Ts := gx_t2 212 (rfl) rfl
theorem wc_L_18 : Cond.classLink RL 18 RX6 ∈ gx_Ts := gx_t2 213 (by decide +kernel) rfl
theorem wn_X6 : Cond.instantiable RX6 34 ∈ gx_Ts := gx_t2 214 (by decide +kernel) rfl
theorem wm_L_20 : Cond.methodLink RL 20 yX6_init ∈ gx_Ts := gx_t2 215 (by decide +kernel) rfl
theorem wy_X6_init : Cond.instanceMethod yX6_init ∈ gx_Ts := gx_t2 216 (by decide +kernel) rfl
theorem wk_X6_init : Cond.code yX6_init cX6_init 3 (Option.none : Option Jvm.ClassFile.FieldType) ∈ gx_Ts := gx_t2 217 (rfl) rfl
theorem wm_X6_1 : Cond.methodLink RX6 1 objectInit ∈ gx_Ts := gx_t2 218 (by decide +kernel) rfl
theorem wf_X6_101 : Cond.fieldLink RX6 101 RX6 "groups" "I" ∈ gx_Ts := gx_t2 219 (by decide +kernel) rfl
theorem wf_X6_7 : Cond.fieldLink RX6 7 RX6 "clocks" "[I" ∈ gx_Ts := gx_t2 220 (by decide +kernel) rfl
theorem wf_X6_13 : Cond.fieldLink RX6 13 RX6 "down" "[Z" ∈ gx_Ts := gx_t2 221 (by decide +kernel) rfl
theorem wf_X6_17 : Cond.fieldLink RX6 17 RX6 "values" "[I" ∈ gx_Ts := gx_t2 222 (by decide +kernel) rfl
theorem wf_X6_124 : Cond.fieldLink RX6 124 RX6 "orders" "I" ∈ gx_Ts := gx_t2 223 (by decide +kernel) rfl
theorem wf_X6_20 : Cond.fieldLink RX6 20 RX6 "clients" "[I" ∈ gx_Ts := gx_t2 224 (by decide +kernel) rfl
theorem wf_X6_23 : Cond.fieldLink RX6 23 RX6 "kinds" "[I" ∈ gx_Ts := gx_t2 225 (by decide +kernel) rfl
theorem wf_X6_26 : Cond.fieldLink RX6 26 RX6 "as" "[I" ∈ gx_Ts := gx_t2 226 (by decide +kernel) rfl
theorem wf_X6_29 : Cond.fieldLink RX6 29 RX6 "bs" "[I" ∈ gx_Ts := gx_t2 227 (by decide +kernel) rfl
theorem wf_X6_32 : Cond.fieldLink RX6 32 RX6 "cs" "[I" ∈ gx_Ts := gx_t2 228 (by decide +kernel) rfl
theorem wf_X6_35 : Cond.fieldLink RX6 35 RX6 "sentAt" "[I" ∈ gx_Ts := gx_t2 229 (by decide +kernel) rfl
theorem wf_X6_38 : Cond.fieldLink RX6 38 RX6 "answered" "[Z" ∈ gx_Ts := gx_t2 230 (by decide +kernel) rfl
theorem wf_X6_41 : Cond.fieldLink RX6 41 RX6 "answers" "[I" ∈ gx_Ts := gx_t2 231 (by decide +kernel) rfl
theorem wf_X6_44 : Cond.fieldLink RX6 44 RX6 "times" "[I" ∈ gx_Ts := gx_t2 232 (by decide +kernel) rfl
theorem wf_X6_47 : Cond.fieldLink RX6 47 RX6 "started" "[Z" ∈ gx_Ts := gx_t2 233 (by decide +kernel) rfl
theorem wf_X6_50 : Cond.fieldLink RX6 50 RX6 "finals" "[I" ∈ gx_Ts := gx_t2 234 (by decide +kernel) rfl
theorem wf_X6_53 : Cond.fieldLink RX6 53 RX6 "isTaken" "[Z" ∈ gx_Ts := gx_t2 235 (by decide +kernel) rfl
theorem wf_X6_56 : Cond.fieldLink RX6 56 RX6 "sent" "[Z" ∈ gx_Ts := gx_t2 236 (by decide +kernel) rfl
theorem wf_X6_59 : Cond.fieldLink RX6 59 RX6 "worked" "[Z" ∈ gx_Ts := gx_t2 237 (by decide +kernel) rfl
theorem wf_X6_62 : Cond.fieldLink RX6 62 RX6 "locals" "[I" ∈ gx_Ts := gx_t2 238 (by decide +kernel) rfl
theorem wf_X6_65 : Cond.fieldLink RX6 65 RX6 "came" "[Z" ∈ gx_Ts := gx_t2 239 (by decide +kernel) rfl
theorem wf_X6_68 : Cond.fieldLink RX6 68 RX6 "cameA" "[I" ∈ gx_Ts := gx_t3 0 (by decide +kernel) rfl
theorem wf_X6_71 : Cond.fieldLink RX6 71 RX6 "cameB" "[I" ∈ gx_Ts := gx_t3 1 (by decide +kernel) rfl
theorem wf_X6_74 : Cond.fieldLink RX6 74 RX6 "takenCount" "[I" ∈ gx_Ts := gx_t3 2 (by decide +kernel) rfl
theorem wf_X6_77 : Cond.fieldLink RX6 77 RX6 "takenRow" "[I" ∈ gx_Ts := gx_t3 3 (by decide +kernel) rfl
theorem wf_X6_109 : Cond.fieldLink RX6 109 RX6 "flying" "I" ∈ gx_Ts := gx_t3 4 (by decide +kernel) rfl
theorem wf_X6_80 : Cond.fieldLink RX6 80 RX6 "kindOf" "[I" ∈ gx_Ts := gx_t3 5 (by decide +kernel) rfl
theorem wf_X6_83 : Cond.fieldLink RX6 83 RX6 "orderOf" "[I" ∈ gx_Ts := gx_t3 6 (by decide +kernel) rfl
theorem wf_X6_86 : Cond.fieldLink RX6 86 RX6 "fromOf" "[I" ∈ gx_Ts := gx_t3 7 (by decide +kernel) rfl
theorem wf_X6_89 : Cond.fieldLink RX6 89 RX6 "toOf" "[I" ∈ gx_Ts := gx_t3 8 (by decide +kernel) rfl
theorem wf_X6_92 : Cond.fieldLink RX6 92 RX6 "timeOf" "[I" ∈ gx_Ts := gx_t3 9 (by decide +kernel) rfl
theorem wf_X6_95 : Cond.fieldLink RX6 95 RX6 "aOf" "[I" ∈ gx_Ts := gx_t3 10 (by decide +kernel) rfl
theorem wf_X6_98 : Cond.fieldLink RX6 98 RX6 "bOf" "[I" ∈ gx_Ts := gx_t3 11 (by decide +kernel) rfl
theorem wf_X6_139 : Cond.fieldLink RX6 139 RX6 "brought" "I" ∈ gx_Ts := gx_t3 12 (by decide +kernel) rfl
theorem wa_boolean : Cond.arrayClass Jvm.ClassFile.FieldType.boolean ∈ gx_Ts := gx_t3 82 (by decide +kernel) rfl
theorem wm_L_25 : Cond.methodLink RL 25 yX6_send ∈ gx_Ts := gx_t3 83 (by decide +kernel) rfl
theorem wy_X6_send : Cond.instanceMethod yX6_send ∈ gx_Ts := gx_t3 84 (by decide +kernel) rfl
theorem wl_X6_send : Cond.selects RX6 yX6_send yX6_send ∈ gx_Ts := gx_t3 85 (by decide +kernel) rfl
theorem wk_X6_send : Cond.code yX6_send cX6_send 7 (Option.some Jvm.ClassFile.FieldType.int) ∈ gx_Ts := gx_t3 86 (rfl) rfl
theorem wm_X6_120 : Cond.methodLink RX6 120 yX6_isIn ∈ gx_Ts := gx_t3 87 (by decide +kernel) rfl
theorem ws_X6_isIn : Cond.static yX6_isIn ∈ gx_Ts := gx_t3 88 (by decide +kernel) rfl
theorem wk_X6_isIn : Cond.code yX6_isIn cX6_isIn 2 (Option.some Jvm.ClassFile.FieldType.boolean) ∈ gx_Ts := gx_t3 89 (rfl) rfl
theorem wt_X6_123 : Cond.constant RX6 123 (1000000 : Int32) ∈ gx_Ts := gx_t3 90 (by decide +kernel) rfl
theorem wm_X6_127 : Cond.methodLink RX6 127 yX6_putOthers ∈ gx_Ts := gx_t3 91 (by decide +kernel) rfl
theorem wy_X6_putOthers : Cond.instanceMethod yX6_putOthers ∈ gx_Ts := gx_t3 93 (by decide +kernel) rfl
theorem wk_X6_putOthers : Cond.code yX6_putOthers cX6_putOthers 6 (Option.none : Option Jvm.ClassFile.FieldType) ∈ gx_Ts := gx_t3 94 (rfl) rfl
theorem wm_X6_112 : Cond.methodLink RX6 112 yX6_isOf ∈ gx_Ts := gx_t3 95 (by decide +kernel) rfl
theorem wy_X6_isOf : Cond.instanceMethod yX6_isOf ∈ gx_Ts := gx_t3 97 (by decide +kernel) rfl
theorem wk_X6_isOf : Cond.code yX6_isOf cX6_isOf 3 (Option.some Jvm.ClassFile.FieldType.boolean) ∈ gx_Ts := gx_t3 98 (rfl) rfl
theorem wm_X6_116 : Cond.methodLink RX6 116 yX6_put ∈ gx_Ts := gx_t3 99 (by decide +kernel) rfl
theorem wy_X6_put : Cond.instanceMethod yX6_put ∈ gx_Ts := gx_t3 101 (by decide +kernel) rfl
theorem wk_X6_put : Cond.code yX6_put cX6_put 6 (Option.none : Option Jvm.ClassFile.FieldType) ∈ gx_Ts := gx_t3 102 (rfl) rfl
theorem wm_L_30 : Cond.methodLink RL 30 yX6_bring ∈ gx_Ts := gx_t3 103 (by decide +kernel) rfl
theorem wy_X6_bring : Cond.instanceMethod yX6_bring ∈ gx_Ts := gx_t3 104 (by decide +kernel) rfl
theorem wl_X6_bring : Cond.selects RX6 yX6_bring yX6_bring ∈ gx_Ts := gx_t3 105 (by decide +kernel) rfl
theorem wk_X6_bring : Cond.code yX6_bring cX6_bring 3 (Option.some Jvm.ClassFile.FieldType.int) ∈ gx_Ts := gx_t3 106 (rfl) rfl
theorem wm_X6_155 : Cond.methodLink RX6 155 yX6_move ∈ gx_Ts := gx_t3 107 (by decide +kernel) rfl
theorem wy_X6_move : Cond.instanceMethod yX6_move ∈ gx_Ts := gx_t3 109 (by decide +kernel) rfl
theorem wk_X6_move : Cond.code yX6_move cX6_move 3 (Option.none : Option Jvm.ClassFile.FieldType) ∈ gx_Ts := gx_t3 110 (rfl) rfl
theorem wm_X6_158 : Cond.methodLink RX6 158 yX6_comes ∈ gx_Ts := gx_t3 111 (by decide +kernel) rfl
theorem wy_X6_comes : Cond.instanceMethod yX6_comes ∈ gx_Ts := gx_t3 113 (by decide +kernel) rfl
theorem wk_X6_comes : Cond.code yX6_comes cX6_comes 5 (Option.none : Option Jvm.ClassFile.FieldType) ∈ gx_Ts := gx_t3 114 (rfl) rfl
theorem wm_X6_135 : Cond.methodLink RX6 135 yX6_comesStart ∈ gx_Ts := gx_t3 115 (by decide +kernel) rfl
theorem wy_X6_comesStart : Cond.instanceMethod yX6_comesStart ∈ gx_Ts := gx_t3 117 (by decide +kernel) rfl
theorem wk_X6_comesStart : Cond.code yX6_comesStart cX6_comesStart 3 (Option.none : Option Jvm.ClassFile.FieldType) ∈ gx_Ts := gx_t3 118 (rfl) rfl
theorem wm_X6_105 : Cond.methodLink RX6 105 yX6_at ∈ gx_Ts := gx_t3 119 (by decide +kernel) rfl
theorem ws_X6_at : Cond.static yX6_at ∈ gx_Ts := gx_t3 120 (by decide +kernel) rfl
theorem wk_X6_at : Cond.code yX6_at cX6_at 2 (Option.some Jvm.ClassFile.FieldType.int) ∈ gx_Ts := gx_t3 121 (rfl) rfl
theorem wm_X6_131 : Cond.methodLink RX6 131 yX6_of ∈ gx_Ts := gx_t3 122 (by decide +kernel) rfl
theorem ws_X6_of : Cond.static yX6_of ∈ gx_Ts := gx_t3 123 (by decide +kernel) rfl
theorem wk_X6_of : Cond.code yX6_of cX6_of 3 (Option.some Jvm.ClassFile.FieldType.int) ∈ gx_Ts := gx_t3 124 (rfl) rfl
theorem wm_X6_142 : Cond.methodLink RX6 142 yX6_makesFinal ∈ gx_Ts := gx_t3 125 (by decide +kernel) rfl
theorem wy_X6_makesFinal : Cond.instanceMethod yX6_makesFinal ∈ gx_Ts := gx_t3 127 (by decide +kernel) rfl
theorem wk_X6_makesFinal : Cond.code yX6_makesFinal cX6_makesFinal 7 (Option.some Jvm.ClassFile.FieldType.boolean) ∈ gx_Ts := gx_t3 128 (rfl) rfl
theorem wm_X6_146 : Cond.methodLink RX6 146 yX6_takes ∈ gx_Ts := gx_t3 129 (by decide +kernel) rfl
theorem wy_X6_takes : Cond.instanceMethod yX6_takes ∈ gx_Ts := gx_t3 131 (by decide +kernel) rfl
theorem wk_X6_takes : Cond.code yX6_takes cX6_takes 6 (Option.some Jvm.ClassFile.FieldType.boolean) ∈ gx_Ts := gx_t3 132 (rfl) rfl
theorem wm_X6_149 : Cond.methodLink RX6 149 yX6_works ∈ gx_Ts := gx_t3 133 (by decide +kernel) rfl
theorem wy_X6_works : Cond.instanceMethod yX6_works ∈ gx_Ts := gx_t3 135 (by decide +kernel) rfl
theorem wk_X6_works : Cond.code yX6_works cX6_works 5 (Option.some Jvm.ClassFile.FieldType.boolean) ∈ gx_Ts := gx_t3 136 (rfl) rfl
theorem wm_X6_152 : Cond.methodLink RX6 152 yX6_workOut ∈ gx_Ts := gx_t3 137 (by decide +kernel) rfl
theorem wy_X6_workOut : Cond.instanceMethod yX6_workOut ∈ gx_Ts := gx_t3 139 (by decide +kernel) rfl
theorem wk_X6_workOut : Cond.code yX6_workOut cX6_workOut 9 (Option.none : Option Jvm.ClassFile.FieldType) ∈ gx_Ts := gx_t3 140 (rfl) rfl
theorem wm_L_34 : Cond.methodLink RL 34 yX6_twice ∈ gx_Ts := gx_t3 141 (by decide +kernel) rfl
theorem wy_X6_twice : Cond.instanceMethod yX6_twice ∈ gx_Ts := gx_t3 142 (by decide +kernel) rfl
theorem wl_X6_twice : Cond.selects RX6 yX6_twice yX6_twice ∈ gx_Ts := gx_t3 143 (by decide +kernel) rfl
theorem wk_X6_twice : Cond.code yX6_twice cX6_twice 2 (Option.some Jvm.ClassFile.FieldType.int) ∈ gx_Ts := gx_t3 144 (rfl) rfl
theorem wm_L_39 : Cond.methodLink RL 39 yX6_up ∈ gx_Ts := gx_t3 145 (by decide +kernel) rfl
theorem wy_X6_up : Cond.instanceMethod yX6_up ∈ gx_Ts := gx_t3 146 (by decide +kernel) rfl
theorem wl_X6_up : Cond.selects RX6 yX6_up yX6_up ∈ gx_Ts := gx_t3 147 (by decide +kernel) rfl
theorem wk_X6_up : Cond.code yX6_up cX6_up 3 (Option.some Jvm.ClassFile.FieldType.boolean) ∈ gx_Ts := gx_t3 148 (rfl) rfl
theorem wm_L_44 : Cond.methodLink RL 44 yX6_flight ∈ gx_Ts := gx_t3 149 (by decide +kernel) rfl
theorem wy_X6_flight : Cond.instanceMethod yX6_flight ∈ gx_Ts := gx_t3 150 (by decide +kernel) rfl
theorem wl_X6_flight : Cond.selects RX6 yX6_flight yX6_flight ∈ gx_Ts := gx_t3 151 (by decide +kernel) rfl
theorem wk_X6_flight : Cond.code yX6_flight cX6_flight 3 (Option.some Jvm.ClassFile.FieldType.int) ∈ gx_Ts := gx_t3 152 (rfl) rfl
theorem wm_L_49 : Cond.methodLink RL 49 yX6_flying ∈ gx_Ts := gx_t3 153 (by decide +kernel) rfl
theorem wy_X6_flying : Cond.instanceMethod yX6_flying ∈ gx_Ts := gx_t3 154 (by decide +kernel) rfl
theorem wl_X6_flying : Cond.selects RX6 yX6_flying yX6_flying ∈ gx_Ts := gx_t3 155 (by decide +kernel) rfl
theorem wk_X6_flying : Cond.code yX6_flying cX6_flying 1 (Option.some Jvm.ClassFile.FieldType.int) ∈ gx_Ts := gx_t3 156 (rfl) rfl
theorem wm_L_53 : Cond.methodLink RL 53 yX6_taken ∈ gx_Ts := gx_t3 157 (by decide +kernel) rfl
theorem wy_X6_taken : Cond.instanceMethod yX6_taken ∈ gx_Ts := gx_t3 158 (by decide +kernel) rfl
theorem wl_X6_taken : Cond.selects RX6 yX6_taken yX6_taken ∈ gx_Ts := gx_t3 159 (by decide +kernel) rfl
theorem wk_X6_taken : Cond.code yX6_taken cX6_taken 3 (Option.some Jvm.ClassFile.FieldType.int) ∈ gx_Ts := gx_t3 160 (rfl) rfl
theorem wm_L_57 : Cond.methodLink RL 57 yX6_answer ∈ gx_Ts := gx_t3 161 (by decide +kernel) rfl
theorem wy_X6_answer : Cond.instanceMethod yX6_answer ∈ gx_Ts := gx_t3 162 (by decide +kernel) rfl
theorem wl_X6_answer : Cond.selects RX6 yX6_answer yX6_answer ∈ gx_Ts := gx_t3 163 (by decide +kernel) rfl
theorem wk_X6_answer : Cond.code yX6_answer cX6_answer 2 (Option.some Jvm.ClassFile.FieldType.int) ∈ gx_Ts := gx_t3 164 (rfl) rfl
theorem wm_L_62 : Cond.methodLink RL 62 yX6_answered ∈ gx_Ts := gx_t3 165 (by decide +kernel) rfl
theorem wy_X6_answered : Cond.instanceMethod yX6_answered ∈ gx_Ts := gx_t3 166 (by decide +kernel) rfl
theorem wl_X6_answered : Cond.selects RX6 yX6_answered yX6_answered ∈ gx_Ts := gx_t3 167 (by decide +kernel) rfl
theorem wk_X6_answered : Cond.code yX6_answered cX6_answered 2 (Option.some Jvm.ClassFile.FieldType.boolean) ∈ gx_Ts := gx_t3 168 (rfl) rfl
theorem wm_L_67 : Cond.methodLink RL 67 yX6_time ∈ gx_Ts := gx_t3 169 (by decide +kernel) rfl
theorem wy_X6_time : Cond.instanceMethod yX6_time ∈ gx_Ts := gx_t3 170 (by decide +kernel) rfl
theorem wl_X6_time : Cond.selects RX6 yX6_time yX6_time ∈ gx_Ts := gx_t3 171 (by decide +kernel) rfl
theorem wk_X6_time : Cond.code yX6_time cX6_time 5 (Option.some Jvm.ClassFile.FieldType.int) ∈ gx_Ts := gx_t3 172 (rfl) rfl
theorem wm_L_71 : Cond.methodLink RL 71 yX6_value ∈ gx_Ts := gx_t3 173 (by decide +kernel) rfl
theorem wy_X6_value : Cond.instanceMethod yX6_value ∈ gx_Ts := gx_t3 174 (by decide +kernel) rfl
theorem wl_X6_value : Cond.selects RX6 yX6_value yX6_value ∈ gx_Ts := gx_t3 175 (by decide +kernel) rfl
theorem wk_X6_value : Cond.code yX6_value cX6_value 2 (Option.some Jvm.ClassFile.FieldType.int) ∈ gx_Ts := gx_t3 176 (rfl) rfl
theorem wm_L_75 : Cond.methodLink RL 75 yX6_clock ∈ gx_Ts := gx_t3 177 (by decide +kernel) rfl
theorem wy_X6_clock : Cond.instanceMethod yX6_clock ∈ gx_Ts := gx_t3 178 (by decide +kernel) rfl
theorem wl_X6_clock : Cond.selects RX6 yX6_clock yX6_clock ∈ gx_Ts := gx_t3 179 (by decide +kernel) rfl
theorem wk_X6_clock : Cond.code yX6_clock cX6_clock 2 (Option.some Jvm.ClassFile.FieldType.int) ∈ gx_Ts := gx_t3 180 (rfl) rfl
theorem wm_L_79 : Cond.methodLink RL 79 yX6_seen ∈ gx_Ts := gx_t3 181 (by decide +kernel) rfl
theorem wy_X6_seen : Cond.instanceMethod yX6_seen ∈ gx_Ts := gx_t3 182 (by decide +kernel) rfl
theorem wl_X6_seen : Cond.selects RX6 yX6_seen yX6_seen ∈ gx_Ts := gx_t3 183 (by decide +kernel) rfl
theorem wk_X6_seen : Cond.code yX6_seen cX6_seen 2 (Option.some Jvm.ClassFile.FieldType.int) ∈ gx_Ts := gx_t3 184 (rfl) rfl
theorem wm_L_84 : Cond.methodLink RL 84 yX6_agree ∈ gx_Ts := gx_t3 185 (by decide +kernel) rfl
theorem wy_X6_agree : Cond.instanceMethod yX6_agree ∈ gx_Ts := gx_t3 186 (by decide +kernel) rfl
theorem wl_X6_agree : Cond.selects RX6 yX6_agree yX6_agree ∈ gx_Ts := gx_t3 187 (by decide +kernel) rfl
theorem wk_X6_agree : Cond.code yX6_agree cX6_agree 6 (Option.some Jvm.ClassFile.FieldType.boolean) ∈ gx_Ts := gx_t3 188 (rfl) rfl
theorem wm_L_88 : Cond.methodLink RL 88 yX6_count ∈ gx_Ts := gx_t3 189 (by decide +kernel) rfl
theorem wy_X6_count : Cond.instanceMethod yX6_count ∈ gx_Ts := gx_t3 190 (by decide +kernel) rfl
theorem wl_X6_count : Cond.selects RX6 yX6_count yX6_count ∈ gx_Ts := gx_t3 191 (by decide +kernel) rfl
theorem wk_X6_count : Cond.code yX6_count cX6_count 4 (Option.some Jvm.ClassFile.FieldType.int) ∈ gx_Ts := gx_t3 192 (rfl) rfl
theorem wm_X6_162 : Cond.methodLink RX6 162 yX6_doneCount ∈ gx_Ts := gx_t3 193 (by decide +kernel) rfl
theorem wy_X6_doneCount : Cond.instanceMethod yX6_doneCount ∈ gx_Ts := gx_t3 195 (by decide +kernel) rfl
theorem wk_X6_doneCount : Cond.code yX6_doneCount cX6_doneCount 5 (Option.some Jvm.ClassFile.FieldType.int) ∈ gx_Ts := gx_t3 196 (rfl) rfl
theorem wl_X5_answeredOrdersOf : Cond.selects RX5 yX5_answeredOrdersOf yX5_answeredOrdersOf ∈ gx_Ts := gx_tp (n := 9) (List.mem_append_left _ (List.mem_of_getElem? (i := 0) rfl))
theorem wl_X5_putStarts : Cond.selects RX5 yX5_putStarts yX5_putStarts ∈ gx_Ts := gx_tp (n := 9) (List.mem_append_left _ (List.mem_of_getElem? (i := 1) rfl))
theorem wl_X5_keeperOf : Cond.selects RX5 yX5_keeperOf yX5_keeperOf ∈ gx_Ts := gx_tp (n := 9) (List.mem_append_left _ (List.mem_of_getElem? (i := 2) rfl))
theorem wl_X5_deliver : Cond.selects RX5 yX5_deliver yX5_deliver ∈ gx_Ts := gx_tp (n := 9) (List.mem_append_left _ (List.mem_of_getElem? (i := 3) rfl))
theorem wl_X5_receive : Cond.selects RX5 yX5_receive yX5_receive ∈ gx_Ts := gx_tp (n := 9) (List.mem_append_left _ (List.mem_of_getElem? (i := 4) rfl))
theorem wl_X1_earliestWaiting : Cond.selects RX1 yX1_earliestWaiting yX1_earliestWaiting ∈ gx_Ts := gx_tp (n := 7) (List.mem_append_left _ (List.mem_of_getElem? (i := 5) rfl))
theorem wl_X4_leastTime : Cond.selects RX4 yX4_leastTime yX4_leastTime ∈ gx_Ts := gx_tp (n := 11) (List.mem_append_left _ (List.mem_of_getElem? (i := 6) rfl))
theorem wl_X5_workOutAll : Cond.selects RX5 yX5_workOutAll yX5_workOutAll ∈ gx_Ts := gx_tp (n := 9) (List.mem_append_left _ (List.mem_of_getElem? (i := 7) rfl))
theorem wl_X5_putValues : Cond.selects RX5 yX5_putValues yX5_putValues ∈ gx_Ts := gx_tp (n := 9) (List.mem_append_left _ (List.mem_of_getElem? (i := 8) rfl))
theorem wl_X5_workOut : Cond.selects RX5 yX5_workOut yX5_workOut ∈ gx_Ts := gx_tp (n := 9) (List.mem_append_left _ (List.mem_of_getElem? (i := 9) rfl))
theorem wl_X5_isGroup : Cond.selects RX5 yX5_isGroup yX5_isGroup ∈ gx_Ts := gx_tp (n := 9) (List.mem_append_left _ (List.mem_of_getElem? (i := 10) rfl))
theorem wl_X5_hasOrder : Cond.selects RX5 yX5_hasOrder yX5_hasOrder ∈ gx_Ts := gx_tp (n := 9) (List.mem_append_left _ (List.mem_of_getElem? (i := 11) rfl))
theorem wl_X5_groupsTookInOrder : Cond.selects RX5 yX5_groupsTookInOrder yX5_groupsTookInOrder ∈ gx_Ts := gx_tp (n := 9) (List.mem_append_left _ (List.mem_of_getElem? (i := 12) rfl))
theorem wl_X5_isBehind : Cond.selects RX5 yX5_isBehind yX5_isBehind ∈ gx_Ts := gx_tp (n := 9) (List.mem_append_left _ (List.mem_of_getElem? (i := 13) rfl))
theorem wl_X5_finalTimeOf : Cond.selects RX5 yX5_finalTimeOf yX5_finalTimeOf ∈ gx_Ts := gx_tp (n := 9) (List.mem_append_left _ (List.mem_of_getElem? (i := 14) rfl))
theorem wl_X5_clientsWereFollowed : Cond.selects RX5 yX5_clientsWereFollowed yX5_clientsWereFollowed ∈ gx_Ts := gx_tp (n := 9) (List.mem_append_left _ (List.mem_of_getElem? (i := 15) rfl))
theorem wl_X5_replayGivesTheSame : Cond.selects RX5 yX5_replayGivesTheSame yX5_replayGivesTheSame ∈ gx_Ts := gx_tp (n := 9) (List.mem_append_right _ (List.mem_append_left _ (List.mem_of_getElem? (i := 0) rfl)))
theorem wl_X5_nextAnswered : Cond.selects RX5 yX5_nextAnswered yX5_nextAnswered ∈ gx_Ts := gx_tp (n := 9) (List.mem_append_right _ (List.mem_append_left _ (List.mem_of_getElem? (i := 1) rfl)))
theorem wl_X5_replayAnswersTheSame : Cond.selects RX5 yX5_replayAnswersTheSame yX5_replayAnswersTheSame ∈ gx_Ts := gx_tp (n := 9) (List.mem_append_right _ (List.mem_append_left _ (List.mem_of_getElem? (i := 2) rfl)))
theorem wl_X5_isWorkedOutAt : Cond.selects RX5 yX5_isWorkedOutAt yX5_isWorkedOutAt ∈ gx_Ts := gx_tp (n := 9) (List.mem_append_right _ (List.mem_append_left _ (List.mem_of_getElem? (i := 3) rfl)))
theorem wl_X5_countAnswered : Cond.selects RX5 yX5_countAnswered yX5_countAnswered ∈ gx_Ts := gx_tp (n := 9) (List.mem_append_right _ (List.mem_append_left _ (List.mem_of_getElem? (i := 4) rfl)))
theorem wl_X5_countWorkedOutByAll : Cond.selects RX5 yX5_countWorkedOutByAll yX5_countWorkedOutByAll ∈ gx_Ts := gx_tp (n := 9) (List.mem_append_right _ (List.mem_append_left _ (List.mem_of_getElem? (i := 5) rfl)))
theorem wl_X6_putOthers : Cond.selects RX6 yX6_putOthers yX6_putOthers ∈ gx_Ts := gx_tp (n := 34) (List.mem_append_right _ (List.mem_append_left _ (List.mem_of_getElem? (i := 6) rfl)))
theorem wl_X6_isOf : Cond.selects RX6 yX6_isOf yX6_isOf ∈ gx_Ts := gx_tp (n := 34) (List.mem_append_right _ (List.mem_append_left _ (List.mem_of_getElem? (i := 7) rfl)))
theorem wl_X6_put : Cond.selects RX6 yX6_put yX6_put ∈ gx_Ts := gx_tp (n := 34) (List.mem_append_right _ (List.mem_append_left _ (List.mem_of_getElem? (i := 8) rfl)))
theorem wl_X6_move : Cond.selects RX6 yX6_move yX6_move ∈ gx_Ts := gx_tp (n := 34) (List.mem_append_right _ (List.mem_append_left _ (List.mem_of_getElem? (i := 9) rfl)))
theorem wl_X6_comes : Cond.selects RX6 yX6_comes yX6_comes ∈ gx_Ts := gx_tp (n := 34) (List.mem_append_right _ (List.mem_append_left _ (List.mem_of_getElem? (i := 10) rfl)))
theorem wl_X6_comesStart : Cond.selects RX6 yX6_comesStart yX6_comesStart ∈ gx_Ts := gx_tp (n := 34) (List.mem_append_right _ (List.mem_append_left _ (List.mem_of_getElem? (i := 11) rfl)))
theorem wl_X6_makesFinal : Cond.selects RX6 yX6_makesFinal yX6_makesFinal ∈ gx_Ts := gx_tp (n := 34) (List.mem_append_right _ (List.mem_append_left _ (List.mem_of_getElem? (i := 12) rfl)))
theorem wl_X6_takes : Cond.selects RX6 yX6_takes yX6_takes ∈ gx_Ts := gx_tp (n := 34) (List.mem_append_right _ (List.mem_append_left _ (List.mem_of_getElem? (i := 13) rfl)))
theorem wl_X6_works : Cond.selects RX6 yX6_works yX6_works ∈ gx_Ts := gx_tp (n := 34) (List.mem_append_right _ (List.mem_append_left _ (List.mem_of_getElem? (i := 14) rfl)))
theorem wl_X6_workOut : Cond.selects RX6 yX6_workOut yX6_workOut ∈ gx_Ts := gx_tp (n := 34) (List.mem_append_right _ (List.mem_append_left _ (List.mem_of_getElem? (i := 15) rfl)))
theorem wl_X6_doneCount : Cond.selects RX6 yX6_doneCount yX6_doneCount ∈ gx_Ts := gx_tp (n := 34) (List.mem_append_right _ (List.mem_append_right _ (List.mem_of_getElem? (i := 0) rfl)))
theorem wx_X0 : ∀ w ∈ u_ws RX0 TX0 2, w ∈ gx_Ts := by
  have h : (u_ws RX0 TX0 2).all (fun w => decide (w ∈ lw_tbl) && goodWord w) = true := by decide +kernel
  intro w hw
  have h1 := List.all_eq_true.mp h w hw
  simp only [Bool.and_eq_true, decide_eq_true_eq] at h1
  exact List.mem_filter.mpr h1
theorem wx_X1 : ∀ w ∈ u_ws RX1 TX1 7, w ∈ gx_Ts := by
  have h : (u_ws RX1 TX1 7).all (fun w => decide (w ∈ lw_tbl) && goodWord w) = true := by decide +kernel
  intro w hw
  have h1 := List.all_eq_true.mp h w hw
  simp only [Bool.and_eq_true, decide_eq_true_eq] at h1
  exact List.mem_filter.mpr h1
theorem wx_X2 : ∀ w ∈ u_ws RX2 TX2 4, w ∈ gx_Ts := by
  have h : (u_ws RX2 TX2 4).all (fun w => decide (w ∈ lw_tbl) && goodWord w) = true := by decide +kernel
  intro w hw
  have h1 := List.all_eq_true.mp h w hw
  simp only [Bool.and_eq_true, decide_eq_true_eq] at h1
  exact List.mem_filter.mpr h1
theorem wx_X3 : ∀ w ∈ u_ws RX3 TX3 10, w ∈ gx_Ts := by
  have h : (u_ws RX3 TX3 10).all (fun w => decide (w ∈ lw_tbl) && goodWord w) = true := by decide +kernel
  intro w hw
  have h1 := List.all_eq_true.mp h w hw
  simp only [Bool.and_eq_true, decide_eq_true_eq] at h1
  exact List.mem_filter.mpr h1
theorem wx_X4 : ∀ w ∈ u_ws RX4 TX4 11, w ∈ gx_Ts := by
  have h : (u_ws RX4 TX4 11).all (fun w => decide (w ∈ lw_tbl) && goodWord w) = true := by decide +kernel
  intro w hw
  have h1 := List.all_eq_true.mp h w hw
  simp only [Bool.and_eq_true, decide_eq_true_eq] at h1
  exact List.mem_filter.mpr h1
theorem wx_X5 : ∀ w ∈ u_ws RX5 TX5 9, w ∈ gx_Ts := by
  have h : (u_ws RX5 TX5 9).all (fun w => decide (w ∈ lw_tbl) && goodWord w) = true := by decide +kernel
  intro w hw
  have h1 := List.all_eq_true.mp h w hw
  simp only [Bool.and_eq_true, decide_eq_true_eq] at h1
  exact List.mem_filter.mpr h1
theorem wx_X6 : ∀ w ∈ u_ws RX6 TX6 34, w ∈ gx_Ts := by
  have h : (u_ws RX6 TX6 34).all (fun w => decide (w ∈ lw_tbl) && goodWord w) = true := by decide +kernel
  intro w hw
  have h1 := List.all_eq_true.mp h w hw
  simp only [Bool.and_eq_true, decide_eq_true_eq] at h1
  exact List.mem_filter.mpr h1
end
section
/-! the judgement: a method's walk over ONE abstract heap (next address, slots used, cells by address) -/
abbrev gx_M : Type := String × MethodName × ByteArray × Nat × Option FieldType
abbrev gx_E : Type := (Nat × vp_A) ⊕ (Nat × List Value)
abbrev gx_H : Type := Nat × Nat × (Nat → Option gx_E)
abbrev gx_Z : Type := (Nat → ClassId) × (Nat → Nat → Nat) × (Nat → ClassId)
abbrev gx_S : Type := Nat × Nat × Nat × (Nat → Int32)
def gx_e (cy : Nat → ClassId) (e : gx_E) : va_E := match e with
  | .inl a => .inl (cy a.1, a.2)
  | .inr o => .inr o
def gx_ty (t : Nat) : FieldType := match t with
  | 0 => .int
  | 1 => .boolean
  | 2 => .object RX1
  | 3 => .object RX2
  | 4 => .object RX3
  | _ => .object RX4
def gx_tys (cy : Nat → ClassId) : List (ClassId × FieldType) := [(cy 0, gx_ty 0), (cy 1, gx_ty 1), (cy 2, gx_ty 2), (cy 3, gx_ty 3), (cy 4, gx_ty 4), (cy 5, gx_ty 5)]
abbrev gx_D (Z : gx_Z) : va_G := (Z.1, Z.2.1)
def gx_nest : Cond := .methodLinkNest RX5 24 yX0_init RX5
def gx_Kn (Z : gx_Z) (U : State) : Prop := va_K (gx_D Z) vwCl (gx_tys Z.2.2) U ∧ (va_AO RX1 U ∧ va_AO RX2 U ∧ va_AO RX3 U ∧ va_AO RX4 U) ∧ va_Nw gx_nest U
theorem gx_Kn.moved {Z : gx_Z} {s U : State} (hW : s.WarmedH U.vm) (h : gx_Kn Z s) : gx_Kn Z U :=
  ⟨va_K.moved hW.alike h.1, ⟨h.2.1.1.moved hW.alike, h.2.1.2.1.moved hW.alike, h.2.1.2.2.1.moved hW.alike, h.2.1.2.2.2.moved hW.alike⟩, va_Nw.warmM hW h.2.2⟩
theorem gx_Kn.same {Z : gx_Z} {s U : State} (hW : s.vm = U.vm) (h : gx_Kn Z s) : gx_Kn Z U := by
  have ha : s.vm.Alike U.vm := hW ▸ Vm.Alike.refl s.vm
  exact ⟨va_K.moved ha h.1, ⟨h.2.1.1.moved ha, h.2.1.2.1.moved ha, h.2.1.2.2.1.moved ha, h.2.1.2.2.2.moved ha⟩, va_Nw.same rfl hW h.2.2⟩
/-- the machine's heap H holds the abstract heap h; the script lies below -/
def gx_Rel (Z : gx_Z) (S : gx_S) (h : gx_H) (U : State) (H : Heap) : Prop :=
  H.size = h.1 ∧ S.1 ≤ h.1 ∧ (∀ (a : Nat) (e : gx_E), h.2.2 a = some e → S.1 ≤ a ∧ va_at (gx_D Z) vwCl (a, gx_e Z.2.2 e) H) ∧ S.2.1 < S.1 ∧ va_X S.2.1 S.2.2.1 S.2.2.2 U H
/-- the locals by their places -/
def gx_as (L : List (Option Value)) : List (Nat × Value) := (List.range L.length).filterMap (fun i => (L[i]?.join).map (fun v => (i, v)))
theorem gx_mem {L : List (Option Value)} {i : Nat} {v : Value} : (i, v) ∈ gx_as L ↔ L[i]? = some (some v) := by
  unfold gx_as
  rw [List.mem_filterMap]
  constructor
  · rintro ⟨j, -, hj⟩
    cases hq : L[j]? with
    | none => rw [hq] at hj; cases hj
    | some q =>
      cases q with
      | none => rw [hq] at hj; cases hj
      | some w =>
        rw [hq] at hj
        have h2 : (j, w) = (i, v) := Option.some.inj hj
        cases h2
        exact hq
  · intro h
    refine ⟨i, List.mem_range.mpr (List.getElem?_eq_some_iff.mp h).1, ?_⟩
    rw [h]; rfl
def gx_Ls (ls : Array Slot) (nL : Nat) (L : List (Option Value)) : Prop := lv_has ls nL (gx_as L) ∧ L.length ≤ nL
theorem gx_Ls.at {ls : Array Slot} {nL : Nat} {L : List (Option Value)} (h : gx_Ls ls nL L) {i : Nat} {v : Value} (hv : L[i]? = some (some v)) : ls[i]? = some (.val v) := h.1.2.2 (i, v) (gx_mem.mpr hv)
def gx_ok (L : List (Option Value)) (i : Nat) : Bool := match i with
  | 0 => true
  | j + 1 => match L[j]? with
    | some (some w) => w.category == 1
    | _ => true
theorem gx_Ls.store {ls : Array Slot} {nL : Nat} {L : List (Option Value)} {i : Nat} {v : Value} (hlen : L.length ≤ nL) (hi : gx_ok L i = true) (h : lv_has ls nL ((i, v) :: (gx_as L).filter (fun q => !(q.1 == i) && !(q.1 + 1 == i && q.2.category == 2)))) : gx_Ls ls nL (L.set i (some v)) := by
  refine ⟨⟨h.1, h.2.1, fun q hq => ?_⟩, by rw [List.length_set]; exact hlen⟩
  obtain ⟨j, w⟩ := q
  rw [gx_mem] at hq
  refine h.2.2 (j, w) ?_
  by_cases hj : i = j
  · subst hj
    by_cases hl : i < L.length
    · rw [List.getElem?_set_self hl] at hq
      cases hq
      exact List.mem_cons_self
    · rw [List.getElem?_eq_none (by rw [List.length_set]; omega)] at hq
      cases hq
  · rw [List.getElem?_set_ne hj] at hq
    refine List.mem_cons_of_mem _ (List.mem_filter.mpr ⟨gx_mem.mpr hq, ?_⟩)
    have h1 : (j == i) = false := by simp; omega
    by_cases h2 : j + 1 = i
    · subst h2
      simp only [gx_ok, hq] at hi
      have h3 : w.category = 1 := by simpa using hi
      simp [h3]
    · simp [h2]; omega
/-- a method's own facts -/
def gx_Cx (M : gx_M) (Z : gx_Z) (p : Program) (s : State) (m : MethodId) (args : Array Value) (meth : Method) (c : Code) : Prop :=
  p.tables.exec = Jvm.exec ∧ c.code = M.2.2.1 ∧ c.maxLocals = M.2.2.2.1 ∧ s.vm.findClass M.1 = some m.cls ∧ (∀ w ∈ gx_Ts, w.before args s = true) ∧ (M.2.1.name = "<init>" → meth.name = "<init>") ∧ gx_Kn Z s
/-- the instruction at pc gives back r -/
def gx_ri (cc : ByteArray) (pc : Nat) (r : Option Value) : Prop := match r with
  | none => decode cc pc = .ok (.return_, 1)
  | some (.int _) => decode cc pc = .ok (.ireturn, 1)
  | some (.long _) => decode cc pc = .ok (.lreturn, 1)
  | some (.ref _) => decode cc pc = .ok (.areturn, 1)
  | some .null => decode cc pc = .ok (.areturn, 1)
  | _ => False
def gx_J (M : gx_M) (d : Nat) (r : Option Value) (h' : gx_H) (Z : gx_Z) (S : gx_S) (p : Program) (l : Launch) (e : Env) (R : Room) (s : State) (m : MethodId) (args : Array Value) (below : List Frame) (meth : Method) (c : Code) (Q : State → Prop) (k1 k2 : Nat) : Prop :=
  gx_Cx M Z p s m args meth c ∧ d ≤ R.frames ∧ 34 * d ≤ R.locals ∧ h'.1 - k1 ≤ R.cells ∧ h'.2.1 - k2 ≤ R.slots ∧
  ∀ (H' : Heap) (locs' : List Loc) (ls' : Array Slot) (pc' : Nat), gx_Rel Z S h' s H' → (∀ q ∈ locs', S.1 ≤ q.base) → gx_ri M.2.2.1 pc' r → W p l e R s m args below meth c H' locs' (h'.1 - k1) (h'.2.1 - k2) Q (F0 m pc' ls' r.toList)
/-- from pc with locals L, stack st, heap h the method comes to a return of r with heap h' -/
def gx_Evd (S : gx_S) (M : gx_M) (d pc : Nat) (L : List (Option Value)) (st : List Value) (h : gx_H) (r : Option Value) (h' : gx_H) : Prop :=
  (h.1 ≤ h'.1 ∧ h.2.1 ≤ h'.2.1) ∧ ∀ (Z : gx_Z) (p : Program) (l : Launch) (e : Env) (R : Room) (s : State) (m : MethodId) (args : Array Value) (below : List Frame) (meth : Method) (c : Code) (Q : State → Prop) (k1 k2 : Nat) (H : Heap) (locs : List Loc) (ls : Array Slot),
    gx_J M d r h' Z S p l e R s m args below meth c Q k1 k2 → (k1 ≤ h.1 ∧ k2 ≤ h.2.1) → gx_Rel Z S h s H → (∀ q ∈ locs, S.1 ≤ q.base) → gx_Ls ls M.2.2.2.1 L →
    W p l e R s m args below meth c H locs (h.1 - k1) (h.2.1 - k2) Q (F0 m pc ls st)
def gx_Ev (S : gx_S) (M : gx_M) (d pc : Nat) (L : List (Option Value)) (st : List Value) (h : gx_H) (Q : Option Value → gx_H → Prop) : Prop := ∃ (r : Option Value) (h' : gx_H), Q r h' ∧ gx_Evd S M d pc L st h r h'
theorem gx_Ev.mono {S : gx_S} {M : gx_M} {d pc : Nat} {L : List (Option Value)} {st : List Value} {h : gx_H} {Q Q' : Option Value → gx_H → Prop} (k : gx_Ev S M d pc L st h Q) (hq : ∀ r h', Q r h' → Q' r h') : gx_Ev S M d pc L st h Q' := by
  obtain ⟨r, h', h1, h2⟩ := k
  exact ⟨r, h', hq r h' h1, h2⟩
/-- a step that leaves the heap -/
theorem gx_step {S : gx_S} {M : gx_M} {d pc pc' : Nat} {L L' : List (Option Value)} {st st' : List Value} {h : gx_H} {Q : Option Value → gx_H → Prop}
    (hs : ∀ (p : Program) (l : Launch) (e : Env) (R : Room) (s : State) (m : MethodId) (args : Array Value) (below : List Frame) (meth : Method) (c : Code) (Qw : State → Prop) (cells slots : Nat) (H : Heap) (locs : List Loc) (ls : Array Slot) (Z : gx_Z), gx_Cx M Z p s m args meth c → gx_Ls ls M.2.2.2.1 L →
      (∀ ls' : Array Slot, gx_Ls ls' M.2.2.2.1 L' → W p l e R s m args below meth c H locs cells slots Qw (F0 m pc' ls' st')) → W p l e R s m args below meth c H locs cells slots Qw (F0 m pc ls st))
    (k : gx_Ev S M d pc' L' st' h Q) : gx_Ev S M d pc L st h Q := by
  obtain ⟨r, h', hq, hm, hk⟩ := k
  exact ⟨r, h', hq, hm, fun Z p l e R s m args below meth c Qw k1 k2 H locs ls J a1 a2 a3 a4 => hs p l e R s m args below meth c Qw _ _ H locs ls Z J.1 a4 (fun ls' hl' => hk Z p l e R s m args below meth c Qw k1 k2 H locs ls' J a1 a2 a3 hl')⟩
end
section
/-! one row an instruction -/
theorem gx_Ls.store2 {ls : Array Slot} {nL : Nat} {L : List (Option Value)} {i : Nat} {v : Value} (hlen : L.length ≤ nL) (hi : gx_ok L i = true) (h : lv_has ls nL ((i, v) :: (gx_as L).filter (fun q => !(q.1 == i) && (!(q.1 == i + 1) && !(q.1 + 1 == i && q.2.category == 2))))) : gx_Ls ls nL ((L.set i (some v)).set (i + 1) none) := by
  refine ⟨⟨h.1, h.2.1, fun q hq => ?_⟩, by rw [List.length_set, List.length_set]; exact hlen⟩
  obtain ⟨j, w⟩ := q
  rw [gx_mem] at hq
  refine h.2.2 (j, w) ?_
  have h5 : i + 1 ≠ j := by
    intro hj
    subst hj
    by_cases hl : i + 1 < L.length
    · rw [List.getElem?_set_self (by rw [List.length_set]; exact hl)] at hq
      cases hq
    · rw [List.getElem?_eq_none (by rw [List.length_set, List.length_set]; omega)] at hq
      cases hq
  rw [List.getElem?_set_ne h5] at hq
  by_cases hj : i = j
  · subst hj
    by_cases hl : i < L.length
    · rw [List.getElem?_set_self hl] at hq
      cases hq
      exact List.mem_cons_self
    · rw [List.getElem?_eq_none (by rw [List.length_set]; omega)] at hq
      cases hq
  · rw [List.getElem?_set_ne hj] at hq
    refine List.mem_cons_of_mem _ (List.mem_filter.mpr ⟨gx_mem.mpr hq, ?_⟩)
    by_cases h2 : j + 1 = i
    · subst h2
      simp only [gx_ok, hq] at hi
      have h3 : w.category = 1 := by simpa using hi
      simp [h3]; omega
    · simp [h2]; omega
theorem gx_iconst {S : gx_S} {M : gx_M} {d pc : Nat} {L : List (Option Value)} {st : List Value} {h : gx_H} {Q : Option Value → gx_H → Prop} {n : Int} {v : Int32} (hd : decode M.2.2.1 pc = .ok (.iconst n, 1)) (hv : Int32.ofInt n = v) (k : gx_Ev S M d (pc + 1) L (.int v :: st) h Q) : gx_Ev S M d pc L (st) h Q :=
  gx_step (fun p l e R s m args below meth c Qw cells slots H locs ls Z J hl kk => lv_iconst J.1 J.2.1 hd hv (kk ls hl)) k
theorem gx_bipush {S : gx_S} {M : gx_M} {d pc : Nat} {L : List (Option Value)} {st : List Value} {h : gx_H} {Q : Option Value → gx_H → Prop} {n : Int} {v : Int32} (hd : decode M.2.2.1 pc = .ok (.bipush n, 2)) (hv : (Int8.ofInt n).toInt32 = v) (k : gx_Ev S M d (pc + 2) L (.int v :: st) h Q) : gx_Ev S M d pc L (st) h Q :=
  gx_step (fun p l e R s m args below meth c Qw cells slots H locs ls Z J hl kk => lv_bipush J.1 J.2.1 hd hv (kk ls hl)) k
theorem gx_sipush {S : gx_S} {M : gx_M} {d pc : Nat} {L : List (Option Value)} {st : List Value} {h : gx_H} {Q : Option Value → gx_H → Prop} {n : Int} {v : Int32} (hd : decode M.2.2.1 pc = .ok (.sipush n, 3)) (hv : (Int16.ofInt n).toInt32 = v) (k : gx_Ev S M d (pc + 3) L (.int v :: st) h Q) : gx_Ev S M d pc L (st) h Q :=
  gx_step (fun p l e R s m args below meth c Qw cells slots H locs ls Z J hl kk => lv_sipush J.1 J.2.1 hd hv (kk ls hl)) k
theorem gx_lconst {S : gx_S} {M : gx_M} {d pc : Nat} {L : List (Option Value)} {st : List Value} {h : gx_H} {Q : Option Value → gx_H → Prop} {n : Fin 2} {v : Int64} (hd : decode M.2.2.1 pc = .ok (.lconst n, 1)) (hv : Int64.ofNat (n : Nat) = v) (k : gx_Ev S M d (pc + 1) L (.long v :: st) h Q) : gx_Ev S M d pc L (st) h Q :=
  gx_step (fun p l e R s m args below meth c Qw cells slots H locs ls Z J hl kk => lv_lconst J.1 J.2.1 hd hv (kk ls hl)) k
theorem gx_null {S : gx_S} {M : gx_M} {d pc : Nat} {L : List (Option Value)} {st : List Value} {h : gx_H} {Q : Option Value → gx_H → Prop}  (hd : decode M.2.2.1 pc = .ok (.aconst_null, 1))  (k : gx_Ev S M d (pc + 1) L (.null :: st) h Q) : gx_Ev S M d pc L (st) h Q :=
  gx_step (fun p l e R s m args below meth c Qw cells slots H locs ls Z J hl kk => lv_null J.1 J.2.1 hd  (kk ls hl)) k
theorem gx_iload_n {S : gx_S} {M : gx_M} {d pc : Nat} {L : List (Option Value)} {st : List Value} {h : gx_H} {Q : Option Value → gx_H → Prop} {n : Fin 4} {x : Int32} (hd : decode M.2.2.1 pc = .ok (.iload_n n, 1)) (hv : L[(n : Nat)]? = some (some (.int x))) (k : gx_Ev S M d (pc + 1) L (.int x :: st) h Q) : gx_Ev S M d pc L st h Q :=
  gx_step (fun p l e R s m args below meth c Qw cells slots H locs ls Z J hl kk => lv_iload_n J.1 J.2.1 hd rfl (hl.at hv) (kk ls hl)) k
theorem gx_iload {S : gx_S} {M : gx_M} {d pc : Nat} {L : List (Option Value)} {st : List Value} {h : gx_H} {Q : Option Value → gx_H → Prop} {n : Nat} {x : Int32} (hd : decode M.2.2.1 pc = .ok (.iload n, 2)) (hv : L[n]? = some (some (.int x))) (k : gx_Ev S M d (pc + 2) L (.int x :: st) h Q) : gx_Ev S M d pc L st h Q :=
  gx_step (fun p l e R s m args below meth c Qw cells slots H locs ls Z J hl kk => lv_iload J.1 J.2.1 hd (hl.at hv) (kk ls hl)) k
theorem gx_aload_n {S : gx_S} {M : gx_M} {d pc : Nat} {L : List (Option Value)} {st : List Value} {h : gx_H} {Q : Option Value → gx_H → Prop} {n : Fin 4} {x : Nat} (hd : decode M.2.2.1 pc = .ok (.aload_n n, 1)) (hv : L[(n : Nat)]? = some (some (.ref x))) (k : gx_Ev S M d (pc + 1) L (.ref x :: st) h Q) : gx_Ev S M d pc L st h Q :=
  gx_step (fun p l e R s m args below meth c Qw cells slots H locs ls Z J hl kk => lv_aload_n J.1 J.2.1 hd rfl (hl.at hv) (kk ls hl)) k
theorem gx_aload {S : gx_S} {M : gx_M} {d pc : Nat} {L : List (Option Value)} {st : List Value} {h : gx_H} {Q : Option Value → gx_H → Prop} {n : Nat} {x : Nat} (hd : decode M.2.2.1 pc = .ok (.aload n, 2)) (hv : L[n]? = some (some (.ref x))) (k : gx_Ev S M d (pc + 2) L (.ref x :: st) h Q) : gx_Ev S M d pc L st h Q :=
  gx_step (fun p l e R s m args below meth c Qw cells slots H locs ls Z J hl kk => lv_aload J.1 J.2.1 hd (hl.at hv) (kk ls hl)) k
theorem gx_lload_n {S : gx_S} {M : gx_M} {d pc : Nat} {L : List (Option Value)} {st : List Value} {h : gx_H} {Q : Option Value → gx_H → Prop} {n : Fin 4} {x : Int64} (hd : decode M.2.2.1 pc = .ok (.lload_n n, 1)) (hv : L[(n : Nat)]? = some (some (.long x))) (k : gx_Ev S M d (pc + 1) L (.long x :: st) h Q) : gx_Ev S M d pc L st h Q :=
  gx_step (fun p l e R s m args below meth c Qw cells slots H locs ls Z J hl kk => lv_lload_n J.1 J.2.1 hd rfl (hl.at hv) (kk ls hl)) k
theorem gx_lload {S : gx_S} {M : gx_M} {d pc : Nat} {L : List (Option Value)} {st : List Value} {h : gx_H} {Q : Option Value → gx_H → Prop} {n : Nat} {x : Int64} (hd : decode M.2.2.1 pc = .ok (.lload n, 2)) (hv : L[n]? = some (some (.long x))) (k : gx_Ev S M d (pc + 2) L (.long x :: st) h Q) : gx_Ev S M d pc L st h Q :=
  gx_step (fun p l e R s m args below meth c Qw cells slots H locs ls Z J hl kk => lv_lload J.1 J.2.1 hd (hl.at hv) (kk ls hl)) k
theorem gx_aload_nN {S : gx_S} {M : gx_M} {d pc : Nat} {L : List (Option Value)} {st : List Value} {h : gx_H} {Q : Option Value → gx_H → Prop} {n : Fin 4} (hd : decode M.2.2.1 pc = .ok (.aload_n n, 1)) (hv : L[(n : Nat)]? = some (some .null)) (k : gx_Ev S M d (pc + 1) L (.null :: st) h Q) : gx_Ev S M d pc L st h Q :=
  gx_step (fun p l e R s m args below meth c Qw cells slots H locs ls Z J hl kk => lv_aload_nN J.1 J.2.1 hd rfl (hl.at hv) (kk ls hl)) k
theorem gx_aloadN {S : gx_S} {M : gx_M} {d pc : Nat} {L : List (Option Value)} {st : List Value} {h : gx_H} {Q : Option Value → gx_H → Prop} {n : Nat} (hd : decode M.2.2.1 pc = .ok (.aload n, 2)) (hv : L[n]? = some (some .null)) (k : gx_Ev S M d (pc + 2) L (.null :: st) h Q) : gx_Ev S M d pc L st h Q :=
  gx_step (fun p l e R s m args below meth c Qw cells slots H locs ls Z J hl kk => lv_aloadN J.1 J.2.1 hd (hl.at hv) (kk ls hl)) k
theorem gx_istore_n {S : gx_S} {M : gx_M} {d pc : Nat} {L : List (Option Value)} {st : List Value} {h : gx_H} {Q : Option Value → gx_H → Prop} {L' : List (Option Value)} {n : Fin 4} {x : Int32} (hd : decode M.2.2.1 pc = .ok (.istore_n n, 1)) (hn : (n : Nat) < M.2.2.2.1) (ho : gx_ok L n = true) (hs : L.set n (some (.int x)) = L') (k : gx_Ev S M d (pc + 1) L' st h Q) : gx_Ev S M d pc L (.int x :: st) h Q :=
  gx_step (fun p l e R s m args below meth c Qw cells slots H locs ls Z J hl kk => lv_istore_n J.1 J.2.1 hd rfl hl.1 hn rfl (fun ls' h9 => kk ls' (hs ▸ gx_Ls.store hl.2 ho h9))) k
theorem gx_istore {S : gx_S} {M : gx_M} {d pc : Nat} {L : List (Option Value)} {st : List Value} {h : gx_H} {Q : Option Value → gx_H → Prop} {L' : List (Option Value)} {n : Nat} {x : Int32} (hd : decode M.2.2.1 pc = .ok (.istore n, 2)) (hn : n < M.2.2.2.1) (ho : gx_ok L n = true) (hs : L.set n (some (.int x)) = L') (k : gx_Ev S M d (pc + 2) L' st h Q) : gx_Ev S M d pc L (.int x :: st) h Q :=
  gx_step (fun p l e R s m args below meth c Qw cells slots H locs ls Z J hl kk => lv_istore J.1 J.2.1 hd hl.1 hn rfl (fun ls' h9 => kk ls' (hs ▸ gx_Ls.store hl.2 ho h9))) k
theorem gx_astore_n {S : gx_S} {M : gx_M} {d pc : Nat} {L : List (Option Value)} {st : List Value} {h : gx_H} {Q : Option Value → gx_H → Prop} {L' : List (Option Value)} {n : Fin 4} {x : Nat} (hd : decode M.2.2.1 pc = .ok (.astore_n n, 1)) (hn : (n : Nat) < M.2.2.2.1) (ho : gx_ok L n = true) (hs : L.set n (some (.ref x)) = L') (k : gx_Ev S M d (pc + 1) L' st h Q) : gx_Ev S M d pc L (.ref x :: st) h Q :=
  gx_step (fun p l e R s m args below meth c Qw cells slots H locs ls Z J hl kk => lv_astore_n J.1 J.2.1 hd rfl hl.1 hn rfl (fun ls' h9 => kk ls' (hs ▸ gx_Ls.store hl.2 ho h9))) k
theorem gx_astore {S : gx_S} {M : gx_M} {d pc : Nat} {L : List (Option Value)} {st : List Value} {h : gx_H} {Q : Option Value → gx_H → Prop} {L' : List (Option Value)} {n : Nat} {x : Nat} (hd : decode M.2.2.1 pc = .ok (.astore n, 2)) (hn : n < M.2.2.2.1) (ho : gx_ok L n = true) (hs : L.set n (some (.ref x)) = L') (k : gx_Ev S M d (pc + 2) L' st h Q) : gx_Ev S M d pc L (.ref x :: st) h Q :=
  gx_step (fun p l e R s m args below meth c Qw cells slots H locs ls Z J hl kk => lv_astore J.1 J.2.1 hd hl.1 hn rfl (fun ls' h9 => kk ls' (hs ▸ gx_Ls.store hl.2 ho h9))) k
theorem gx_astore_nN {S : gx_S} {M : gx_M} {d pc : Nat} {L : List (Option Value)} {st : List Value} {h : gx_H} {Q : Option Value → gx_H → Prop} {L' : List (Option Value)} {n : Fin 4}  (hd : decode M.2.2.1 pc = .ok (.astore_n n, 1)) (hn : (n : Nat) < M.2.2.2.1) (ho : gx_ok L n = true) (hs : L.set n (some (.null)) = L') (k : gx_Ev S M d (pc + 1) L' st h Q) : gx_Ev S M d pc L (.null :: st) h Q :=
  gx_step (fun p l e R s m args below meth c Qw cells slots H locs ls Z J hl kk => lv_astore_nN J.1 J.2.1 hd rfl hl.1 hn rfl (fun ls' h9 => kk ls' (hs ▸ gx_Ls.store hl.2 ho h9))) k
theorem gx_astoreN {S : gx_S} {M : gx_M} {d pc : Nat} {L : List (Option Value)} {st : List Value} {h : gx_H} {Q : Option Value → gx_H → Prop} {L' : List (Option Value)} {n : Nat}  (hd : decode M.2.2.1 pc = .ok (.astore n, 2)) (hn : n < M.2.2.2.1) (ho : gx_ok L n = true) (hs : L.set n (some (.null)) = L') (k : gx_Ev S M d (pc + 2) L' st h Q) : gx_Ev S M d pc L (.null :: st) h Q :=
  gx_step (fun p l e R s m args below meth c Qw cells slots H locs ls Z J hl kk => lv_astoreN J.1 J.2.1 hd hl.1 hn rfl (fun ls' h9 => kk ls' (hs ▸ gx_Ls.store hl.2 ho h9))) k
theorem gx_lstore_n {S : gx_S} {M : gx_M} {d pc : Nat} {L : List (Option Value)} {st : List Value} {h : gx_H} {Q : Option Value → gx_H → Prop} {L' : List (Option Value)} {n : Fin 4} {x : Int64} (hd : decode M.2.2.1 pc = .ok (.lstore_n n, 1)) (hn : (n : Nat) + 1 < M.2.2.2.1) (ho : gx_ok L n = true) (hs : (L.set n (some (.long x))).set ((n : Nat) + 1) none = L') (k : gx_Ev S M d (pc + 1) L' st h Q) : gx_Ev S M d pc L (.long x :: st) h Q :=
  gx_step (fun p l e R s m args below meth c Qw cells slots H locs ls Z J hl kk => lv_lstore_n J.1 J.2.1 hd rfl hl.1 hn rfl (fun ls' h9 => kk ls' (hs ▸ gx_Ls.store2 hl.2 ho h9))) k
theorem gx_iinc {S : gx_S} {M : gx_M} {d pc : Nat} {L : List (Option Value)} {st : List Value} {h : gx_H} {Q : Option Value → gx_H → Prop} {L' : List (Option Value)} {i : Nat} {n : Int} {x v : Int32} (hd : decode M.2.2.1 pc = .ok (.iinc i n, 3)) (hx : L[i]? = some (some (.int x))) (hv : x + Int32.ofInt n = v) (hn : i < M.2.2.2.1) (ho : gx_ok L i = true) (hs : L.set i (some (.int v)) = L') (k : gx_Ev S M d (pc + 3) L' st h Q) : gx_Ev S M d pc L st h Q :=
  gx_step (fun p l e R s m args below meth c Qw cells slots H locs ls Z J hl kk => by
    obtain ⟨j, hj⟩ := List.getElem?_of_mem (gx_mem.mpr hx)
    exact lv_iinc J.1 J.2.1 hd hl.1 hj hv hn rfl (fun ls' h9 => kk ls' (hs ▸ gx_Ls.store hl.2 ho h9))) k
theorem gx_iadd {S : gx_S} {M : gx_M} {d pc : Nat} {L : List (Option Value)} {st : List Value} {h : gx_H} {Q : Option Value → gx_H → Prop} {x y : Int32} (hd : decode M.2.2.1 pc = .ok (.iadd, 1))  (k : gx_Ev S M d (pc + 1) L (.int (x + y) :: st) h Q) : gx_Ev S M d pc L (.int y :: .int x :: st) h Q :=
  gx_step (fun p l e R s m args below meth c Qw cells slots H locs ls Z J hl kk => lv_iadd J.1 J.2.1 hd  (kk ls hl)) k
theorem gx_isub {S : gx_S} {M : gx_M} {d pc : Nat} {L : List (Option Value)} {st : List Value} {h : gx_H} {Q : Option Value → gx_H → Prop} {x y : Int32} (hd : decode M.2.2.1 pc = .ok (.isub, 1))  (k : gx_Ev S M d (pc + 1) L (.int (x - y) :: st) h Q) : gx_Ev S M d pc L (.int y :: .int x :: st) h Q :=
  gx_step (fun p l e R s m args below meth c Qw cells slots H locs ls Z J hl kk => lv_isub J.1 J.2.1 hd  (kk ls hl)) k
theorem gx_imul {S : gx_S} {M : gx_M} {d pc : Nat} {L : List (Option Value)} {st : List Value} {h : gx_H} {Q : Option Value → gx_H → Prop} {x y : Int32} (hd : decode M.2.2.1 pc = .ok (.imul, 1))  (k : gx_Ev S M d (pc + 1) L (.int (x * y) :: st) h Q) : gx_Ev S M d pc L (.int y :: .int x :: st) h Q :=
  gx_step (fun p l e R s m args below meth c Qw cells slots H locs ls Z J hl kk => lv_imul J.1 J.2.1 hd  (kk ls hl)) k
theorem gx_iand {S : gx_S} {M : gx_M} {d pc : Nat} {L : List (Option Value)} {st : List Value} {h : gx_H} {Q : Option Value → gx_H → Prop} {x y : Int32} (hd : decode M.2.2.1 pc = .ok (.iand, 1))  (k : gx_Ev S M d (pc + 1) L (.int (x &&& y) :: st) h Q) : gx_Ev S M d pc L (.int y :: .int x :: st) h Q :=
  gx_step (fun p l e R s m args below meth c Qw cells slots H locs ls Z J hl kk => lv_iand J.1 J.2.1 hd  (kk ls hl)) k
theorem gx_irem {S : gx_S} {M : gx_M} {d pc : Nat} {L : List (Option Value)} {st : List Value} {h : gx_H} {Q : Option Value → gx_H → Prop} {x y : Int32} (hd : decode M.2.2.1 pc = .ok (.irem, 1)) (hne : ¬ y = 0) (k : gx_Ev S M d (pc + 1) L (.int (x - x / y * y) :: st) h Q) : gx_Ev S M d pc L (.int y :: .int x :: st) h Q :=
  gx_step (fun p l e R s m args below meth c Qw cells slots H locs ls Z J hl kk => lv_irem J.1 J.2.1 hd hne (kk ls hl)) k
theorem gx_lor {S : gx_S} {M : gx_M} {d pc : Nat} {L : List (Option Value)} {st : List Value} {h : gx_H} {Q : Option Value → gx_H → Prop} {x y : Int64} (hd : decode M.2.2.1 pc = .ok (.lor, 1))  (k : gx_Ev S M d (pc + 1) L (.long (x ||| y) :: st) h Q) : gx_Ev S M d pc L (.long y :: .long x :: st) h Q :=
  gx_step (fun p l e R s m args below meth c Qw cells slots H locs ls Z J hl kk => lv_lor J.1 J.2.1 hd  (kk ls hl)) k
theorem gx_land {S : gx_S} {M : gx_M} {d pc : Nat} {L : List (Option Value)} {st : List Value} {h : gx_H} {Q : Option Value → gx_H → Prop} {x y : Int64} (hd : decode M.2.2.1 pc = .ok (.land, 1))  (k : gx_Ev S M d (pc + 1) L (.long (x &&& y) :: st) h Q) : gx_Ev S M d pc L (.long y :: .long x :: st) h Q :=
  gx_step (fun p l e R s m args below meth c Qw cells slots H locs ls Z J hl kk => lv_land J.1 J.2.1 hd  (kk ls hl)) k
theorem gx_lshl {S : gx_S} {M : gx_M} {d pc : Nat} {L : List (Option Value)} {st : List Value} {h : gx_H} {Q : Option Value → gx_H → Prop} {x v : Int64} {y : Int32} (hd : decode M.2.2.1 pc = .ok (.lshl, 1)) (hv : x <<< (y.toInt64 &&& 63) = v) (k : gx_Ev S M d (pc + 1) L (.long v :: st) h Q) : gx_Ev S M d pc L (.int y :: .long x :: st) h Q :=
  gx_step (fun p l e R s m args below meth c Qw cells slots H locs ls Z J hl kk => lv_lshl J.1 J.2.1 hd hv (kk ls hl)) k
theorem gx_lshr {S : gx_S} {M : gx_M} {d pc : Nat} {L : List (Option Value)} {st : List Value} {h : gx_H} {Q : Option Value → gx_H → Prop} {x v : Int64} {y : Int32} (hd : decode M.2.2.1 pc = .ok (.lshr, 1)) (hv : x >>> (y.toInt64 &&& 63) = v) (k : gx_Ev S M d (pc + 1) L (.long v :: st) h Q) : gx_Ev S M d pc L (.int y :: .long x :: st) h Q :=
  gx_step (fun p l e R s m args below meth c Qw cells slots H locs ls Z J hl kk => lv_lshr J.1 J.2.1 hd hv (kk ls hl)) k
theorem gx_lcmp {S : gx_S} {M : gx_M} {d pc : Nat} {L : List (Option Value)} {st : List Value} {h : gx_H} {Q : Option Value → gx_H → Prop} {x y : Int64} (hd : decode M.2.2.1 pc = .ok (.lcmp, 1))  (k : gx_Ev S M d (pc + 1) L (.int (lg_cmp x y) :: st) h Q) : gx_Ev S M d pc L (.long y :: .long x :: st) h Q :=
  gx_step (fun p l e R s m args below meth c Qw cells slots H locs ls Z J hl kk => W.lcmp J.1 J.2.1 hd  (kk ls hl)) k
theorem gx_dup {S : gx_S} {M : gx_M} {d pc : Nat} {L : List (Option Value)} {st : List Value} {h : gx_H} {Q : Option Value → gx_H → Prop} {va : Value} (hd : decode M.2.2.1 pc = .ok (.dup, 1)) (hc : va.category = 1) (k : gx_Ev S M d (pc + 1) L (va :: va :: st) h Q) : gx_Ev S M d pc L (va :: st) h Q :=
  gx_step (fun p l e R s m args below meth c Qw cells slots H locs ls Z J hl kk => lv_dup J.1 J.2.1 hd hc (kk ls hl)) k
theorem gx_dup2 {S : gx_S} {M : gx_M} {d pc : Nat} {L : List (Option Value)} {st : List Value} {h : gx_H} {Q : Option Value → gx_H → Prop} {va vb : Value} (hd : decode M.2.2.1 pc = .ok (.dup2, 1)) (hc : va.category = 1) (hc2 : vb.category = 1) (k : gx_Ev S M d (pc + 1) L (va :: vb :: va :: vb :: st) h Q) : gx_Ev S M d pc L (va :: vb :: st) h Q :=
  gx_step (fun p l e R s m args below meth c Qw cells slots H locs ls Z J hl kk => lv_dup2_11 J.1 J.2.1 hd hc hc2 (kk ls hl)) k
theorem gx_goto {S : gx_S} {M : gx_M} {d pc : Nat} {L : List (Option Value)} {st : List Value} {h : gx_H} {Q : Option Value → gx_H → Prop} {off : Int} {tgt : Nat} (hd : decode M.2.2.1 pc = .ok (.goto off, 3)) (ht : (pc : Int) + off = (tgt : Int)) (k : gx_Ev S M d tgt L st h Q) : gx_Ev S M d pc L st h Q :=
  gx_step (fun p l e R s m args below meth c Qw cells slots H locs ls Z J hl kk => lv_goto J.1 J.2.1 hd ht (kk ls hl)) k
theorem gx_if_eq {S : gx_S} {M : gx_M} {d pc : Nat} {L : List (Option Value)} {st : List Value} {h : gx_H} {Q : Option Value → gx_H → Prop} {x : Int32} {off : Int} {tgt : Nat} (hd : decode M.2.2.1 pc = .ok (.ifCond .eq off, 3)) (ht : (pc : Int) + off = (tgt : Int)) (kt : x = 0 → gx_Ev S M d tgt L st h Q) (kf : ¬ (x = 0) → gx_Ev S M d (pc + 3) L st h Q) : gx_Ev S M d pc L (.int x :: st) h Q := by
  by_cases hc : x = 0
  · exact gx_step (fun p l e R s m args below meth c Qw cells slots H locs ls Z J hl kk => lv_if_eq J.1 J.2.1 hd ht (fun _ => kk ls hl) (fun h9 => absurd hc h9)) (kt hc)
  · exact gx_step (fun p l e R s m args below meth c Qw cells slots H locs ls Z J hl kk => lv_if_eq J.1 J.2.1 hd ht (fun h9 => absurd h9 hc) (fun _ => kk ls hl)) (kf hc)
theorem gx_icmp_eq {S : gx_S} {M : gx_M} {d pc : Nat} {L : List (Option Value)} {st : List Value} {h : gx_H} {Q : Option Value → gx_H → Prop} {x y : Int32} {off : Int} {tgt : Nat} (hd : decode M.2.2.1 pc = .ok (.if_icmp .eq off, 3)) (ht : (pc : Int) + off = (tgt : Int)) (kt : x = y → gx_Ev S M d tgt L st h Q) (kf : ¬ (x = y) → gx_Ev S M d (pc + 3) L st h Q) : gx_Ev S M d pc L (.int y :: .int x :: st) h Q := by
  by_cases hc : x = y
  · exact gx_step (fun p l e R s m args below meth c Qw cells slots H locs ls Z J hl kk => lv_icmp_eq J.1 J.2.1 hd ht (fun _ => kk ls hl) (fun h9 => absurd hc h9)) (kt hc)
  · exact gx_step (fun p l e R s m args below meth c Qw cells slots H locs ls Z J hl kk => lv_icmp_eq J.1 J.2.1 hd ht (fun h9 => absurd h9 hc) (fun _ => kk ls hl)) (kf hc)
theorem gx_if_ne {S : gx_S} {M : gx_M} {d pc : Nat} {L : List (Option Value)} {st : List Value} {h : gx_H} {Q : Option Value → gx_H → Prop} {x : Int32} {off : Int} {tgt : Nat} (hd : decode M.2.2.1 pc = .ok (.ifCond .ne off, 3)) (ht : (pc : Int) + off = (tgt : Int)) (kt : ¬ x = 0 → gx_Ev S M d tgt L st h Q) (kf : x = 0 → gx_Ev S M d (pc + 3) L st h Q) : gx_Ev S M d pc L (.int x :: st) h Q := by
  by_cases hc : x = 0
  · exact gx_step (fun p l e R s m args below meth c Qw cells slots H locs ls Z J hl kk => lv_if_ne J.1 J.2.1 hd ht (fun h9 => absurd hc h9) (fun _ => kk ls hl)) (kf hc)
  · exact gx_step (fun p l e R s m args below meth c Qw cells slots H locs ls Z J hl kk => lv_if_ne J.1 J.2.1 hd ht (fun _ => kk ls hl) (fun h9 => absurd h9 hc)) (kt hc)
theorem gx_icmp_ne {S : gx_S} {M : gx_M} {d pc : Nat} {L : List (Option Value)} {st : List Value} {h : gx_H} {Q : Option Value → gx_H → Prop} {x y : Int32} {off : Int} {tgt : Nat} (hd : decode M.2.2.1 pc = .ok (.if_icmp .ne off, 3)) (ht : (pc : Int) + off = (tgt : Int)) (kt : ¬ x = y → gx_Ev S M d tgt L st h Q) (kf : x = y → gx_Ev S M d (pc + 3) L st h Q) : gx_Ev S M d pc L (.int y :: .int x :: st) h Q := by
  by_cases hc : x = y
  · exact gx_step (fun p l e R s m args below meth c Qw cells slots H locs ls Z J hl kk => lv_icmp_ne J.1 J.2.1 hd ht (fun h9 => absurd hc h9) (fun _ => kk ls hl)) (kf hc)
  · exact gx_step (fun p l e R s m args below meth c Qw cells slots H locs ls Z J hl kk => lv_icmp_ne J.1 J.2.1 hd ht (fun _ => kk ls hl) (fun h9 => absurd h9 hc)) (kt hc)
theorem gx_if_lt {S : gx_S} {M : gx_M} {d pc : Nat} {L : List (Option Value)} {st : List Value} {h : gx_H} {Q : Option Value → gx_H → Prop} {x : Int32} {off : Int} {tgt : Nat} (hd : decode M.2.2.1 pc = .ok (.ifCond .lt off, 3)) (ht : (pc : Int) + off = (tgt : Int)) (kt : x < 0 → gx_Ev S M d tgt L st h Q) (kf : ¬ (x < 0) → gx_Ev S M d (pc + 3) L st h Q) : gx_Ev S M d pc L (.int x :: st) h Q := by
  by_cases hc : x < 0
  · exact gx_step (fun p l e R s m args below meth c Qw cells slots H locs ls Z J hl kk => lv_if_lt J.1 J.2.1 hd ht (fun _ => kk ls hl) (fun h9 => absurd hc h9)) (kt hc)
  · exact gx_step (fun p l e R s m args below meth c Qw cells slots H locs ls Z J hl kk => lv_if_lt J.1 J.2.1 hd ht (fun h9 => absurd h9 hc) (fun _ => kk ls hl)) (kf hc)
theorem gx_icmp_lt {S : gx_S} {M : gx_M} {d pc : Nat} {L : List (Option Value)} {st : List Value} {h : gx_H} {Q : Option Value → gx_H → Prop} {x y : Int32} {off : Int} {tgt : Nat} (hd : decode M.2.2.1 pc = .ok (.if_icmp .lt off, 3)) (ht : (pc : Int) + off = (tgt : Int)) (kt : x < y → gx_Ev S M d tgt L st h Q) (kf : ¬ (x < y) → gx_Ev S M d (pc + 3) L st h Q) : gx_Ev S M d pc L (.int y :: .int x :: st) h Q := by
  by_cases hc : x < y
  · exact gx_step (fun p l e R s m args below meth c Qw cells slots H locs ls Z J hl kk => lv_icmp_lt J.1 J.2.1 hd ht (fun _ => kk ls hl) (fun h9 => absurd hc h9)) (kt hc)
  · exact gx_step (fun p l e R s m args below meth c Qw cells slots H locs ls Z J hl kk => lv_icmp_lt J.1 J.2.1 hd ht (fun h9 => absurd h9 hc) (fun _ => kk ls hl)) (kf hc)
theorem gx_if_ge {S : gx_S} {M : gx_M} {d pc : Nat} {L : List (Option Value)} {st : List Value} {h : gx_H} {Q : Option Value → gx_H → Prop} {x : Int32} {off : Int} {tgt : Nat} (hd : decode M.2.2.1 pc = .ok (.ifCond .ge off, 3)) (ht : (pc : Int) + off = (tgt : Int)) (kt : 0 ≤ x → gx_Ev S M d tgt L st h Q) (kf : ¬ (0 ≤ x) → gx_Ev S M d (pc + 3) L st h Q) : gx_Ev S M d pc L (.int x :: st) h Q := by
  by_cases hc : 0 ≤ x
  · exact gx_step (fun p l e R s m args below meth c Qw cells slots H locs ls Z J hl kk => lv_if_ge J.1 J.2.1 hd ht (fun _ => kk ls hl) (fun h9 => absurd hc h9)) (kt hc)
  · exact gx_step (fun p l e R s m args below meth c Qw cells slots H locs ls Z J hl kk => lv_if_ge J.1 J.2.1 hd ht (fun h9 => absurd h9 hc) (fun _ => kk ls hl)) (kf hc)
theorem gx_icmp_ge {S : gx_S} {M : gx_M} {d pc : Nat} {L : List (Option Value)} {st : List Value} {h : gx_H} {Q : Option Value → gx_H → Prop} {x y : Int32} {off : Int} {tgt : Nat} (hd : decode M.2.2.1 pc = .ok (.if_icmp .ge off, 3)) (ht : (pc : Int) + off = (tgt : Int)) (kt : y ≤ x → gx_Ev S M d tgt L st h Q) (kf : ¬ (y ≤ x) → gx_Ev S M d (pc + 3) L st h Q) : gx_Ev S M d pc L (.int y :: .int x :: st) h Q := by
  by_cases hc : y ≤ x
  · exact gx_step (fun p l e R s m args below meth c Qw cells slots H locs ls Z J hl kk => lv_icmp_ge J.1 J.2.1 hd ht (fun _ => kk ls hl) (fun h9 => absurd hc h9)) (kt hc)
  · exact gx_step (fun p l e R s m args below meth c Qw cells slots H locs ls Z J hl kk => lv_icmp_ge J.1 J.2.1 hd ht (fun h9 => absurd h9 hc) (fun _ => kk ls hl)) (kf hc)
theorem gx_if_gt {S : gx_S} {M : gx_M} {d pc : Nat} {L : List (Option Value)} {st : List Value} {h : gx_H} {Q : Option Value → gx_H → Prop} {x : Int32} {off : Int} {tgt : Nat} (hd : decode M.2.2.1 pc = .ok (.ifCond .gt off, 3)) (ht : (pc : Int) + off = (tgt : Int)) (kt : 0 < x → gx_Ev S M d tgt L st h Q) (kf : ¬ (0 < x) → gx_Ev S M d (pc + 3) L st h Q) : gx_Ev S M d pc L (.int x :: st) h Q := by
  by_cases hc : 0 < x
  · exact gx_step (fun p l e R s m args below meth c Qw cells slots H locs ls Z J hl kk => lv_if_gt J.1 J.2.1 hd ht (fun _ => kk ls hl) (fun h9 => absurd hc h9)) (kt hc)
  · exact gx_step (fun p l e R s m args below meth c Qw cells slots H locs ls Z J hl kk => lv_if_gt J.1 J.2.1 hd ht (fun h9 => absurd h9 hc) (fun _ => kk ls hl)) (kf hc)
theorem gx_icmp_gt {S : gx_S} {M : gx_M} {d pc : Nat} {L : List (Option Value)} {st : List Value} {h : gx_H} {Q : Option Value → gx_H → Prop} {x y : Int32} {off : Int} {tgt : Nat} (hd : decode M.2.2.1 pc = .ok (.if_icmp .gt off, 3)) (ht : (pc : Int) + off = (tgt : Int)) (kt : y < x → gx_Ev S M d tgt L st h Q) (kf : ¬ (y < x) → gx_Ev S M d (pc + 3) L st h Q) : gx_Ev S M d pc L (.int y :: .int x :: st) h Q := by
  by_cases hc : y < x
  · exact gx_step (fun p l e R s m args below meth c Qw cells slots H locs ls Z J hl kk => lv_icmp_gt J.1 J.2.1 hd ht (fun _ => kk ls hl) (fun h9 => absurd hc h9)) (kt hc)
  · exact gx_step (fun p l e R s m args below meth c Qw cells slots H locs ls Z J hl kk => lv_icmp_gt J.1 J.2.1 hd ht (fun h9 => absurd h9 hc) (fun _ => kk ls hl)) (kf hc)
theorem gx_if_le {S : gx_S} {M : gx_M} {d pc : Nat} {L : List (Option Value)} {st : List Value} {h : gx_H} {Q : Option Value → gx_H → Prop} {x : Int32} {off : Int} {tgt : Nat} (hd : decode M.2.2.1 pc = .ok (.ifCond .le off, 3)) (ht : (pc : Int) + off = (tgt : Int)) (kt : x ≤ 0 → gx_Ev S M d tgt L st h Q) (kf : ¬ (x ≤ 0) → gx_Ev S M d (pc + 3) L st h Q) : gx_Ev S M d pc L (.int x :: st) h Q := by
  by_cases hc : x ≤ 0
  · exact gx_step (fun p l e R s m args below meth c Qw cells slots H locs ls Z J hl kk => lv_if_le J.1 J.2.1 hd ht (fun _ => kk ls hl) (fun h9 => absurd hc h9)) (kt hc)
  · exact gx_step (fun p l e R s m args below meth c Qw cells slots H locs ls Z J hl kk => lv_if_le J.1 J.2.1 hd ht (fun h9 => absurd h9 hc) (fun _ => kk ls hl)) (kf hc)
theorem gx_icmp_le {S : gx_S} {M : gx_M} {d pc : Nat} {L : List (Option Value)} {st : List Value} {h : gx_H} {Q : Option Value → gx_H → Prop} {x y : Int32} {off : Int} {tgt : Nat} (hd : decode M.2.2.1 pc = .ok (.if_icmp .le off, 3)) (ht : (pc : Int) + off = (tgt : Int)) (kt : x ≤ y → gx_Ev S M d tgt L st h Q) (kf : ¬ (x ≤ y) → gx_Ev S M d (pc + 3) L st h Q) : gx_Ev S M d pc L (.int y :: .int x :: st) h Q := by
  by_cases hc : x ≤ y
  · exact gx_step (fun p l e R s m args below meth c Qw cells slots H locs ls Z J hl kk => lv_icmp_le J.1 J.2.1 hd ht (fun _ => kk ls hl) (fun h9 => absurd hc h9)) (kt hc)
  · exact gx_step (fun p l e R s m args below meth c Qw cells slots H locs ls Z J hl kk => lv_icmp_le J.1 J.2.1 hd ht (fun h9 => absurd h9 hc) (fun _ => kk ls hl)) (kf hc)
theorem gx_acmp_ne {S : gx_S} {M : gx_M} {d pc : Nat} {L : List (Option Value)} {st : List Value} {h : gx_H} {Q : Option Value → gx_H → Prop} {x y : Nat} {off : Int} {tgt : Nat} (hd : decode M.2.2.1 pc = .ok (.if_acmp .ne off, 3)) (ht : (pc : Int) + off = (tgt : Int)) (kt : ¬ x = y → gx_Ev S M d tgt L st h Q) (kf : x = y → gx_Ev S M d (pc + 3) L st h Q) : gx_Ev S M d pc L (.ref y :: .ref x :: st) h Q := by
  by_cases hc : x = y
  · exact gx_step (fun p l e R s m args below meth c Qw cells slots H locs ls Z J hl kk => lv_acmp_ne (rx := some x) (ry := some y) J.1 J.2.1 hd ht (fun h9 => absurd (by rw [hc]) h9) (fun _ => kk ls hl)) (kf hc)
  · exact gx_step (fun p l e R s m args below meth c Qw cells slots H locs ls Z J hl kk => lv_acmp_ne (rx := some x) (ry := some y) J.1 J.2.1 hd ht (fun _ => kk ls hl) (fun h9 => absurd (Option.some.inj h9) hc)) (kt hc)
theorem gx_ifnull {S : gx_S} {M : gx_M} {d pc : Nat} {L : List (Option Value)} {st : List Value} {h : gx_H} {Q : Option Value → gx_H → Prop} {x : Nat} {off : Int} (hd : decode M.2.2.1 pc = .ok (.ifnull off, 3)) (k : gx_Ev S M d (pc + 3) L st h Q) : gx_Ev S M d pc L (.ref x :: st) h Q :=
  gx_step (fun p l e R s m args below meth c Qw cells slots H locs ls Z J hl kk => lv_ifnull J.1 J.2.1 hd (kk ls hl)) k
theorem gx_ifnullN {S : gx_S} {M : gx_M} {d pc : Nat} {L : List (Option Value)} {st : List Value} {h : gx_H} {Q : Option Value → gx_H → Prop} {off : Int} {tgt : Nat} (hd : decode M.2.2.1 pc = .ok (.ifnull off, 3)) (ht : (pc : Int) + off = (tgt : Int)) (k : gx_Ev S M d tgt L st h Q) : gx_Ev S M d pc L (.null :: st) h Q :=
  gx_step (fun p l e R s m args below meth c Qw cells slots H locs ls Z J hl kk => lv_ifnullN J.1 J.2.1 hd ht (kk ls hl)) k
theorem gx_ifnonnull {S : gx_S} {M : gx_M} {d pc : Nat} {L : List (Option Value)} {st : List Value} {h : gx_H} {Q : Option Value → gx_H → Prop} {x : Nat} {off : Int} {tgt : Nat} (hd : decode M.2.2.1 pc = .ok (.ifnonnull off, 3)) (ht : (pc : Int) + off = (tgt : Int)) (k : gx_Ev S M d tgt L st h Q) : gx_Ev S M d pc L (.ref x :: st) h Q :=
  gx_step (fun p l e R s m args below meth c Qw cells slots H locs ls Z J hl kk => lv_ifnonnull J.1 J.2.1 hd ht (kk ls hl)) k
theorem gx_ifnonnullN {S : gx_S} {M : gx_M} {d pc : Nat} {L : List (Option Value)} {st : List Value} {h : gx_H} {Q : Option Value → gx_H → Prop} {off : Int} (hd : decode M.2.2.1 pc = .ok (.ifnonnull off, 3)) (k : gx_Ev S M d (pc + 3) L st h Q) : gx_Ev S M d pc L (.null :: st) h Q :=
  gx_step (fun p l e R s m args below meth c Qw cells slots H locs ls Z J hl kk => lv_ifnonnullN J.1 J.2.1 hd (kk ls hl)) k
theorem gx_tableIn {S : gx_S} {M : gx_M} {d pc : Nat} {L : List (Option Value)} {st : List Value} {h : gx_H} {Q : Option Value → gx_H → Prop} {dflt lo hi : Int} {offs : Array Int} {len : Nat} {x : Int32} {off : Int} {tgt : Nat} (hd : decode M.2.2.1 pc = .ok (.tableswitch dflt lo hi offs, len)) (h1 : ¬ x.toInt < lo) (h2 : ¬ hi < x.toInt) (h3 : offs[(x.toInt - lo).toNat]? = some off) (ht : (pc : Int) + off = (tgt : Int)) (k : gx_Ev S M d tgt L st h Q) : gx_Ev S M d pc L (.int x :: st) h Q :=
  gx_step (fun p l e R s m args below meth c Qw cells slots H locs ls Z J hl kk => lv_tableIn J.1 J.2.1 hd h1 h2 h3 ht (kk ls hl)) k
theorem gx_tableOut {S : gx_S} {M : gx_M} {d pc : Nat} {L : List (Option Value)} {st : List Value} {h : gx_H} {Q : Option Value → gx_H → Prop} {dflt lo hi : Int} {offs : Array Int} {len : Nat} {x : Int32} {tgt : Nat} (hd : decode M.2.2.1 pc = .ok (.tableswitch dflt lo hi offs, len)) (h1 : x.toInt < lo ∨ hi < x.toInt) (ht : (pc : Int) + dflt = (tgt : Int)) (k : gx_Ev S M d tgt L st h Q) : gx_Ev S M d pc L (.int x :: st) h Q :=
  gx_step (fun p l e R s m args below meth c Qw cells slots H locs ls Z J hl kk => lv_tableOut J.1 J.2.1 hd h1 ht (kk ls hl)) k
theorem gx_ldc {S : gx_S} {M : gx_M} {d pc : Nat} {L : List (Option Value)} {st : List Value} {h : gx_H} {Q : Option Value → gx_H → Prop} {n : Nat} {v : Int32} (hd : decode M.2.2.1 pc = .ok (.ldc n, 2)) (hc : Cond.constant M.1 n v ∈ gx_Ts) (k : gx_Ev S M d (pc + 2) L (.int v :: st) h Q) : gx_Ev S M d pc L st h Q :=
  gx_step (fun p l e R s m args below meth c Qw cells slots H locs ls Z J hl kk => lv_ldc J.1 J.2.1 J.2.2.2.1 (J.2.2.2.2.1 _ hc) hd (kk ls hl)) k
theorem gx_ireturn {S : gx_S} {M : gx_M} {d pc : Nat} {L : List (Option Value)} {h : gx_H} {Q : Option Value → gx_H → Prop} {v : Int32} (hd : decode M.2.2.1 pc = .ok (.ireturn, 1)) (hq : Q (some (.int v)) h) : gx_Ev S M d pc L [(.int v)] h Q :=
  ⟨some (.int v), h, hq, ⟨Nat.le_refl _, Nat.le_refl _⟩, fun Z p l e R s m args below meth c Qw k1 k2 H locs ls J a1 a2 a3 a4 => J.2.2.2.2.2 H locs ls pc a2 a3 hd⟩
theorem gx_lreturn {S : gx_S} {M : gx_M} {d pc : Nat} {L : List (Option Value)} {h : gx_H} {Q : Option Value → gx_H → Prop} {v : Int64} (hd : decode M.2.2.1 pc = .ok (.lreturn, 1)) (hq : Q (some (.long v)) h) : gx_Ev S M d pc L [(.long v)] h Q :=
  ⟨some (.long v), h, hq, ⟨Nat.le_refl _, Nat.le_refl _⟩, fun Z p l e R s m args below meth c Qw k1 k2 H locs ls J a1 a2 a3 a4 => J.2.2.2.2.2 H locs ls pc a2 a3 hd⟩
theorem gx_areturn {S : gx_S} {M : gx_M} {d pc : Nat} {L : List (Option Value)} {h : gx_H} {Q : Option Value → gx_H → Prop} {v : Nat} (hd : decode M.2.2.1 pc = .ok (.areturn, 1)) (hq : Q (some (.ref v)) h) : gx_Ev S M d pc L [(.ref v)] h Q :=
  ⟨some (.ref v), h, hq, ⟨Nat.le_refl _, Nat.le_refl _⟩, fun Z p l e R s m args below meth c Qw k1 k2 H locs ls J a1 a2 a3 a4 => J.2.2.2.2.2 H locs ls pc a2 a3 hd⟩
theorem gx_areturnN {S : gx_S} {M : gx_M} {d pc : Nat} {L : List (Option Value)} {h : gx_H} {Q : Option Value → gx_H → Prop}  (hd : decode M.2.2.1 pc = .ok (.areturn, 1)) (hq : Q (some .null) h) : gx_Ev S M d pc L [.null] h Q :=
  ⟨some .null, h, hq, ⟨Nat.le_refl _, Nat.le_refl _⟩, fun Z p l e R s m args below meth c Qw k1 k2 H locs ls J a1 a2 a3 a4 => J.2.2.2.2.2 H locs ls pc a2 a3 hd⟩
theorem gx_return {S : gx_S} {M : gx_M} {d pc : Nat} {L : List (Option Value)} {h : gx_H} {Q : Option Value → gx_H → Prop}  (hd : decode M.2.2.1 pc = .ok (.return_, 1)) (hq : Q (none) h) : gx_Ev S M d pc L [] h Q :=
  ⟨none, h, hq, ⟨Nat.le_refl _, Nat.le_refl _⟩, fun Z p l e R s m args below meth c Qw k1 k2 H locs ls J a1 a2 a3 a4 => J.2.2.2.2.2 H locs ls pc a2 a3 hd⟩
end
section
/-! the heap rows -/
def gx_set (h : gx_H) (a : Nat) (e : gx_E) : gx_H := (h.1, h.2.1, va_up h.2.2 a (some e))
def gx_push (h : gx_H) (n : Nat) (e : gx_E) : gx_H := (h.1 + 1, h.2.1 + n, va_up h.2.2 h.1 (some e))
abbrev gx_ob (ci : Nat) (fs : List Value) : gx_E := .inr (ci, fs)
abbrev gx_ai (t n : Nat) (f : Nat → Int32) : gx_E := .inl (t, n, .inl f)
abbrev gx_ar (t n : Nat) (f : Nat → Option Nat) : gx_E := .inl (t, n, .inr (.inr (.inr (.inr f))))
theorem gx_Rel.set {Z : gx_Z} {S : gx_S} {h : gx_H} {U : State} {H H' : Heap} (r : gx_Rel Z S h U H) {a : Nat} {e0 e : gx_E} (he : h.2.2 a = some e0) (hz : H'.size = H.size) (ho : ∀ q : Nat, q ≠ a → H'[q]? = H[q]?) (hn : va_at (gx_D Z) vwCl (a, gx_e Z.2.2 e) H') : gx_Rel Z S (gx_set h a e) U H' := by
  obtain ⟨r1, r2, r3, r4, r5⟩ := r
  have hb := (r3 a e0 he).1
  refine ⟨by rw [hz]; exact r1, r2, fun b f hf => ?_, r4, r5.kept (ho _ (by omega))⟩
  by_cases hba : b = a
  · subst hba
    have : e = f := by simpa [gx_set, va_up] using hf
    subst this
    exact ⟨hb, hn⟩
  · have hf' : h.2.2 b = some f := by simpa [gx_set, va_up, hba] using hf
    obtain ⟨g1, g2⟩ := r3 b f hf'
    exact ⟨g1, g2.kept (ho b hba)⟩
theorem gx_Rel.push {Z : gx_Z} {S : gx_S} {h : gx_H} {U : State} {H H' : Heap} (r : gx_Rel Z S h U H) {n : Nat} {e : gx_E} (hz : H'.size = H.size + 1) (ho : ∀ q : Nat, q < H.size → H'[q]? = H[q]?) (hn : va_at (gx_D Z) vwCl (h.1, gx_e Z.2.2 e) H') : gx_Rel Z S (gx_push h n e) U H' := by
  obtain ⟨r1, r2, r3, r4, r5⟩ := r
  refine ⟨by rw [hz, r1]; rfl, Nat.le_trans r2 (Nat.le_succ _), fun b f hf => ?_, r4, r5.kept (ho _ (by omega))⟩
  by_cases hba : b = h.1
  · subst hba
    have : e = f := by simpa [gx_push, va_up] using hf
    subst this
    exact ⟨r2, hn⟩
  · have hf' : h.2.2 b = some f := by simpa [gx_push, va_up, hba] using hf
    obtain ⟨g1, g2⟩ := r3 b f hf'
    exact ⟨g1, g2.kept (ho b (by have := g2.lt; exact this))⟩
/-- class number ci of the list, with its words -/
def gx_Cls (ci : Nat) (C : String) (T : u_T) (N : Nat) (ty : Nat → FieldType) : Prop := vwCl[ci]? = some (C, T, N) ∧ (∀ w ∈ u_ws C T N, w ∈ gx_Ts) ∧ (∀ k, k < N → parseFieldDescriptor (T k).2.2.1 = some (ty k)) ∧ (∀ a, a < N → ∀ b, b < N → a ≠ b → (T a).2.1 ≠ (T b).2.1)
/-- the pool's entry idx of the class own is field k of class ci -/
def gx_FL (own : String) (idx ci k : Nat) (ty : FieldType) (fin : Bool) : Prop := ∃ (C : String) (T : u_T) (N : Nat) (tyf : Nat → FieldType), gx_Cls ci C T N tyf ∧ k < N ∧ tyf k = ty ∧ (T k).1 = C ∧ (T k).2.2.2 = fin ∧ Cond.fieldLink own idx C (T k).2.1 (T k).2.2.1 ∈ gx_Ts
section HP
variable {S : gx_S} {M : gx_M} {d pc : Nat} {L : List (Option Value)} {st : List Value} {h : gx_H} {Q : Option Value → gx_H → Prop}
theorem gx_get {idx ci k a : Nat} {ty : FieldType} {fin : Bool} {fs : List Value} {v : Value} (hd : decode M.2.2.1 pc = .ok (.getfield idx, 3)) (hf : gx_FL M.1 idx ci k ty fin) (hc : h.2.2 a = some (gx_ob ci fs)) (hv : fs[k]? = some v) (kk : gx_Ev S M d (pc + 3) L (v :: st) h Q) : gx_Ev S M d pc L (.ref a :: st) h Q := by
  obtain ⟨r, h', hq, hm, hk⟩ := kk
  refine ⟨r, h', hq, hm, fun Z p l e R s m args below meth c Qw k1 k2 H locs ls J a1 a2 a3 a4 => ?_⟩
  obtain ⟨C, T, N, tyf, ⟨c1, c2, c3, c4⟩, f1, f2, f3, f4, f5⟩ := hf
  have hP : va_P (gx_D Z) vwCl [(a, .inr (ci, fs))] H := fun j q hj => by
    have h0 : j < 1 := (List.getElem?_eq_some_iff.mp hj).1
    rw [show j = 0 by omega] at hj
    cases hj
    exact (a2.2.2.1 a _ hc).2
  refine va_get (D := gx_D Z) (cl := vwCl) (ci := ci) (C := C) (T := T) (N := N) J.1.1 J.1.2.1 J.1.2.2.2.2.1 c2 J.1.2.2.2.1 J.1.2.2.2.2.2.2.1 hP 0 rfl c1 k f1 (J.1.2.2.2.2.1 _ f5) (fun x hx => by rw [f3] at hx; exact hx) hv hd ?_
  exact hk Z p l e R s m args below meth c Qw k1 k2 H locs ls J a1 a2 a3 a4
theorem gx_put {idx ci k a : Nat} {ty : FieldType} {fs : List Value} {v : Value} (hd : decode M.2.2.1 pc = .ok (.putfield idx, 3)) (hf : gx_FL M.1 idx ci k ty false) (hc : h.2.2 a = some (gx_ob ci fs)) (hl : k < fs.length) (hn : narrow ty v = v) (hfit : fits ty v = true) (kk : gx_Ev S M d (pc + 3) L st (gx_set h a (gx_ob ci (fs.set k v))) Q) : gx_Ev S M d pc L (v :: .ref a :: st) h Q := by
  obtain ⟨r, h', hq, hm, hk⟩ := kk
  refine ⟨r, h', hq, hm, fun Z p l e R s m args below meth c Qw k1 k2 H locs ls J a1 a2 a3 a4 => ?_⟩
  obtain ⟨C, T, N, tyf, ⟨c1, c2, c3, c4⟩, f1, f2, f3, f4, f5⟩ := hf
  have hts := J.1.2.2.2.2.1
  have hK := J.1.2.2.2.2.2.2.1
  have hap := va_apart (own := M.1) hts c2 tyf c3 c4 hK c1
  obtain ⟨hba, r', h1, cell, q1, q2, q3, q4⟩ := a2.2.2.1 a _ hc
  have hr : r' = (C, T, N) := Option.some.inj (h1.symm.trans c1)
  subst hr
  obtain ⟨hS, hfc, kC, hkC, hkind⟩ := hK.1 ci _ c1
  obtain ⟨cf, kf, fi, f, hi, hsl⟩ := hS k f1
  have hlay := hts _ (c2 _ (u_in_lay f1))
  unfold u_lay at hlay
  rw [if_neg (by rw [f4]; decide)] at hlay
  have hst := (u_facts hfc hkC (u_lays hts c2 f1) hi).1
  have h6 := u_store hfc hkC hkind hlay hi (by rw [c3 k f1, f2]) hn hfit
  refine W.putK J.1.1 J.1.2.1 (f := f) ⟨J.1.2.2.2.1, hts _ f5, ⟨_, _, _, by rw [f3] at hi; exact hi⟩, hst⟩ (by rw [q2]; exact h6) q1 q3 (by rw [hsl]; exact k2_hasslot (q4 k f1)) rfl rfl hd fun H' e1 e2 e3 => ?_
  rw [hsl] at e1 ⊢
  refine hk Z p l e R s m args below meth c Qw k1 k2 H' _ ls J a1 (a2.set hc e2 e3 ?_) (fun q hq => ?_) a4
  · exact ⟨_, c1, t_OB.to (V := updV (vp_V fs) k v) ⟨_, e1, q2, q3, t_set q4 hap f1 v⟩ (fun j _ => vp_updV_set hl v j)⟩
  · rcases List.mem_append.mp hq with h8 | h8
    · exact a3 q h8
    · rw [List.mem_singleton.mp h8]; exact hba
theorem gx_putF {idx ci k a : Nat} {ty : FieldType} {fs : List Value} {v : Value} (hd : decode M.2.2.1 pc = .ok (.putfield idx, 3)) (hf : gx_FL M.1 idx ci k ty true) (hi : M.2.1.name = "<init>") (hown : ∀ r, vwCl[ci]? = some r → r.1 = M.1) (hc : h.2.2 a = some (gx_ob ci fs)) (hl : k < fs.length) (hn : narrow ty v = v) (hfit : fits ty v = true) (kk : gx_Ev S M d (pc + 3) L st (gx_set h a (gx_ob ci (fs.set k v))) Q) : gx_Ev S M d pc L (v :: .ref a :: st) h Q := by
  obtain ⟨r, h', hq, hm, hk⟩ := kk
  refine ⟨r, h', hq, hm, fun Z p l e R s m args below meth c Qw k1 k2 H locs ls J a1 a2 a3 a4 => ?_⟩
  obtain ⟨C, T, N, tyf, ⟨c1, c2, c3, c4⟩, f1, f2, f3, f4, f5⟩ := hf
  have hts := J.1.2.2.2.2.1
  have hK := J.1.2.2.2.2.2.2.1
  have hap := va_apart (own := M.1) hts c2 tyf c3 c4 hK c1
  obtain ⟨hba, r', h1, cell, q1, q2, q3, q4⟩ := a2.2.2.1 a _ hc
  have hr : r' = (C, T, N) := Option.some.inj (h1.symm.trans c1)
  subst hr
  have hCo : C = M.1 := hown _ c1
  obtain ⟨hS, hfc, kC, hkC, hkind⟩ := hK.1 ci _ c1
  obtain ⟨cf, kf, fi, f, hi2, hsl⟩ := hS k f1
  have hlay := hts _ (c2 _ (u_in_lay f1))
  unfold u_lay at hlay
  rw [if_pos f4] at hlay
  have hst := (u_facts hfc hkC (u_lays hts c2 f1) hi2).1
  have hcf : m.cls = cf := by
    obtain ⟨_, _, c', _, _, _, -, -, hf', -, -, -, hown2, -⟩ := Cond.laysFinal_spec hlay
    have e1 : c' = cf := by have := hi2.symm.trans hf'; simp at this; exact this.1.symm
    rw [f3, hCo] at hown2
    rw [← e1]; exact Option.some.inj (J.1.2.2.2.1.symm.trans hown2)
  have h6 := u_fits hfc hkC hkind (Or.inr hlay) hi2 (by rw [c3 k f1, f2]) hn hfit
  refine W.putFinK J.1.1 J.1.2.1 J.1.2.2.2.1 (hts _ f5) (by rw [f3] at hi2; exact hi2) hst hcf (J.1.2.2.2.2.2.1 hi) (by rw [q2]; exact h6) q1 q3 (by rw [hsl]; exact k2_hasslot (q4 k f1)) rfl rfl hd fun H' e1 e2 e3 => ?_
  rw [hsl] at e1 ⊢
  refine hk Z p l e R s m args below meth c Qw k1 k2 H' _ ls J a1 (a2.set hc e2 e3 ?_) (fun q hq => ?_) a4
  · exact ⟨_, c1, t_OB.to (V := updV (vp_V fs) k v) ⟨_, e1, q2, q3, t_set q4 hap f1 v⟩ (fun j _ => vp_updV_set hl v j)⟩
  · rcases List.mem_append.mp hq with h8 | h8
    · exact a3 q h8
    · rw [List.mem_singleton.mp h8]; exact hba
end HP
end
section
/-! arrays, new, the script -/
theorem gx_tys_at (cy : Nat → ClassId) {t : Nat} (ht : t < 6) : (gx_tys cy)[t]? = some (cy t, gx_ty t) := by
  rcases t with _ | _ | _ | _ | _ | _ | t
  all_goals first | rfl | omega
section AR
variable {S : gx_S} {M : gx_M} {d pc : Nat} {L : List (Option Value)} {st : List Value} {h : gx_H} {Q : Option Value → gx_H → Prop}
theorem gx_one {Z : gx_Z} {U : State} {H : Heap} {a : Nat} {e : gx_E} (r : gx_Rel Z S h U H) (hc : h.2.2 a = some e) : va_P (gx_D Z) vwCl [(a, gx_e Z.2.2 e)] H := fun j q hj => by
  have h0 : j < 1 := (List.getElem?_eq_some_iff.mp hj).1
  rw [show j = 0 by omega] at hj
  cases hj
  exact (r.2.2.1 a _ hc).2
theorem gx_iald {a n : Nat} {f : Nat → Int32} {i x : Int32} (hd : decode M.2.2.1 pc = .ok (.iaload, 1)) (hc : h.2.2 a = some (gx_ai 0 n f)) (hin : vp_in i n) (hx : f i.toNatClampNeg = x) (kk : gx_Ev S M d (pc + 1) L (.int x :: st) h Q) : gx_Ev S M d pc L (.int i :: .ref a :: st) h Q := by
  subst hx
  obtain ⟨r, h', hq, hm, hk⟩ := kk
  refine ⟨r, h', hq, hm, fun Z p l e R s m args below meth c Qw k1 k2 H locs ls J a1 a2 a3 a4 => ?_⟩
  exact va_iald J.1.1 J.1.2.1 J.1.2.2.2.2.2.2.1 (gx_one a2 hc) 0 0 rfl (gx_tys_at Z.2.2 (t := 0) (by omega)) hin hd (hk Z p l e R s m args below meth c Qw k1 k2 H locs ls J a1 a2 a3 a4)
theorem gx_zald {a n : Nat} {f : Nat → Int32} {i x : Int32} (hd : decode M.2.2.1 pc = .ok (.baload, 1)) (hc : h.2.2 a = some (gx_ai 1 n f)) (hin : vp_in i n) (hx : f i.toNatClampNeg = x) (kk : gx_Ev S M d (pc + 1) L (.int x :: st) h Q) : gx_Ev S M d pc L (.int i :: .ref a :: st) h Q := by
  subst hx
  obtain ⟨r, h', hq, hm, hk⟩ := kk
  refine ⟨r, h', hq, hm, fun Z p l e R s m args below meth c Qw k1 k2 H locs ls J a1 a2 a3 a4 => ?_⟩
  exact va_zald J.1.1 J.1.2.1 J.1.2.2.2.2.2.2.1 (gx_one a2 hc) 0 1 rfl (gx_tys_at Z.2.2 (t := 1) (by omega)) hin hd (hk Z p l e R s m args below meth c Qw k1 k2 H locs ls J a1 a2 a3 a4)
theorem gx_aald {a n t : Nat} {f : Nat → Option Nat} {i : Int32} {v : Value} (hd : decode M.2.2.1 pc = .ok (.aaload, 1)) (ht : t < 6 ∧ 2 ≤ t) (hc : h.2.2 a = some (gx_ar t n f)) (hin : vp_in i n) (hv : va_rf (f i.toNatClampNeg) = v) (kk : gx_Ev S M d (pc + 1) L (v :: st) h Q) : gx_Ev S M d pc L (.int i :: .ref a :: st) h Q := by
  subst hv
  obtain ⟨r, h', hq, hm, hk⟩ := kk
  refine ⟨r, h', hq, hm, fun Z p l e R s m args below meth c Qw k1 k2 H locs ls J a1 a2 a3 a4 => ?_⟩
  have hT := gx_tys_at Z.2.2 ht.1
  have hty : ∃ C, gx_ty t = .object C := by
    rcases t with _ | _ | _ | _ | _ | _ | t
    all_goals first | (exact ⟨_, rfl⟩) | omega
  obtain ⟨C, hC⟩ := hty
  rw [hC] at hT
  exact va_aldq (C := C) J.1.1 J.1.2.1 J.1.2.2.2.2.2.2.1 (gx_one a2 hc) 0 t rfl hT hin hd (hk Z p l e R s m args below meth c Qw k1 k2 H locs ls J a1 a2 a3 a4)
theorem gx_alen {a t : Nat} {x : vp_A} {v : Int32} (hd : decode M.2.2.1 pc = .ok (.arraylength, 1)) (ht : t < 6) (hc : h.2.2 a = some (.inl (t, x))) (hv : Int32.ofNat x.1 = v) (kk : gx_Ev S M d (pc + 1) L (.int v :: st) h Q) : gx_Ev S M d pc L (.ref a :: st) h Q := by
  obtain ⟨r, h', hq, hm, hk⟩ := kk
  refine ⟨r, h', hq, hm, fun Z p l e R s m args below meth c Qw k1 k2 H locs ls J a1 a2 a3 a4 => ?_⟩
  exact va_alen J.1.1 J.1.2.1 J.1.2.2.2.2.2.2.1 (gx_one a2 hc) 0 t rfl (gx_tys_at Z.2.2 ht) hv hd (hk Z p l e R s m args below meth c Qw k1 k2 H locs ls J a1 a2 a3 a4)
theorem gx_locs {locs : List Loc} {a i : Nat} (h1 : ∀ q ∈ locs, S.1 ≤ q.base) (h2 : S.1 ≤ a) : ∀ q ∈ locs ++ [⟨a, i⟩], S.1 ≤ q.base := by
  intro q hq
  rcases List.mem_append.mp hq with h8 | h8
  · exact h1 q h8
  · rw [List.mem_singleton.mp h8]; exact h2
theorem gx_iast {a n : Nat} {f : Nat → Int32} {i x : Int32} (hd : decode M.2.2.1 pc = .ok (.iastore, 1)) (hc : h.2.2 a = some (gx_ai 0 n f)) (hin : vp_in i n) (kk : gx_Ev S M d (pc + 1) L st (gx_set h a (gx_ai 0 n (va_up f i.toNatClampNeg x))) Q) : gx_Ev S M d pc L (.int x :: .int i :: .ref a :: st) h Q := by
  obtain ⟨r, h', hq, hm, hk⟩ := kk
  refine ⟨r, h', hq, hm, fun Z p l e R s m args below meth c Qw k1 k2 H locs ls J a1 a2 a3 a4 => ?_⟩
  have hK := J.1.2.2.2.2.2.2.1
  have ha := gx_one a2 hc 0 _ rfl
  refine W.iast J.1.1 J.1.2.1 ha ((hK.2 0 _ (gx_tys_at Z.2.2 (t := 0) (by omega))).1 n (fun j => .int (f j))) (fun q => by cases q) (by show ¬ (i < 0 ∨ (arrV _ _ _).slots.size ≤ _); rw [arrV_size]; exact hin) rfl rfl hd fun H1 e1 z oq => ?_
  refine hk Z p l e R s m args below meth c Qw k1 k2 H1 _ ls J a1 (a2.set hc z oq ?_) (gx_locs a3 (a2.2.2.1 a _ hc).1) a4
  show H1[a]? = some (vp_cell _ _)
  rw [e1]
  show some ((vp_cell _ (n, .inl f)).setSlot _ _) = some (vp_cell _ (n, .inl _))
  rw [vp_cell_i, vp_cell_i, arrV_store]
  congr 2
  funext q
  by_cases hq : q = i.toNatClampNeg
  · subst hq
    simp [updV, va_up]
  · simp [updV, va_up, hq]
theorem gx_zast {a n : Nat} {f : Nat → Int32} {i x : Int32} (hd : decode M.2.2.1 pc = .ok (.bastore, 1)) (hc : h.2.2 a = some (gx_ai 1 n f)) (hin : vp_in i n) (hx : x = 0 ∨ x = 1) (kk : gx_Ev S M d (pc + 1) L st (gx_set h a (gx_ai 1 n (va_up f i.toNatClampNeg x))) Q) : gx_Ev S M d pc L (.int x :: .int i :: .ref a :: st) h Q := by
  obtain ⟨r, h', hq, hm, hk⟩ := kk
  refine ⟨r, h', hq, hm, fun Z p l e R s m args below meth c Qw k1 k2 H locs ls J a1 a2 a3 a4 => ?_⟩
  have hK := J.1.2.2.2.2.2.2.1
  have ha := gx_one a2 hc 0 _ rfl
  have hnar : narrow .boolean (.int x) = .int x := by rcases hx with rfl | rfl <;> rfl
  refine W.zast J.1.1 J.1.2.1 ha ((hK.2 1 _ (gx_tys_at Z.2.2 (t := 1) (by omega))).1 n (fun j => .int (f j))) (fun q => by cases q) (by show ¬ (i < 0 ∨ (arrV _ _ _).slots.size ≤ _); rw [arrV_size]; exact hin) rfl rfl hd fun H1 e1 z oq => ?_
  refine hk Z p l e R s m args below meth c Qw k1 k2 H1 _ ls J a1 (a2.set hc z oq ?_) (gx_locs a3 (a2.2.2.1 a _ hc).1) a4
  show H1[a]? = some (vp_cell _ _)
  rw [e1, hnar]
  show some ((vp_cell _ (n, .inl f)).setSlot _ _) = some (vp_cell _ (n, .inl _))
  rw [vp_cell_i, vp_cell_i, arrV_store]
  congr 2
  funext q
  by_cases hq : q = i.toNatClampNeg
  · subst hq
    simp [updV, va_up]
  · simp [updV, va_up, hq]
/-- array type t holds objects of class ci -/
def gx_oc (t ci : Nat) : Prop := ∃ r, vwCl[ci]? = some r ∧ gx_ty t = .object r.1 ∧ t < 6
theorem gx_aast {a n t v ci : Nat} {vs : List Value} {f : Nat → Option Nat} {i : Int32} (hd : decode M.2.2.1 pc = .ok (.aastore, 1)) (ht : gx_oc t ci) (hc : h.2.2 a = some (gx_ar t n f)) (hcv : h.2.2 v = some (gx_ob ci vs)) (hin : vp_in i n) (kk : gx_Ev S M d (pc + 1) L st (gx_set h a (gx_ar t n (va_up f i.toNatClampNeg (some v)))) Q) : gx_Ev S M d pc L (.ref v :: .int i :: .ref a :: st) h Q := by
  obtain ⟨r, h', hq, hm, hk⟩ := kk
  refine ⟨r, h', hq, hm, fun Z p l e R s m args below meth c Qw k1 k2 H locs ls J a1 a2 a3 a4 => ?_⟩
  have hK := J.1.2.2.2.2.2.2.1
  have ha := gx_one a2 hc 0 _ rfl
  obtain ⟨rc, hrc, htc, ht6⟩ := ht
  have hT := gx_tys_at Z.2.2 ht6
  rw [htc] at hT
  have hlt : i.toNatClampNeg < n := Nat.not_le.mp fun q => hin (Or.inr q)
  have h0 : ¬ i < 0 := fun q => hin (Or.inl q)
  obtain ⟨-, r', hr', cellV, g1, g2, g3, -⟩ := a2.2.2.1 v _ hcv
  have hcls := (hK.1 ci rc hrc).2
  obtain ⟨kA, comp, e1, e2, e3, -⟩ := (hK.2 t _ hT).2
  have hcomp : comp = (gx_D Z).1 ci := Option.some.inj (e3.symm.trans hcls.1)
  subst hcomp
  obtain ⟨kC, hkC, -⟩ := id hcls.2
  refine W.aast J.1.1 J.1.2.1 ha (fun q h => by cases h) (fun h => by cases h) e1 e2 rfl hkC ⟨h0, by show _ < (arrV _ _ _).slots.size; rw [arrV_size]; exact hlt⟩ g1 (fun q h => by rw [g3] at h; cases h) (by rw [g2]; exact hkC) (by rw [g2]; exact va_assign hcls) rfl rfl hd fun H1 e z oq => ?_
  refine hk Z p l _ R s m args below meth c Qw k1 k2 H1 _ ls J a1 (a2.set hc z oq ?_) (gx_locs a3 (a2.2.2.1 a _ hc).1) a4
  show H1[a]? = some (vp_cell _ _)
  rw [e]
  show some ((vp_cell _ (n, .inr (.inr (.inr (.inr f))))).setSlot _ _) = some (vp_cell _ (n, .inr (.inr (.inr (.inr _)))))
  rw [vp_cell_q, vp_cell_q, arrV_store]
  congr 2
  funext q
  by_cases hq : q = i.toNatClampNeg
  · subst hq
    simp [updV, va_up, va_rf]
  · simp [updV, va_up, hq]
theorem gx_aastN {a n t : Nat} {f : Nat → Option Nat} {i : Int32} (hd : decode M.2.2.1 pc = .ok (.aastore, 1)) (ht : t < 6 ∧ 2 ≤ t) (hc : h.2.2 a = some (gx_ar t n f)) (hin : vp_in i n) (kk : gx_Ev S M d (pc + 1) L st (gx_set h a (gx_ar t n (va_up f i.toNatClampNeg none))) Q) : gx_Ev S M d pc L (.null :: .int i :: .ref a :: st) h Q := by
  obtain ⟨r, h', hq, hm, hk⟩ := kk
  refine ⟨r, h', hq, hm, fun Z p l e R s m args below meth c Qw k1 k2 H locs ls J a1 a2 a3 a4 => ?_⟩
  have hK := J.1.2.2.2.2.2.2.1
  have ha := gx_one a2 hc 0 _ rfl
  have hT := gx_tys_at Z.2.2 ht.1
  have hty : ∃ C, gx_ty t = .object C := by
    rcases t with _ | _ | _ | _ | _ | _ | t
    all_goals first | (exact ⟨_, rfl⟩) | omega
  obtain ⟨C, hC⟩ := hty
  rw [hC] at hT
  refine va_WaastN (C := C) J.1.1 J.1.2.1 ha ((hK.2 t _ hT).1 n (fun j => va_rf (f j))) (fun h => by cases h) (by show ¬ (i < 0 ∨ (arrV _ _ _).slots.size ≤ _); rw [arrV_size]; exact hin) rfl rfl hd fun H1 e1 z oq => ?_
  refine hk Z p l e R s m args below meth c Qw k1 k2 H1 _ ls J a1 (a2.set hc z oq ?_) (gx_locs a3 (a2.2.2.1 a _ hc).1) a4
  show H1[a]? = some (vp_cell _ _)
  rw [e1]
  show some ((vp_cell _ (n, .inr (.inr (.inr (.inr f))))).setSlot _ _) = some (vp_cell _ (n, .inr (.inr (.inr (.inr _)))))
  rw [vp_cell_q, vp_cell_q, arrV_store]
  congr 2
  funext q
  by_cases hq : q = i.toNatClampNeg
  · subst hq
    simp [updV, va_up, va_rf]
  · simp [updV, va_up, hq]
theorem gx_cnt {k1 k2 n : Nat} {a b : gx_H} (h1 : k1 ≤ a.1 ∧ k2 ≤ a.2.1) (hb1 : b.1 = a.1 + 1) (hb2 : b.2.1 = a.2.1 + n) : a.1 - k1 + 1 = b.1 - k1 ∧ a.2.1 - k2 + n = b.2.1 - k2 ∧ k1 ≤ b.1 ∧ k2 ≤ b.2.1 := by omega
theorem gx_new {idx ci N : Nat} {C : String} {T : u_T} {tyf : Nat → FieldType} {fs : List Value} (hd : decode M.2.2.1 pc = .ok (.new idx, 3)) (hc : gx_Cls ci C T N tyf) (h1 : Cond.classLink M.1 idx C ∈ gx_Ts) (h2 : Cond.instantiable C N ∈ gx_Ts) (h3 : Cond.initialized C ∈ gx_Ts) (hfs : ∀ j, j < N → defaultValue (tyf j) = vp_V fs j) (kk : gx_Ev S M d (pc + 3) L (.ref h.1 :: st) (gx_push h N (gx_ob ci fs)) Q) : gx_Ev S M d pc L st h Q := by
  obtain ⟨r, h', hq, hm, hk⟩ := kk
  have m1 : h.1 + 1 ≤ h'.1 := hm.1
  have m2 : h.2.1 + N ≤ h'.2.1 := hm.2
  refine ⟨r, h', hq, ⟨by omega, by omega⟩, fun Z p l e R s m args below meth c Qw k1 k2 H locs ls J a1 a2 a3 a4 => ?_⟩
  obtain ⟨c1, c2, c3, c4⟩ := hc
  have hts := J.1.2.2.2.2.1
  have hK := J.1.2.2.2.2.2.2.1
  have hKn := hK.1 ci _ c1
  have rc := J.2.2.2.1
  have rs := J.2.2.2.2.1
  obtain ⟨n1, n2, n3, n4⟩ := gx_cnt (a := h) (b := gx_push h N (gx_ob ci fs)) a1 rfl rfl
  refine W.newcK J.1.1 J.1.2.1 J.1.2.2.2.1 (hts _ h1) (hts _ h2) (hts _ h3) rfl hd (by omega) (by omega) hKn.2.1 a2.1 fun H1 kC hkC e1 z1 o1 => ?_
  rw [n1, n2]
  refine hk Z p l e R s m args below meth c Qw k1 k2 H1 locs ls J ⟨n3, n4⟩ (a2.push (by rw [z1, a2.1]) (fun q h => o1 q (by rw [← a2.1]; exact h)) ?_) a3 a4
  exact ⟨_, c1, (u_born tyf hts c2 hKn hkC e1 c3).to hfs⟩
theorem gx_newa {t N : Nat} {atype : ArrayType} {n : Int32} (hd : decode M.2.2.1 pc = .ok (.newarray atype, 2)) (ht : (t = 0 ∧ atype = .int) ∨ (t = 1 ∧ atype = .boolean)) (hn : ¬ n < 0) (hN : n.toNatClampNeg = N) (hb : N ≤ 1000000) (kk : gx_Ev S M d (pc + 2) L (.ref h.1 :: st) (gx_push h N (gx_ai t N (fun _ => 0))) Q) : gx_Ev S M d pc L (.int n :: st) h Q := by
  obtain ⟨r, h', hq, hm, hk⟩ := kk
  have m1 : h.1 + 1 ≤ h'.1 := hm.1
  have m2 : h.2.1 + N ≤ h'.2.1 := hm.2
  refine ⟨r, h', hq, ⟨by omega, by omega⟩, fun Z p l e R s m args below meth c Qw k1 k2 H locs ls J a1 a2 a3 a4 => ?_⟩
  have hts := J.1.2.2.2.2.1
  have hK := J.1.2.2.2.2.2.2.1
  have rc := J.2.2.2.1
  have rs := J.2.2.2.2.1
  obtain ⟨n1, n2, n3, n4⟩ := gx_cnt (a := h) (b := gx_push h N (gx_ai t N (fun _ => 0))) a1 rfl rfl
  have hty : newarray.typeOf atype = gx_ty t ∧ t < 6 ∧ Cond.arrayClass (gx_ty t) ∈ gx_Ts ∧ componentBytes (gx_ty t) ≤ 8 ∧ defaultValue (gx_ty t) = .int 0 := by
    rcases ht with ⟨rfl, rfl⟩ | ⟨rfl, rfl⟩
    · exact ⟨rfl, by omega, wa_int, by decide, rfl⟩
    · exact ⟨rfl, by omega, wa_boolean, by decide, rfl⟩
  obtain ⟨t1, t2, t3, t4, t5⟩ := hty
  have hT := gx_tys_at Z.2.2 t2
  have hbytes : N * componentBytes (newarray.typeOf atype) ≤ 536870912 := by
    rw [t1]
    exact Nat.le_trans (Nat.mul_le_mul hb t4) (by omega)
  refine va_newaK J.1.1 J.1.2.1 (by rw [t1]; exact hts _ t3) rfl hd rfl hn hN hbytes (by omega) (by omega) a2.1 fun H1 cA e1 z1 o1 hAr hNm => ?_
  have hcy : cA = Z.2.2 t := by
    have h9 := (hK.2 t _ hT).2
    rw [t1] at hNm
    rcases ht with ⟨rfl, -⟩ | ⟨rfl, -⟩
    · exact Option.some.inj (hNm.symm.trans h9)
    · exact Option.some.inj (hNm.symm.trans h9)
  rw [n1, n2]
  refine hk Z p l e R s m args below meth c Qw k1 k2 H1 locs ls J ⟨n3, n4⟩ (a2.push (by rw [z1, a2.1]) (fun q h => o1 q (by rw [← a2.1]; exact h)) ?_) a3 a4
  show H1[h.1]? = some (vp_cell _ _)
  rw [e1, hcy, t1, t5]
  rfl
theorem gx_anew {t N idx : Nat} {C : String} {n : Int32} (hd : decode M.2.2.1 pc = .ok (.anewarray idx, 3)) (h1 : Cond.classLink M.1 idx C ∈ gx_Ts) (ht : gx_ty t = .object C ∧ t < 6) (hAO : ∀ (Z : gx_Z) (U : State), gx_Kn Z U → va_AO C U) (hn : ¬ n < 0) (hN : n.toNatClampNeg = N) (hb : N ≤ 1000000) (kk : gx_Ev S M d (pc + 3) L (.ref h.1 :: st) (gx_push h N (gx_ar t N (fun _ => none))) Q) : gx_Ev S M d pc L (.int n :: st) h Q := by
  obtain ⟨r, h', hq, hm, hk⟩ := kk
  have m1 : h.1 + 1 ≤ h'.1 := hm.1
  have m2 : h.2.1 + N ≤ h'.2.1 := hm.2
  refine ⟨r, h', hq, ⟨by omega, by omega⟩, fun Z p l e R s m args below meth c Qw k1 k2 H locs ls J a1 a2 a3 a4 => ?_⟩
  have hts := J.1.2.2.2.2.1
  have hK := J.1.2.2.2.2.2.2.1
  have rc := J.2.2.2.1
  have rs := J.2.2.2.2.1
  obtain ⟨n1, n2, n3, n4⟩ := gx_cnt (a := h) (b := gx_push h N (gx_ar t N (fun _ => none))) a1 rfl rfl
  have hT := gx_tys_at Z.2.2 ht.2
  rw [ht.1] at hT
  subst hN
  refine W.anew J.1.1 J.1.2.1 J.1.2.2.2.1 (hts _ h1) (va_AO.use (hAO Z s J.1.2.2.2.2.2.2)) rfl hd rfl hn (by omega) (by omega) (by omega) fun cA kA comp f1 f2 f3 f4 => ?_
  generalize hH1 : H.push ({ cls := cA, slots := Array.replicate n.toNatClampNeg .null, vm := .none } : Cell) = H1
  have z1 : H1.size = H.size + 1 := by rw [← hH1, Array.size_push]
  have e1 : H1[H.size]? = some (arrV cA n.toNatClampNeg (fun _ => .null)) := by rw [← hH1, Array.getElem?_push_size, ← arrV_new]
  have o1 : ∀ q : Nat, q < H.size → H1[q]? = H[q]? := fun q hq => by rw [← hH1, Array.getElem?_push, if_neg (Nat.ne_of_lt hq)]
  have hcy : cA = Z.2.2 t := by
    obtain ⟨kA', comp', g1, g2, g3, g4⟩ := (hK.2 t _ hT).2
    exact Option.some.inj (f1.symm.trans g4)
  rw [n1, n2]
  show W p l e R s m args below meth c H1 locs _ _ Qw (F0 m (pc + 3) ls (.ref H.size :: st))
  rw [a2.1]
  refine hk Z p l e R s m args below meth c Qw k1 k2 H1 locs ls J ⟨n3, n4⟩ (a2.push z1 o1 ?_) a3 a4
  show H1[h.1]? = some (vp_cell _ _)
  rw [← a2.1, e1, hcy]
  rfl
end AR
end
section
/-! contracts and calls -/
def gx_room (d c s : Nat) : Room := { frames := d, cells := c, slots := s, locals := 34 * d }
def gx_ws (M : gx_M) : List Cond := Cond.code M.2.1 M.2.2.1 M.2.2.2.1 M.2.2.2.2 :: gx_Ts
def gx_Pc (Z : gx_Z) (S : gx_S) (av : List Value) (h : gx_H) : Array Value → State → Prop := va_Pc av (fun U => gx_Rel Z S h U U.heap ∧ gx_Kn Z U)
def gx_Qc (Z : gx_Z) (S : gx_S) (r : Option Value) (h' : gx_H) : Array Value → State → Outcome → State → Prop := fun _ _ o t => o = .returned r ∧ gx_Rel Z S h' t t.heap
/-- M, called with av in the heap h, gives back r and leaves the heap h' -/
def gx_Ct (S : gx_S) (M : gx_M) (d : Nat) (av : List Value) (h : gx_H) (r : Option Value) (h' : gx_H) : Prop := (h.1 ≤ h'.1 ∧ h.2.1 ≤ h'.2.1) ∧ ∀ (Z : gx_Z) (l : Launch), Met l M.2.1 (gx_ws M) (gx_room d (h'.1 - h.1) (h'.2.1 - h.2.1)) (gx_Pc Z S av h) (gx_Qc Z S r h') (h'.1 - h.1) (h'.2.1 - h.2.1) (fun a => S.1 ≤ a)
def gx_Cn (S : gx_S) (M : gx_M) (d : Nat) (av : List Value) (h : gx_H) (Q : Option Value → gx_H → Prop) : Prop := ∃ (r : Option Value) (h' : gx_H), Q r h' ∧ gx_Ct S M d av h r h'
theorem gx_Cn.mono {S : gx_S} {M : gx_M} {d : Nat} {av : List Value} {h : gx_H} {Q Q' : Option Value → gx_H → Prop} (k : gx_Cn S M d av h Q) (hq : ∀ r h', Q r h' → Q' r h') : gx_Cn S M d av h Q' := by
  obtain ⟨r, h', h1, h2⟩ := k
  exact ⟨r, h', hq r h' h1, h2⟩
/-- the value fits the method's type -/
def gx_rt (ret : Option FieldType) (r : Option Value) : Prop := match r with
  | none => ret = none
  | some (.int v) => ∃ ty, ret = some ty ∧ narrow ty (.int v) = .int v
  | some (.long _) => ret = some .long
  | some (.ref _) => ∃ n, ret = some (.object n)
  | some .null => ∃ n, ret = some (.object n)
  | _ => False
/-- what is fixed of a method: its code stands in the tables -/
def gx_MT (M : gx_M) (n : Nat) : Prop := Cond.code M.2.1 M.2.2.1 M.2.2.2.1 M.2.2.2.2 ∈ gx_Ts ∧ Cond.initialized M.2.1.cls ∈ gx_Ts ∧ (M.2.1.cls ≠ "java/lang/invoke/MethodHandle" ∧ M.2.1.cls ≠ "java/lang/invoke/VarHandle" ∧ (parseMethodDescriptor M.2.1.desc).map (fun d => d.parameters.length) = some n) ∧ M.2.2.2.1 ≤ 15 ∧ plainName M.2.1.cls = true ∧ M.2.1.cls = M.1
theorem gx_good : ∀ w ∈ gx_Ts, (w.onTables && w.keeps) = true ∨ ∃ ty, w = .arrayClass ty := fun w h => good_of_word (List.mem_filter.mp h).2
theorem gx_in {ws : List Cond} (h : ∀ w ∈ ws, w ∈ gx_Ts) : GoodIn gx_Ts ws := fun w hw => ⟨h w hw, gx_good w (h w hw)⟩
theorem gx_lv (av : List Value) (hc : ∀ v ∈ av, v.category = 1) : ∀ (n : Nat) (i : Nat) (v : Value), av[i]? = some v → (n + i, v) ∈ lv_args n av := by
  induction av with
  | nil => intro n i v h; simp at h
  | cons a t ih =>
    intro n i v h
    have ha : ¬ a.category = 2 := by rw [hc a List.mem_cons_self]; decide
    unfold lv_args
    rw [if_neg ha]
    cases i with
    | zero =>
      rw [List.getElem?_cons_zero] at h
      cases h
      exact List.mem_cons_self
    | succ i =>
      rw [List.getElem?_cons_succ] at h
      have := ih (fun v hv => hc v (List.mem_cons_of_mem _ hv)) (n + 1) i v h
      rw [show n + (i + 1) = n + 1 + i by omega]
      exact List.mem_cons_of_mem _ this
theorem gx_sl (av : List Value) (hc : ∀ v ∈ av, v.category = 1) : (lg_sl av).length = av.length := by
  induction av with
  | nil => rfl
  | cons a t ih =>
    have ha : ¬ a.category = 2 := by rw [hc a List.mem_cons_self]; decide
    have := ih (fun v hv => hc v (List.mem_cons_of_mem _ hv))
    unfold lg_sl at this ⊢
    rw [List.flatMap_cons, if_neg ha, List.length_append, this]
    simp; omega
/-- a method's contract out of its walk -/
theorem gx_Cn.of {S : gx_S} {M : gx_M} {n d : Nat} {av : List Value} {h : gx_H} {Q : Option Value → gx_H → Prop} (hM : gx_MT M n) (hc : ∀ v ∈ av, v.category = 1) (hl : av.length ≤ M.2.2.2.1) (k : gx_Ev S M d 0 (av.map some ++ List.replicate (M.2.2.2.1 - av.length) none) [] h (fun r h' => gx_rt M.2.2.2.2 r ∧ Q r h')) : gx_Cn S M d av h Q := by
  obtain ⟨r, h', ⟨hrt, hq⟩, hm, hk⟩ := k
  refine ⟨r, h', hq, hm, fun Z l => ?_⟩
  obtain ⟨m1, m2, m3, m4, m5, m6⟩ := hM
  refine Met.ofW (cc := M.2.2.1) (maxL := M.2.2.2.1) (ret := M.2.2.2.2) m5 rfl ?_
  intro p e s m args below meth c s₁ B hml hv
  obtain ⟨rfl, hrel, hkn⟩ := hv
  have hts0 := atoms_spec (ws := gx_ws M) B.pre
  have hts : ∀ w ∈ gx_Ts, w.before av.toArray s = true := fun w hw => hts0 w (List.mem_cons_of_mem _ hw)
  have hown : s.vm.findClass M.1 = some m.cls := m6 ▸ findClass_of_methodNamed B.named
  have hen := lv_entry av (n := M.2.2.2.1) (by rw [gx_sl av hc]; exact hl)
  have hlocks := B.notSynchronized
  have hx := B.exec
  have hb := B.bytes
  have hr := B.returns
  rw [lg_entry_eq]
  have hzero : W p l e (headSpec (gx_ws M) (gx_room d (h'.1 - h.1) (h'.2.1 - h.2.1))).room s m av.toArray below meth c s.heap [] (h.1 - h.1) (h.2.1 - h.2.1) (MQ below (gx_Qc Z S r h') av.toArray s (h'.1 - h.1) (h'.2.1 - h.2.1) (fun a => S.1 ≤ a)) (F0 m 0 ((lg_sl av ++ List.replicate (M.2.2.2.1 - (lg_sl av).length) Slot.unset).toArray) []) := by
    refine hk Z p l e _ s m av.toArray below meth c _ h.1 h.2.1 s.heap [] _ ⟨⟨hx, hb, hml, hown, hts, fun e9 => (name_of_methodNamed B.named B.method).1.trans e9, hkn⟩, Nat.le_refl _, Nat.le_refl _, Nat.le_refl _, Nat.le_refl _, ?_⟩ ⟨Nat.le_refl _, Nat.le_refl _⟩ hrel (fun q hq => by cases hq) ⟨⟨hen.1, hen.2.1, fun q hq => ?_⟩, ?_⟩
    · intro H' locs' ls' pc' hrel' hlocs' hri
      have hQ : ∀ t : State, t.heap = H' → s.WarmedH t.vm → gx_Qc Z S r h' av.toArray s (.returned r) t := fun t ht hW => ⟨rfl, by
        rw [ht]
        exact ⟨hrel'.1, hrel'.2.1, hrel'.2.2.1, hrel'.2.2.2.1, hrel'.2.2.2.2.moved hW.alike⟩⟩
      cases r with
      | none => exact W.vret hx hb (hr.trans hrt) hQ hlocs' hri
      | some v =>
        cases v with
        | int v =>
          obtain ⟨ty, t1, t2⟩ := hrt
          exact W.zret hx hb (hr.trans t1) t2 hQ hlocs' hri
        | long v => exact W.lret hx hb (hr.trans hrt) hQ hlocs' hri
        | ref v =>
          obtain ⟨n, t1⟩ := hrt
          exact W.aret hx hb (hr.trans t1) (Or.inl ⟨n, rfl⟩) (Or.inr ⟨v, rfl⟩) hQ hlocs' hri
        | null =>
          obtain ⟨n, t1⟩ := hrt
          exact W.aret hx hb (hr.trans t1) (Or.inl ⟨n, rfl⟩) (Or.inl rfl) hQ hlocs' hri
        | float v => exact hrt.elim
        | double v => exact hrt.elim
        | retAddr v => exact hrt.elim
    · obtain ⟨i, v⟩ := q
      rw [gx_mem] at hq
      refine hen.2.2 (i, v) ?_
      by_cases hi : i < av.length
      · rw [List.getElem?_append_left (by rw [List.length_map]; exact hi), List.getElem?_map] at hq
        have h1 : av[i]? = some v := by
          cases h2 : av[i]? with
          | none => rw [h2] at hq; cases hq
          | some w => rw [h2] at hq; cases hq; rfl
        have := gx_lv av hc 0 i v h1
        rwa [Nat.zero_add] at this
      · rw [List.getElem?_append_right (by rw [List.length_map]; omega)] at hq
        have := List.eq_of_mem_replicate (List.mem_of_getElem? hq)
        cases this
    · rw [List.length_append, List.length_map, List.length_replicate]; omega
  rw [Nat.sub_self, Nat.sub_self] at hzero
  exact hzero
section CA
variable {S : gx_S} {M : gx_M} {d pc : Nat} {L : List (Option Value)} {st : List Value} {h : gx_H} {Q : Option Value → gx_H → Prop}
theorem gx_pre {Z : gx_Z} {s : State} {H : Heap} {av : List Value} (hk : gx_Kn Z s) (r : gx_Rel Z S h s H) : PreS s H (gx_Pc Z S av h) av := by
  refine ⟨fun a U g mk q => ⟨q.1, ?_, ?_⟩, fun U hU hW => ⟨rfl, ?_, hk.moved hW⟩⟩
  · obtain ⟨r1, r2, r3, r4, r5⟩ := q.2.1
    exact ⟨r1, r2, r3, r4, r5.moved (u := U) (U := U.calling g mk a) (Vm.Alike.refl U.vm)⟩
  · exact gx_Kn.same (s := U) (U := U.calling g mk a) rfl q.2.2
  · rw [hU]
    exact ⟨r.1, r.2.1, r.2.2.1, r.2.2.2.1, r.2.2.2.2.moved hW.alike⟩
/-- what a call's run gives -/
theorem gx_after {M' : gx_M} {Z : gx_Z} {p : Program} {l : Launch} {e : Env} {R : Room} {s : State} {m : MethodId} {args : Array Value} {below : List Frame} {meth : Method} {c : Code} {Qw : State → Prop} {k1 k2 : Nat} {H : Heap} {locs : List Loc} {ls : Array Slot} {st0 rest : List Value} {av : Array Value} {r r1 : Option Value} {h' h1 : gx_H}
    (J : gx_J M d r h' Z S p l e R s m args below meth c Qw k1 k2) (a1 : k1 ≤ h.1 ∧ k2 ≤ h.2.1) (hm1 : h.1 ≤ h1.1 ∧ h.2.1 ≤ h1.2.1) (a3 : ∀ q ∈ locs, S.1 ≤ q.base)
    (hr : va_Run p l e R s m args below meth c H locs (h.1 - k1) (h.2.1 - k2) (h1.1 - h.1) (h1.2.1 - h.2.1) (F0 m pc ls st0) rest (gx_Qc Z S r1 h1 av) (fun a => S.1 ≤ a))
    (kk : ∀ (H1 : Heap) (locs1 : List Loc), gx_Rel Z S h1 s H1 → (∀ q ∈ locs1, S.1 ≤ q.base) → W p l e R s m args below meth c H1 locs1 (h1.1 - k1) (h1.2.1 - k2) Qw (F0 m (pc + 3) ls (r1.toList ++ rest))) : W p l e R s m args below meth c H locs (h.1 - k1) (h.2.1 - k2) Qw (F0 m pc ls st0) := by
  intro T hT X
  obtain ⟨v, st₀, t, T', L', h0, X', hL, e1, e2, ⟨hv, hrel⟩, hst⟩ := hr T hT X
  cases hv
  rw [show h.1 - k1 + (h1.1 - h.1) = h1.1 - k1 by omega, show h.2.1 - k2 + (h1.2.1 - h.2.1) = h1.2.1 - k2 by omega] at X'
  have hal : s.vm.Alike t.vm := by rw [← e2]; exact X'.warmed.alike
  obtain ⟨t2, b1, b2⟩ := kk T'.heap (locs ++ L') (by rw [e1]; exact ⟨hrel.1, hrel.2.1, hrel.2.2.1, hrel.2.2.2.1, hrel.2.2.2.2.moved hal.symm⟩) (fun q hq => by
    rcases List.mem_append.mp hq with h8 | h8
    · exact a3 q h8
    · exact hL q h8) T' rfl X'
  exact ⟨t2, hst t2 b1, b2⟩
theorem gx_cb {M' : gx_M} {n d' idx : Nat} {Z : gx_Z} {p : Program} {l : Launch} {e : Env} {R : Room} {s : State} {m : MethodId} {args : Array Value} {below : List Frame} {meth : Method} {c : Code} {Qw : State → Prop} {k1 k2 : Nat} {r : Option Value} {h' h1 : gx_H} (J : gx_J M d r h' Z S p l e R s m args below meth c Qw k1 k2) (hM : gx_MT M' n) (hml : Cond.methodLink M.1 idx M'.2.1 ∈ gx_Ts) (hdd : d' + 1 ≤ d) :
    CallB R s args M.1 idx M'.2.1 M'.2.2.1 M'.2.2.2.1 M'.2.2.2.2 (gx_ws M') (gx_room d' (h1.1 - h.1) (h1.2.1 - h.2.1)) (h1.1 - h.1) (h1.2.1 - h.2.1) n := by
  obtain ⟨m1, m2, m3, m4, m5, m6⟩ := hM
  have hts := J.1.2.2.2.2.1
  have hf := J.2.1
  have hlo := J.2.2.1
  refine callB_of n hts (gx_in fun w hw => ?_) rfl rfl rfl (hts _ m2) (hts _ hml) m3 ⟨?_, ?_⟩
  · rcases List.mem_cons.mp hw with rfl | h9
    · exact m1
    · exact h9
  · show d' + 1 ≤ R.frames
    omega
  · show 8 + (M'.2.2.2.1 + 11) + 34 * d' ≤ R.locals
    omega
theorem gx_invS {M' : gx_M} {n d' idx : Nat} {As rest : List Value} {Q' : Option Value → gx_H → Prop} (hd : decode M.2.2.1 pc = .ok (.invokestatic idx, 3)) (hml : Cond.methodLink M.1 idx M'.2.1 ∈ gx_Ts) (hM : gx_MT M' n) (hsx : Cond.static M'.2.1 ∈ gx_Ts) (hn : As.length = n) (hst : st = As.reverse ++ rest) (hw : (rest.map fun v => v.category).sum ≤ 8) (hdd : d' + 1 ≤ d) (ct : gx_Cn S M' d' As h Q') (kk : ∀ r1 h1, Q' r1 h1 → gx_Ev S M d (pc + 3) L (r1.toList ++ rest) h1 Q) : gx_Ev S M d pc L st h Q := by
  obtain ⟨r1, h1, hq1, hm1, hC⟩ := ct
  obtain ⟨r, h', hq, hm, hk⟩ := kk r1 h1 hq1
  refine ⟨r, h', hq, ⟨by omega, by omega⟩, fun Z p l e R s m args below meth c Qw k1 k2 H locs ls J a1 a2 a3 a4 => ?_⟩
  have rc := J.2.2.2.1
  have rs := J.2.2.2.2.1
  refine gx_after (M' := M') J a1 hm1 a3 (va_runS (As := As) (rest := rest) ⟨J.1.1, J.1.2.1, J.1.2.2.1, J.1.2.2.2.1, J.1.2.2.2.2.1⟩ (hC Z l) ⟨gx_cb J hM hml hdd, J.1.2.2.2.2.1 _ hsx⟩ (gx_pre J.1.2.2.2.2.2.2 a2) rfl hn a4.1.1 hst (by show 2 * 0 + _ ≤ 8; omega) hd ⟨by omega, by omega⟩) (fun H1 locs1 g1 g2 => ?_)
  exact hk Z p l e R s m args below meth c Qw k1 k2 H1 locs1 ls J ⟨by omega, by omega⟩ g1 g2 a4
theorem gx_invI {M' : gx_M} {n d' idx b : Nat} {As rest : List Value} {Q' : Option Value → gx_H → Prop} (hd : decode M.2.2.1 pc = .ok (.invokespecial idx, 3)) (hml : Cond.methodLink M.1 idx M'.2.1 ∈ gx_Ts) (hM : gx_MT M' n) (hret : M'.2.2.2.2 = none) (hi : M'.2.1.name = "<init>") (hsx : Cond.instanceMethod M'.2.1 ∈ gx_Ts) (hn : As.length = n) (hst : st = As.reverse ++ .ref b :: rest) (hw : (rest.map fun v => v.category).sum ≤ 8) (hdd : d' + 1 ≤ d) (ct : gx_Cn S M' d' (.ref b :: As) h Q') (kk : ∀ r1 h1, Q' r1 h1 → gx_Ev S M d (pc + 3) L (r1.toList ++ rest) h1 Q) : gx_Ev S M d pc L st h Q := by
  obtain ⟨r1, h1, hq1, hm1, hC⟩ := ct
  obtain ⟨r, h', hq, hm, hk⟩ := kk r1 h1 hq1
  refine ⟨r, h', hq, ⟨by omega, by omega⟩, fun Z p l e R s m args below meth c Qw k1 k2 H locs ls J a1 a2 a3 a4 => ?_⟩
  have rc := J.2.2.2.1
  have rs := J.2.2.2.2.1
  have cb := gx_cb (h := h) (h1 := h1) J hM hml hdd
  rw [hret] at cb
  refine gx_after (M' := M') J a1 hm1 a3 (va_runI (As := As) (rest := rest) ⟨J.1.1, J.1.2.1, J.1.2.2.1, J.1.2.2.2.1, J.1.2.2.2.2.1⟩ (hC Z l) ⟨cb, hi, J.1.2.2.2.2.1 _ hsx⟩ (gx_pre J.1.2.2.2.2.2.2 a2) rfl hn a4.1.1 hst (by show 2 * 0 + _ ≤ 8; omega) hd ⟨by omega, by omega⟩) (fun H1 locs1 g1 g2 => ?_)
  exact hk Z p l e R s m args below meth c Qw k1 k2 H1 locs1 ls J ⟨by omega, by omega⟩ g1 g2 a4
theorem gx_invV {M' : gx_M} {n d' idx b ci : Nat} {fs : List Value} {rcl : vw_C} {As rest : List Value} {Q' : Option Value → gx_H → Prop} (hd : decode M.2.2.1 pc = .ok (.invokevirtual idx, 3)) (hml : Cond.methodLink M.1 idx M'.2.1 ∈ gx_Ts) (hM : gx_MT M' n) (hsx : Cond.instanceMethod M'.2.1 ∈ gx_Ts) (hse : Cond.selects M'.1 M'.2.1 M'.2.1 ∈ gx_Ts) (hcl : vwCl[ci]? = some rcl) (hcn : rcl.1 = M'.1) (hb : h.2.2 b = some (gx_ob ci fs)) (hn : As.length = n) (hst : st = As.reverse ++ .ref b :: rest) (hw : (rest.map fun v => v.category).sum ≤ 8) (hdd : d' + 1 ≤ d) (ct : gx_Cn S M' d' (.ref b :: As) h Q') (kk : ∀ r1 h1, Q' r1 h1 → gx_Ev S M d (pc + 3) L (r1.toList ++ rest) h1 Q) : gx_Ev S M d pc L st h Q := by
  obtain ⟨r1, h1, hq1, hm1, hC⟩ := ct
  obtain ⟨r, h', hq, hm, hk⟩ := kk r1 h1 hq1
  refine ⟨r, h', hq, ⟨by omega, by omega⟩, fun Z p l e R s m args below meth c Qw k1 k2 H locs ls J a1 a2 a3 a4 => ?_⟩
  have rc := J.2.2.2.1
  have rs := J.2.2.2.2.1
  have hts := J.1.2.2.2.2.1
  have pre := gx_pre (av := .ref b :: As) J.1.2.2.2.2.2.2 a2
  have hrv := va_recv J.1.2.2.2.2.2.2.1 (gx_one a2 hb) hcl (q0 := 0) rfl
  rw [hcn] at hrv
  refine gx_after (M' := M') J a1 hm1 a3 (va_runV (C := M'.1) (As := As) (rest := rest) ⟨J.1.1, J.1.2.1, J.1.2.2.1, J.1.2.2.2.1, J.1.2.2.2.2.1⟩ (hC Z l) ⟨gx_cb J hM hml hdd, hts _ hsx, hts _ hse⟩ ⟨pre.1, hrv, pre.2⟩ rfl hn a4.1.1 hst (by show 2 * 0 + _ ≤ 8; omega) hd ⟨by omega, by omega⟩) (fun H1 locs1 g1 g2 => ?_)
  exact hk Z p l e R s m args below meth c Qw k1 k2 H1 locs1 ls J ⟨by omega, by omega⟩ g1 g2 a4
/-- the one constructor that is private to a nest mate -/
theorem gx_invN {d' : Nat} {b : Nat} {rest : List Value} {Q' : Option Value → gx_H → Prop} (hMown : M.1 = RX5) (hd : decode M.2.2.1 pc = .ok (.invokespecial 24, 3)) (hM : gx_MT (RX0, yX0_init, cX0_init, 1, none) 0) (hst : st = .ref b :: rest) (hw : (rest.map fun v => v.category).sum ≤ 8) (hdd : d' + 1 ≤ d) (ct : gx_Cn S (RX0, yX0_init, cX0_init, 1, none) d' [.ref b] h Q') (kk : ∀ r1 h1, Q' r1 h1 → gx_Ev S M d (pc + 3) L (r1.toList ++ rest) h1 Q) : gx_Ev S M d pc L st h Q := by
  obtain ⟨r1, h1, hq1, hm1, hC⟩ := ct
  obtain ⟨r, h', hq, hm, hk⟩ := kk r1 h1 hq1
  refine ⟨r, h', hq, ⟨by omega, by omega⟩, fun Z p l e R s m args below meth c Qw k1 k2 H locs ls J a1 a2 a3 a4 => ?_⟩
  have rc := J.2.2.2.1
  have rs := J.2.2.2.2.1
  have hts := J.1.2.2.2.2.1
  have hf := J.2.1
  have hlo := J.2.2.1
  have hown := J.1.2.2.2.1
  rw [hMown] at hown
  obtain ⟨m1, m2, m3, m4, m5, m6⟩ := hM
  have cb : va_CN R s args RX5 24 yX0_init RX5 cX0_init 1 none (gx_ws (RX0, yX0_init, cX0_init, 1, none)) (gx_room d' (h1.1 - h.1) (h1.2.1 - h.2.1)) (h1.1 - h.1) (h1.2.1 - h.2.1) 0 := by
    refine va_cnB 0 hts (gx_in fun w hw => ?_) rfl rfl rfl J.1.2.2.2.2.2.2.2.2 (hts _ m2) m3 ⟨?_, ?_⟩
    · rcases List.mem_cons.mp hw with rfl | h9
      · exact m1
      · exact h9
    · show d' + 1 ≤ R.frames
      omega
    · show 8 + (1 + 11) + 34 * d' ≤ R.locals
      omega
  refine gx_after (M' := (RX0, yX0_init, cX0_init, 1, none)) J a1 hm1 a3 (va_runIN (As := []) (rest := rest) ⟨J.1.1, J.1.2.1, J.1.2.2.1, hown, hts⟩ (hC Z l) ⟨cb, rfl, hts _ wy_X0_init⟩ (gx_pre J.1.2.2.2.2.2.2 a2) rfl rfl a4.1.1 hst (by show 2 * 0 + _ ≤ 8; omega) hd ⟨by omega, by omega⟩) (fun H1 locs1 g1 g2 => ?_)
  exact hk Z p l e R s m args below meth c Qw k1 k2 H1 locs1 ls J ⟨by omega, by omega⟩ g1 g2 a4
theorem gx_objI {idx a : Nat} {rest : List Value} (hd : decode M.2.2.1 pc = .ok (.invokespecial idx, 3)) (hml : Cond.methodLink M.1 idx objectInit ∈ gx_Ts) (hw : (rest.map fun v => v.category).sum ≤ 8) (hdd : 1 ≤ d) (kk : gx_Ev S M d (pc + 3) L rest h Q) : gx_Ev S M d pc L (.ref a :: rest) h Q := by
  obtain ⟨r, h', hq, hm, hk⟩ := kk
  refine ⟨r, h', hq, hm, fun Z p l e R s m args below meth c Qw k1 k2 H locs ls J a1 a2 a3 a4 => ?_⟩
  have hts := J.1.2.2.2.2.1
  have hf := J.2.1
  have hlo := J.2.2.1
  exact W.objInit J.1.1 J.1.2.1 J.1.2.2.2.1 (hts _ hml) (hts _ wy_O) (hts _ wk_O) rfl (a4.1.1.trans J.1.2.2.1.symm) rfl hd (by omega) (by show 2 * 0 + _ + 12 ≤ _; omega) (hk Z p l e R s m args below meth c Qw k1 k2 H locs ls J a1 a2 a3 a4)
end CA
end
section
/-! the script -/
section SC
variable {S : gx_S} {M : gx_M} {d pc : Nat} {L : List (Option Value)} {st : List Value} {h : gx_H} {Q : Option Value → gx_H → Prop}
theorem gx_sld {i x : Int32} (hd : decode M.2.2.1 pc = .ok (.iaload, 1)) (hin : vp_in i S.2.2.1) (hx : S.2.2.2 i.toNatClampNeg = x) (kk : gx_Ev S M d (pc + 1) L (.int x :: st) h Q) : gx_Ev S M d pc L (.int i :: .ref S.2.1 :: st) h Q := by
  subst hx
  obtain ⟨r, h', hq, hm, hk⟩ := kk
  refine ⟨r, h', hq, hm, fun Z p l e R s m args below meth c Qw k1 k2 H locs ls J a1 a2 a3 a4 => ?_⟩
  obtain ⟨scr, h1, h2, h3, h4, h5⟩ := a2.2.2.2.2
  have hlt : i.toNatClampNeg < S.2.2.1 := Nat.not_le.mp fun q => hin (Or.inr q)
  exact W.iald (v := .int (S.2.2.2 i.toNatClampNeg)) J.1.1 J.1.2.1 h1 h2 h3 (by rw [h4]; exact hin) (h5 _ hlt) rfl rfl hd (hk Z p l e R s m args below meth c Qw k1 k2 H locs ls J a1 a2 a3 a4)
theorem gx_slen (hd : decode M.2.2.1 pc = .ok (.arraylength, 1)) (kk : gx_Ev S M d (pc + 1) L (.int (Int32.ofNat S.2.2.1) :: st) h Q) : gx_Ev S M d pc L (.ref S.2.1 :: st) h Q := by
  obtain ⟨r, h', hq, hm, hk⟩ := kk
  refine ⟨r, h', hq, hm, fun Z p l e R s m args below meth c Qw k1 k2 H locs ls J a1 a2 a3 a4 => ?_⟩
  obtain ⟨scr, h1, h2, h3, h4, h5⟩ := a2.2.2.2.2
  exact W.alen (n := Int32.ofNat S.2.2.1) J.1.1 J.1.2.1 h1 h2 (by rw [h4] <;> rfl) rfl rfl hd (hk Z p l e R s m args below meth c Qw k1 k2 H locs ls J a1 a2 a3 a4)
end SC
end
section

/-! THE CLAIM OUT OF ONE WALK OF THE LAW'S BODY. Your part is whole_start (and what it stands on); all else here is the same for every law, but numbers. -/
def R_law : String := "GroupOrderLaw"
def lw_P (b : Addr) (xs : List Int32) (args : Array Value) (s : State) : Prop := args = #[.ref b] ∧ s.IntsAt b xs ∧ xs.length ≤ 3073 ∧ (Jvm.Cond.and given_1 narrow_1).before args s = true
def lw_Q (_ : Array Value) (s : State) (o : Outcome) (t : State) : Prop := o = .returned (some (.int 1)) ∧ Framed s o t [] 600000 7302250
def lw_Z (below : List Frame) (a : Array Value) (s : State) : State → Prop := fun t => ∃ o, t.status = .running ∧ Ended t below o ∧ lw_Q a s o t
/-- the law's own end, with 1 on the stack, nothing written that was there before, its room as the claim has it -/
theorem lw_ret {p : Program} {l : Launch} {e : Env} {s : State} {m : MethodId} {below : List Frame} {meth : Method} {c : Code} {b : Nat} (hx : p.tables.exec = Jvm.exec) (hb : c.code = code) (hr : meth.sig.returnType = ret) (hlocks : meth.locks = false) {pc : Nat} {H : Heap} {ls : Array Slot} (hdg : decode code pc = .ok (.ireturn, 1)) : W p l e room_1 s m #[Value.ref b] below meth c H [] 600000 7302250 (lw_Z below #[Value.ref b] s) (F0 m pc ls [.int 1]) := by
  intro T hT X
  obtain ⟨fs, hret, hrun, hended, hW, hframe⟩ := X.leave (v := some (.int 1)) (hlocks := hlocks) (fun h => by rw [hr] at h; cases h)
  have hmeth' : T.vm.method? m = some meth := X.method'
  refine ⟨T.setFrames fs, ?_, .returned (some (.int 1)), hrun, hended, rfl, ⟨_, rfl⟩, hW, hframe⟩
  jvm_step X.here [X.here.top, hx, hb, hdg, hmeth', hr, ret, narrow_b1]
  (try refine ⟨rfl, ?_⟩); (try refine ⟨rfl, ?_⟩)
  first | (intro acts; rw [hret _ acts rfl rfl rfl]) | rw [hret _ _ rfl rfl rfl]
  exact Steps.refl _
/-- what holds at the law's entry: the machine, the code, the tables' words (any of lw_tbl by 'hts w (by decide +kernel)'), the script of L ints xs at the cell b, what the Statement gives of the start (any of its parts by flat_of_before) -/
def lw_At (p : Program) (s : State) (m : MethodId) (meth : Method) (c : Code) (b L : Nat) (xs : Nat → Int32) : Prop :=
  p.tables.exec = Jvm.exec ∧ c.code = code ∧ meth.sig.returnType = ret ∧ c.maxLocals = 4 ∧ s.vm.findClass R_law = some m.cls ∧ (∀ w ∈ lw_tbl, w.before #[Value.ref b] s = true) ∧ va_X b L xs s s.heap ∧ b < s.heap.size ∧ meth.locks = false ∧ (Jvm.Cond.and given_1 narrow_1).before #[Value.ref b] s = true

abbrev gm_L_law : gx_M := (RL, yL_law, cL_law, 4, some .boolean)
def gl_h0 (base : Nat) : gx_H := (base, 0, fun _ => none)
/-- what the walk of the law owes -/
def gl_Law : Prop := ∀ (S : gx_S), S.2.2.1 ≤ 3073 → gx_Ev S gm_L_law 9 0 [some (.ref S.2.1), none, none, none] [] (gl_h0 S.1) (fun r h' => r = some (.int 1) ∧ h'.1 ≤ S.1 + 600000 ∧ h'.2.1 ≤ 7302250)
theorem gl_class {s : State} {args : Array Value} (hts : ∀ w ∈ gx_Ts, w.before args s = true) : ∀ c : Nat, ∃ x : ClassId × (Nat → Nat), ∀ q, vwCl[c]? = some q → u_Kn s q.1 q.2.1 q.2.2 x.1 x.2 := by
  intro c
  have key : ∀ {C : String} {T : u_T} {N n : Nat}, vwCl[c]? = some (C, T, N) → (∀ w ∈ u_ws C T N, w ∈ gx_Ts) → Cond.instantiable C n ∈ gx_Ts → ∃ x : ClassId × (Nat → Nat), ∀ q, vwCl[c]? = some q → u_Kn s q.1 q.2.1 q.2.2 x.1 x.2 := by
    intro C T N n h1 h2 h3
    obtain ⟨cC, iS, h⟩ := u_known hts h2 (hts _ h3)
    refine ⟨(cC, iS), fun q hq => ?_⟩
    cases h1.symm.trans hq
    exact h
  rcases c with _ | _ | _ | _ | _ | _ | _ | c
  · exact key rfl wx_X0 wn_X0
  · exact key rfl wx_X1 wn_X1
  · exact key rfl wx_X2 wn_X2
  · exact key rfl wx_X3 wn_X3
  · exact key rfl wx_X4 wn_X4
  · exact key rfl wx_X5 wn_X5
  · exact key rfl wx_X6 wn_X6
  · exact ⟨(0, fun _ => 0), fun q hq => by cases hq⟩
theorem gl_arr {s : State} {args : Array Value} {ty : FieldType} (hp : ty = .int ∨ ty = .boolean) (h : (Cond.arrayClass ty).before args s = true) : ∃ cA : ClassId, ArrOfT s cA ty ∧ va_RA s cA ty := by
  obtain ⟨c, k, comp, h1, h2, h3⟩ := Cond.arrayClass_spec h
  refine ⟨c, fun n z => ⟨fun k h => (by cases h), k, h2, comp, h3⟩, ?_⟩
  rcases hp with rfl | rfl
  · exact h1
  · exact h1
theorem gl_arrO {s : State} {args : Array Value} {C : String} (h : (Cond.arrayOver (.object C)).before args s = true) : ∃ cA : ClassId, ArrOfT s cA (.object C) ∧ va_RA s cA (.object C) := by
  obtain ⟨comp, c, k, h1, h2, h3, h4, h5⟩ := Cond.arrayOver_spec h
  exact ⟨c, fun n z => ⟨fun k h => (by cases h), k, h3, comp, h4⟩, k, comp, h3, h4, h1, h5⟩
theorem gl_known {s : State} {args : Array Value} (ht : ∀ w ∈ lw_tbl, w.before args s = true) : ∃ Z : gx_Z, gx_Kn Z s := by
  have hts : ∀ w ∈ gx_Ts, w.before args s = true := fun w hw => ht w (List.mem_filter.mp hw).1
  obtain ⟨f, hf⟩ := Classical.axiomOfChoice (gl_class hts)
  obtain ⟨c0, a0⟩ := gl_arr (Or.inl rfl) (hts _ wa_int)
  obtain ⟨c1, a1⟩ := gl_arr (Or.inr rfl) (hts _ wa_boolean)
  obtain ⟨c2, a2⟩ := gl_arrO (ht _ wo_X1)
  obtain ⟨c3, a3⟩ := gl_arrO (ht _ wo_X2)
  obtain ⟨c4, a4⟩ := gl_arrO (ht _ wo_X3)
  obtain ⟨c5, a5⟩ := gl_arrO (ht _ wo_X4)
  refine ⟨(fun c => (f c).1, fun c => (f c).2, fun t => match t with | 0 => c0 | 1 => c1 | 2 => c2 | 3 => c3 | 4 => c4 | _ => c5), ⟨fun c q hq => hf c q hq, fun k q hk => ?_⟩, ⟨va_AO.of (ht _ wo_X1), va_AO.of (ht _ wo_X2), va_AO.of (ht _ wo_X3), va_AO.of (ht _ wo_X4)⟩, va_Nw.of rfl (ht _ wq_nest)⟩
  rcases k with _ | _ | _ | _ | _ | _ | k
  · cases hk; exact a0
  · cases hk; exact a1
  · cases hk; exact a2
  · cases hk; exact a3
  · cases hk; exact a4
  · cases hk; exact a5
  · cases hk
theorem gl_start (law : gl_Law) {p : Program} {e : Env} {s : State} {m : MethodId} {below : List Frame} {meth : Method} {c : Code} (l : Launch) {b L : Nat} {xs : Nat → Int32} (hL : L ≤ 3073) (C0 : lw_At p s m meth c b L xs) : W p l e room_1 s m #[Value.ref b] below meth c s.heap [] 0 0 (lw_Z below #[Value.ref b] s) (entryFrame m ([Value.ref b] : List Value).toArray 4) := by
  obtain ⟨hx, hb, hr, hml, hown, ht, hX, hbl, hlocks, -⟩ := C0
  have hts : ∀ w ∈ gx_Ts, w.before #[Value.ref b] s = true := fun w hw => ht w (List.mem_filter.mp hw).1
  obtain ⟨Z, hZ⟩ := gl_known ht
  obtain ⟨r, h', ⟨rfl, hc1, hc2⟩, hm, hk⟩ := law (s.heap.size, b, L, xs) hL
  have hen := lv_entry ([.ref b]) (n := 4) (Nat.le_of_ble_eq_true rfl)
  rw [lg_entry_eq]
  have hW := hk Z p l e room_1 s m #[Value.ref b] below meth c (lw_Z below #[Value.ref b] s) s.heap.size 0 s.heap [] _ ⟨⟨hx, hb, hml, hown, hts, fun e9 => absurd e9 (by decide), hZ⟩, Nat.le_refl _, by decide, by show h'.1 - s.heap.size ≤ 600000; have : h'.1 ≤ s.heap.size + 600000 := hc1; omega, by show h'.2.1 - 0 ≤ 7302250; omega, ?_⟩ ⟨Nat.le_refl _, Nat.le_refl _⟩ ⟨rfl, Nat.le_refl _, (fun a e9 h9 => nomatch h9), hbl, hX⟩ (fun q hq => by cases hq) ⟨⟨hen.1, hen.2.1, fun q hq => ?_⟩, Nat.le_refl 4⟩
  · rw [show (gl_h0 s.heap.size).1 - s.heap.size = 0 from Nat.sub_self _, show (gl_h0 s.heap.size).2.1 - 0 = 0 from rfl] at hW
    exact hW
  · intro H' locs' ls' pc' hrel hlocs hri
    refine va_forget (fun q hq => hlocs q hq) ?_
    refine W.widen (k := 600000) (n := 7302250) (by have : h'.1 ≤ s.heap.size + 600000 := hc1; omega) (by omega) ?_
    exact lw_ret hx hb hr hlocks hri
  · obtain ⟨i, v⟩ := q
    rw [gx_mem] at hq
    rcases i with _ | _ | _ | _ | i
    · cases hq
      exact hen.2.2 (0, .ref b) List.mem_cons_self
    · cases hq
    · cases hq
    · cases hq
    · cases hq
end
