section
-- ===== PART A: goes FIRST, ahead of the names: the tables' words, and 'selects' of the private methods out of them =====
/-- a private method of a class that the tables say can be made, by its rows of tables_1 -/
def lw_okq (q : MethodName × Nat) : Prop := (q.1.cls ≠ "java/lang/invoke/MethodHandle" ∧ q.1.cls ≠ "java/lang/invoke/VarHandle") ∧ Cond.instantiable q.1.cls q.2 ∈ tables_1 ∧ Cond.privateMethod q.1 ∈ tables_1 ∧ Cond.instanceMethod q.1 ∈ tables_1
theorem lw_p0 : lw_okq (⟨"GroupOrder", "answeredOrdersOf", "(I)J"⟩, 9) := ⟨⟨by decide +kernel, by decide +kernel⟩, List.mem_of_getElem? (i := 12) (by decide +kernel), List.mem_of_getElem? (i := 171) (by decide +kernel), List.mem_of_getElem? (i := 172) (by decide +kernel)⟩
theorem lw_p1 : lw_okq (⟨"GroupOrder", "putStarts", "(LGroupOrder$Order;)V"⟩, 9) := ⟨⟨by decide +kernel, by decide +kernel⟩, List.mem_of_getElem? (i := 12) (by decide +kernel), List.mem_of_getElem? (i := 175) (by decide +kernel), List.mem_of_getElem? (i := 176) (by decide +kernel)⟩
theorem lw_p2 : lw_okq (⟨"GroupOrder", "keeperOf", "(I)LGroupOrder$Group;"⟩, 9) := ⟨⟨by decide +kernel, by decide +kernel⟩, List.mem_of_getElem? (i := 12) (by decide +kernel), List.mem_of_getElem? (i := 179) (by decide +kernel), List.mem_of_getElem? (i := 180) (by decide +kernel)⟩
theorem lw_p3 : lw_okq (⟨"GroupOrder", "deliver", "(IZ)I"⟩, 9) := ⟨⟨by decide +kernel, by decide +kernel⟩, List.mem_of_getElem? (i := 12) (by decide +kernel), List.mem_of_getElem? (i := 268) (by decide +kernel), List.mem_of_getElem? (i := 269) (by decide +kernel)⟩
theorem lw_p4 : lw_okq (⟨"GroupOrder", "receive", "(LGroupOrder$Group;LGroupOrder$Message;)V"⟩, 9) := ⟨⟨by decide +kernel, by decide +kernel⟩, List.mem_of_getElem? (i := 12) (by decide +kernel), List.mem_of_getElem? (i := 280) (by decide +kernel), List.mem_of_getElem? (i := 281) (by decide +kernel)⟩
theorem lw_p5 : lw_okq (⟨"GroupOrder$Group", "earliestWaiting", "()LGroupOrder$Part;"⟩, 7) := ⟨⟨by decide +kernel, by decide +kernel⟩, List.mem_of_getElem? (i := 47) (by decide +kernel), List.mem_of_getElem? (i := 301) (by decide +kernel), List.mem_of_getElem? (i := 302) (by decide +kernel)⟩
theorem lw_p6 : lw_okq (⟨"GroupOrder$Part", "leastTime", "()I"⟩, 11) := ⟨⟨by decide +kernel, by decide +kernel⟩, List.mem_of_getElem? (i := 186) (by decide +kernel), List.mem_of_getElem? (i := 313) (by decide +kernel), List.mem_of_getElem? (i := 314) (by decide +kernel)⟩
theorem lw_p7 : lw_okq (⟨"GroupOrder", "workOutAll", "(LGroupOrder$Group;)V"⟩, 9) := ⟨⟨by decide +kernel, by decide +kernel⟩, List.mem_of_getElem? (i := 12) (by decide +kernel), List.mem_of_getElem? (i := 320) (by decide +kernel), List.mem_of_getElem? (i := 321) (by decide +kernel)⟩
theorem lw_p8 : lw_okq (⟨"GroupOrder", "putValues", "(LGroupOrder$Part;)V"⟩, 9) := ⟨⟨by decide +kernel, by decide +kernel⟩, List.mem_of_getElem? (i := 12) (by decide +kernel), List.mem_of_getElem? (i := 324) (by decide +kernel), List.mem_of_getElem? (i := 325) (by decide +kernel)⟩
theorem lw_p9 : lw_okq (⟨"GroupOrder", "workOut", "(LGroupOrder$Part;)V"⟩, 9) := ⟨⟨by decide +kernel, by decide +kernel⟩, List.mem_of_getElem? (i := 12) (by decide +kernel), List.mem_of_getElem? (i := 328) (by decide +kernel), List.mem_of_getElem? (i := 329) (by decide +kernel)⟩
theorem lw_p10 : lw_okq (⟨"GroupOrder", "isGroup", "(I)Z"⟩, 9) := ⟨⟨by decide +kernel, by decide +kernel⟩, List.mem_of_getElem? (i := 12) (by decide +kernel), List.mem_of_getElem? (i := 357) (by decide +kernel), List.mem_of_getElem? (i := 358) (by decide +kernel)⟩
theorem lw_p11 : lw_okq (⟨"GroupOrder", "hasOrder", "(I)Z"⟩, 9) := ⟨⟨by decide +kernel, by decide +kernel⟩, List.mem_of_getElem? (i := 12) (by decide +kernel), List.mem_of_getElem? (i := 381) (by decide +kernel), List.mem_of_getElem? (i := 382) (by decide +kernel)⟩
theorem lw_p12 : lw_okq (⟨"GroupOrder", "groupsTookInOrder", "()Z"⟩, 9) := ⟨⟨by decide +kernel, by decide +kernel⟩, List.mem_of_getElem? (i := 12) (by decide +kernel), List.mem_of_getElem? (i := 406) (by decide +kernel), List.mem_of_getElem? (i := 407) (by decide +kernel)⟩
theorem lw_p13 : lw_okq (⟨"GroupOrder", "isBehind", "(LGroupOrder$Order;LGroupOrder$Order;)Z"⟩, 9) := ⟨⟨by decide +kernel, by decide +kernel⟩, List.mem_of_getElem? (i := 12) (by decide +kernel), List.mem_of_getElem? (i := 410) (by decide +kernel), List.mem_of_getElem? (i := 411) (by decide +kernel)⟩
theorem lw_p14 : lw_okq (⟨"GroupOrder", "finalTimeOf", "(LGroupOrder$Order;)I"⟩, 9) := ⟨⟨by decide +kernel, by decide +kernel⟩, List.mem_of_getElem? (i := 12) (by decide +kernel), List.mem_of_getElem? (i := 414) (by decide +kernel), List.mem_of_getElem? (i := 415) (by decide +kernel)⟩
theorem lw_p15 : lw_okq (⟨"GroupOrder", "clientsWereFollowed", "()Z"⟩, 9) := ⟨⟨by decide +kernel, by decide +kernel⟩, List.mem_of_getElem? (i := 12) (by decide +kernel), List.mem_of_getElem? (i := 419) (by decide +kernel), List.mem_of_getElem? (i := 420) (by decide +kernel)⟩
def lw_privs_1 : List (MethodName × Nat) := [(⟨"GroupOrder", "answeredOrdersOf", "(I)J"⟩, 9), (⟨"GroupOrder", "putStarts", "(LGroupOrder$Order;)V"⟩, 9), (⟨"GroupOrder", "keeperOf", "(I)LGroupOrder$Group;"⟩, 9), (⟨"GroupOrder", "deliver", "(IZ)I"⟩, 9), (⟨"GroupOrder", "receive", "(LGroupOrder$Group;LGroupOrder$Message;)V"⟩, 9), (⟨"GroupOrder$Group", "earliestWaiting", "()LGroupOrder$Part;"⟩, 7), (⟨"GroupOrder$Part", "leastTime", "()I"⟩, 11), (⟨"GroupOrder", "workOutAll", "(LGroupOrder$Group;)V"⟩, 9), (⟨"GroupOrder", "putValues", "(LGroupOrder$Part;)V"⟩, 9), (⟨"GroupOrder", "workOut", "(LGroupOrder$Part;)V"⟩, 9), (⟨"GroupOrder", "isGroup", "(I)Z"⟩, 9), (⟨"GroupOrder", "hasOrder", "(I)Z"⟩, 9), (⟨"GroupOrder", "groupsTookInOrder", "()Z"⟩, 9), (⟨"GroupOrder", "isBehind", "(LGroupOrder$Order;LGroupOrder$Order;)Z"⟩, 9), (⟨"GroupOrder", "finalTimeOf", "(LGroupOrder$Order;)I"⟩, 9), (⟨"GroupOrder", "clientsWereFollowed", "()Z"⟩, 9)]
theorem lw_r1 : ∀ q ∈ lw_privs_1, lw_okq q := List.forall_mem_cons.mpr ⟨lw_p0, List.forall_mem_cons.mpr ⟨lw_p1, List.forall_mem_cons.mpr ⟨lw_p2, List.forall_mem_cons.mpr ⟨lw_p3, List.forall_mem_cons.mpr ⟨lw_p4, List.forall_mem_cons.mpr ⟨lw_p5, List.forall_mem_cons.mpr ⟨lw_p6, List.forall_mem_cons.mpr ⟨lw_p7, List.forall_mem_cons.mpr ⟨lw_p8, List.forall_mem_cons.mpr ⟨lw_p9, List.forall_mem_cons.mpr ⟨lw_p10, List.forall_mem_cons.mpr ⟨lw_p11, List.forall_mem_cons.mpr ⟨lw_p12, List.forall_mem_cons.mpr ⟨lw_p13, List.forall_mem_cons.mpr ⟨lw_p14, List.forall_mem_cons.mpr ⟨lw_p15, fun _ h => absurd h List.not_mem_nil⟩⟩⟩⟩⟩⟩⟩⟩⟩⟩⟩⟩⟩⟩⟩⟩
theorem lw_p16 : lw_okq (⟨"GroupOrder", "replayGivesTheSame", "()Z"⟩, 9) := ⟨⟨by decide +kernel, by decide +kernel⟩, List.mem_of_getElem? (i := 12) (by decide +kernel), List.mem_of_getElem? (i := 423) (by decide +kernel), List.mem_of_getElem? (i := 424) (by decide +kernel)⟩
theorem lw_p17 : lw_okq (⟨"GroupOrder", "nextAnswered", "(LGroupOrder$Order;)LGroupOrder$Order;"⟩, 9) := ⟨⟨by decide +kernel, by decide +kernel⟩, List.mem_of_getElem? (i := 12) (by decide +kernel), List.mem_of_getElem? (i := 427) (by decide +kernel), List.mem_of_getElem? (i := 428) (by decide +kernel)⟩
theorem lw_p18 : lw_okq (⟨"GroupOrder", "replayAnswersTheSame", "(LGroupOrder$Order;)Z"⟩, 9) := ⟨⟨by decide +kernel, by decide +kernel⟩, List.mem_of_getElem? (i := 12) (by decide +kernel), List.mem_of_getElem? (i := 431) (by decide +kernel), List.mem_of_getElem? (i := 432) (by decide +kernel)⟩
theorem lw_p19 : lw_okq (⟨"GroupOrder", "isWorkedOutAt", "(LGroupOrder$Order;I)Z"⟩, 9) := ⟨⟨by decide +kernel, by decide +kernel⟩, List.mem_of_getElem? (i := 12) (by decide +kernel), List.mem_of_getElem? (i := 435) (by decide +kernel), List.mem_of_getElem? (i := 436) (by decide +kernel)⟩
theorem lw_p20 : lw_okq (⟨"GroupOrder", "countAnswered", "()I"⟩, 9) := ⟨⟨by decide +kernel, by decide +kernel⟩, List.mem_of_getElem? (i := 12) (by decide +kernel), List.mem_of_getElem? (i := 443) (by decide +kernel), List.mem_of_getElem? (i := 444) (by decide +kernel)⟩
theorem lw_p21 : lw_okq (⟨"GroupOrder", "countWorkedOutByAll", "()I"⟩, 9) := ⟨⟨by decide +kernel, by decide +kernel⟩, List.mem_of_getElem? (i := 12) (by decide +kernel), List.mem_of_getElem? (i := 447) (by decide +kernel), List.mem_of_getElem? (i := 448) (by decide +kernel)⟩
theorem lw_p22 : lw_okq (⟨"GroupOrderModel", "putOthers", "(IIII)V"⟩, 34) := ⟨⟨by decide +kernel, by decide +kernel⟩, List.mem_of_getElem? (i := 454) (by decide +kernel), List.mem_of_getElem? (i := 572) (by decide +kernel), List.mem_of_getElem? (i := 573) (by decide +kernel)⟩
theorem lw_p23 : lw_okq (⟨"GroupOrderModel", "isOf", "(II)Z"⟩, 34) := ⟨⟨by decide +kernel, by decide +kernel⟩, List.mem_of_getElem? (i := 454) (by decide +kernel), List.mem_of_getElem? (i := 576) (by decide +kernel), List.mem_of_getElem? (i := 577) (by decide +kernel)⟩
theorem lw_p24 : lw_okq (⟨"GroupOrderModel", "put", "(IIIII)V"⟩, 34) := ⟨⟨by decide +kernel, by decide +kernel⟩, List.mem_of_getElem? (i := 454) (by decide +kernel), List.mem_of_getElem? (i := 580) (by decide +kernel), List.mem_of_getElem? (i := 581) (by decide +kernel)⟩
theorem lw_p25 : lw_okq (⟨"GroupOrderModel", "move", "(II)V"⟩, 34) := ⟨⟨by decide +kernel, by decide +kernel⟩, List.mem_of_getElem? (i := 454) (by decide +kernel), List.mem_of_getElem? (i := 588) (by decide +kernel), List.mem_of_getElem? (i := 589) (by decide +kernel)⟩
theorem lw_p26 : lw_okq (⟨"GroupOrderModel", "comes", "(I)V"⟩, 34) := ⟨⟨by decide +kernel, by decide +kernel⟩, List.mem_of_getElem? (i := 454) (by decide +kernel), List.mem_of_getElem? (i := 592) (by decide +kernel), List.mem_of_getElem? (i := 593) (by decide +kernel)⟩
theorem lw_p27 : lw_okq (⟨"GroupOrderModel", "comesStart", "(II)V"⟩, 34) := ⟨⟨by decide +kernel, by decide +kernel⟩, List.mem_of_getElem? (i := 454) (by decide +kernel), List.mem_of_getElem? (i := 596) (by decide +kernel), List.mem_of_getElem? (i := 597) (by decide +kernel)⟩
theorem lw_p28 : lw_okq (⟨"GroupOrderModel", "makesFinal", "(I)Z"⟩, 34) := ⟨⟨by decide +kernel, by decide +kernel⟩, List.mem_of_getElem? (i := 454) (by decide +kernel), List.mem_of_getElem? (i := 606) (by decide +kernel), List.mem_of_getElem? (i := 607) (by decide +kernel)⟩
theorem lw_p29 : lw_okq (⟨"GroupOrderModel", "takes", "(I)Z"⟩, 34) := ⟨⟨by decide +kernel, by decide +kernel⟩, List.mem_of_getElem? (i := 454) (by decide +kernel), List.mem_of_getElem? (i := 610) (by decide +kernel), List.mem_of_getElem? (i := 611) (by decide +kernel)⟩
theorem lw_p30 : lw_okq (⟨"GroupOrderModel", "works", "(I)Z"⟩, 34) := ⟨⟨by decide +kernel, by decide +kernel⟩, List.mem_of_getElem? (i := 454) (by decide +kernel), List.mem_of_getElem? (i := 614) (by decide +kernel), List.mem_of_getElem? (i := 615) (by decide +kernel)⟩
theorem lw_p31 : lw_okq (⟨"GroupOrderModel", "workOut", "(II)V"⟩, 34) := ⟨⟨by decide +kernel, by decide +kernel⟩, List.mem_of_getElem? (i := 454) (by decide +kernel), List.mem_of_getElem? (i := 618) (by decide +kernel), List.mem_of_getElem? (i := 619) (by decide +kernel)⟩
def lw_privs_2 : List (MethodName × Nat) := [(⟨"GroupOrder", "replayGivesTheSame", "()Z"⟩, 9), (⟨"GroupOrder", "nextAnswered", "(LGroupOrder$Order;)LGroupOrder$Order;"⟩, 9), (⟨"GroupOrder", "replayAnswersTheSame", "(LGroupOrder$Order;)Z"⟩, 9), (⟨"GroupOrder", "isWorkedOutAt", "(LGroupOrder$Order;I)Z"⟩, 9), (⟨"GroupOrder", "countAnswered", "()I"⟩, 9), (⟨"GroupOrder", "countWorkedOutByAll", "()I"⟩, 9), (⟨"GroupOrderModel", "putOthers", "(IIII)V"⟩, 34), (⟨"GroupOrderModel", "isOf", "(II)Z"⟩, 34), (⟨"GroupOrderModel", "put", "(IIIII)V"⟩, 34), (⟨"GroupOrderModel", "move", "(II)V"⟩, 34), (⟨"GroupOrderModel", "comes", "(I)V"⟩, 34), (⟨"GroupOrderModel", "comesStart", "(II)V"⟩, 34), (⟨"GroupOrderModel", "makesFinal", "(I)Z"⟩, 34), (⟨"GroupOrderModel", "takes", "(I)Z"⟩, 34), (⟨"GroupOrderModel", "works", "(I)Z"⟩, 34), (⟨"GroupOrderModel", "workOut", "(II)V"⟩, 34)]
theorem lw_r2 : ∀ q ∈ lw_privs_2, lw_okq q := List.forall_mem_cons.mpr ⟨lw_p16, List.forall_mem_cons.mpr ⟨lw_p17, List.forall_mem_cons.mpr ⟨lw_p18, List.forall_mem_cons.mpr ⟨lw_p19, List.forall_mem_cons.mpr ⟨lw_p20, List.forall_mem_cons.mpr ⟨lw_p21, List.forall_mem_cons.mpr ⟨lw_p22, List.forall_mem_cons.mpr ⟨lw_p23, List.forall_mem_cons.mpr ⟨lw_p24, List.forall_mem_cons.mpr ⟨lw_p25, List.forall_mem_cons.mpr ⟨lw_p26, List.forall_mem_cons.mpr ⟨lw_p27, List.forall_mem_cons.mpr ⟨lw_p28, List.forall_mem_cons.mpr ⟨lw_p29, List.forall_mem_cons.mpr ⟨lw_p30, List.forall_mem_cons.mpr ⟨lw_p31, fun _ h => absurd h List.not_mem_nil⟩⟩⟩⟩⟩⟩⟩⟩⟩⟩⟩⟩⟩⟩⟩⟩
theorem lw_p32 : lw_okq (⟨"GroupOrderModel", "doneCount", "()I"⟩, 34) := ⟨⟨by decide +kernel, by decide +kernel⟩, List.mem_of_getElem? (i := 454) (by decide +kernel), List.mem_of_getElem? (i := 674) (by decide +kernel), List.mem_of_getElem? (i := 675) (by decide +kernel)⟩
def lw_privs_3 : List (MethodName × Nat) := [(⟨"GroupOrderModel", "doneCount", "()I"⟩, 34)]
theorem lw_r3 : ∀ q ∈ lw_privs_3, lw_okq q := List.forall_mem_cons.mpr ⟨lw_p32, fun _ h => absurd h List.not_mem_nil⟩
def lw_privs : List (MethodName × Nat) := lw_privs_1 ++ (lw_privs_2 ++ (lw_privs_3))
def lw_tbl : List Cond := k2_sels lw_privs ++ tables_1
theorem lw_privs_ok : ∀ q ∈ lw_privs, lw_okq q := by
  show ∀ q ∈ lw_privs_1 ++ (lw_privs_2 ++ (lw_privs_3)), lw_okq q
  exact List.forall_mem_append.mpr ⟨lw_r1, List.forall_mem_append.mpr ⟨lw_r2, lw_r3⟩⟩
end
section
def RX0 : String := "GroupOrder$Flights"
def TX0 : u_T := fun k => match k with
  | 0 => ("GroupOrder$Flights", "row", "[LGroupOrder$Message;", true)
  | _ => ("GroupOrder$Flights", "size", "I", false)
def tyX0 : Nat → FieldType := fun k => match k with
  | 0 => .array (.object "GroupOrder$Message")
  | _ => .int
abbrev wsX00 : List Cond := u_ws RX0 TX0 2
theorem nmX0 : ∀ a, a < 2 → ∀ b, b < 2 → a ≠ b → (TX0 a).2.1 ≠ (TX0 b).2.1 := by decide +kernel
theorem tyX0_ok : ∀ k, k < 2 → parseFieldDescriptor (TX0 k).2.2.1 = some (tyX0 k) := by decide +kernel
abbrev cX0_init : ByteArray := prog_2_method_1_code
def yX0_init : MethodName := ⟨RX0, "<init>", "()V"⟩
abbrev cX0_has : ByteArray := prog_2_method_2_code
def yX0_has : MethodName := ⟨RX0, "has", "(I)Z"⟩
abbrev cX0_put : ByteArray := prog_2_method_3_code
def yX0_put : MethodName := ⟨RX0, "put", "(LGroupOrder$Message;)V"⟩
abbrev cX0_drop : ByteArray := prog_2_method_4_code
def yX0_drop : MethodName := ⟨RX0, "drop", "(I)V"⟩
def RX1 : String := "GroupOrder$Group"
def TX1 : u_T := fun k => match k with
  | 0 => ("GroupOrder$Group", "number", "I", true)
  | 1 => ("GroupOrder$Group", "isUp", "Z", false)
  | 2 => ("GroupOrder$Group", "clockTime", "I", false)
  | 3 => ("GroupOrder$Group", "parts", "[LGroupOrder$Part;", true)
  | 4 => ("GroupOrder$Group", "takenParts", "[LGroupOrder$Part;", true)
  | 5 => ("GroupOrder$Group", "takenCount", "I", false)
  | _ => ("GroupOrder$Group", "workedOutCount", "I", false)
def tyX1 : Nat → FieldType := fun k => match k with
  | 0 => .int
  | 1 => .boolean
  | 2 => .int
  | 3 => .array (.object "GroupOrder$Part")
  | 4 => .array (.object "GroupOrder$Part")
  | 5 => .int
  | _ => .int
abbrev wsX10 : List Cond := u_ws RX1 TX1 7
theorem nmX1 : ∀ a, a < 7 → ∀ b, b < 7 → a ≠ b → (TX1 a).2.1 ≠ (TX1 b).2.1 := by decide +kernel
theorem tyX1_ok : ∀ k, k < 7 → parseFieldDescriptor (TX1 k).2.2.1 = some (tyX1 k) := by decide +kernel
abbrev cX1_init : ByteArray := prog_3_method_1_code
def yX1_init : MethodName := ⟨RX1, "<init>", "(I)V"⟩
abbrev cX1_partFor : ByteArray := prog_3_method_2_code
def yX1_partFor : MethodName := ⟨RX1, "partFor", "(LGroupOrder$Order;)LGroupOrder$Part;"⟩
abbrev cX1_start : ByteArray := prog_3_method_3_code
def yX1_start : MethodName := ⟨RX1, "start", "(LGroupOrder$Part;)V"⟩
abbrev cX1_makeFinal : ByteArray := prog_3_method_4_code
def yX1_makeFinal : MethodName := ⟨RX1, "makeFinal", "()V"⟩
abbrev cX1_takeAll : ByteArray := prog_3_method_5_code
def yX1_takeAll : MethodName := ⟨RX1, "takeAll", "()V"⟩
abbrev cX1_earliestWaiting : ByteArray := prog_3_method_6_code
def yX1_earliestWaiting : MethodName := ⟨RX1, "earliestWaiting", "()LGroupOrder$Part;"⟩
def RX2 : String := "GroupOrder$Message"
def TX2 : u_T := fun k => match k with
  | 0 => ("GroupOrder$Message", "kind", "I", true)
  | 1 => ("GroupOrder$Message", "from", "I", true)
  | 2 => ("GroupOrder$Message", "to", "LGroupOrder$Part;", true)
  | _ => ("GroupOrder$Message", "content", "I", true)
def tyX2 : Nat → FieldType := fun k => match k with
  | 0 => .int
  | 1 => .int
  | 2 => .object "GroupOrder$Part"
  | _ => .int
abbrev wsX20 : List Cond := u_ws RX2 TX2 4
theorem nmX2 : ∀ a, a < 4 → ∀ b, b < 4 → a ≠ b → (TX2 a).2.1 ≠ (TX2 b).2.1 := by decide +kernel
theorem tyX2_ok : ∀ k, k < 4 → parseFieldDescriptor (TX2 k).2.2.1 = some (tyX2 k) := by decide +kernel
abbrev cX2_init : ByteArray := prog_4_method_1_code
def yX2_init : MethodName := ⟨RX2, "<init>", "(IILGroupOrder$Part;I)V"⟩
def RX3 : String := "GroupOrder$Order"
def TX3 : u_T := fun k => match k with
  | 0 => ("GroupOrder$Order", "number", "I", true)
  | 1 => ("GroupOrder$Order", "client", "I", true)
  | 2 => ("GroupOrder$Order", "kind", "I", true)
  | 3 => ("GroupOrder$Order", "a", "I", true)
  | 4 => ("GroupOrder$Order", "b", "I", true)
  | 5 => ("GroupOrder$Order", "c", "I", true)
  | 6 => ("GroupOrder$Order", "clientTime", "I", false)
  | 7 => ("GroupOrder$Order", "answeredBefore", "J", false)
  | 8 => ("GroupOrder$Order", "isAnswered", "Z", false)
  | _ => ("GroupOrder$Order", "result", "I", false)
def tyX3 : Nat → FieldType := fun k => match k with
  | 0 => .int
  | 1 => .int
  | 2 => .int
  | 3 => .int
  | 4 => .int
  | 5 => .int
  | 6 => .int
  | 7 => .long
  | 8 => .boolean
  | _ => .int
abbrev wsX30 : List Cond := u_ws RX3 TX3 10
theorem nmX3 : ∀ a, a < 10 → ∀ b, b < 10 → a ≠ b → (TX3 a).2.1 ≠ (TX3 b).2.1 := by decide +kernel
theorem tyX3_ok : ∀ k, k < 10 → parseFieldDescriptor (TX3 k).2.2.1 = some (tyX3 k) := by decide +kernel
abbrev cX3_init : ByteArray := prog_5_method_1_code
def yX3_init : MethodName := ⟨RX3, "<init>", "(IIIIII)V"⟩
abbrev cX3_isMoved : ByteArray := prog_5_method_2_code
def yX3_isMoved : MethodName := ⟨RX3, "isMoved", "(I)Z"⟩
abbrev cX3_behindA : ByteArray := prog_5_method_3_code
def yX3_behindA : MethodName := ⟨RX3, "behindA", "(II)I"⟩
abbrev cX3_behindB : ByteArray := prog_5_method_4_code
def yX3_behindB : MethodName := ⟨RX3, "behindB", "(II)I"⟩
abbrev cX3_reply : ByteArray := prog_5_method_5_code
def yX3_reply : MethodName := ⟨RX3, "reply", "(II)I"⟩
def RX4 : String := "GroupOrder$Part"
def TX4 : u_T := fun k => match k with
  | 0 => ("GroupOrder$Part", "order", "LGroupOrder$Order;", true)
  | 1 => ("GroupOrder$Part", "group", "I", true)
  | 2 => ("GroupOrder$Part", "other", "LGroupOrder$Part;", false)
  | 3 => ("GroupOrder$Part", "localTime", "I", false)
  | 4 => ("GroupOrder$Part", "otherLocalTime", "I", false)
  | 5 => ("GroupOrder$Part", "finalTime", "I", false)
  | 6 => ("GroupOrder$Part", "isTaken", "Z", false)
  | 7 => ("GroupOrder$Part", "wasValueSent", "Z", false)
  | 8 => ("GroupOrder$Part", "hasOtherValue", "Z", false)
  | 9 => ("GroupOrder$Part", "otherValue", "I", false)
  | _ => ("GroupOrder$Part", "isWorkedOut", "Z", false)
def tyX4 : Nat → FieldType := fun k => match k with
  | 0 => .object "GroupOrder$Order"
  | 1 => .int
  | 2 => .object "GroupOrder$Part"
  | 3 => .int
  | 4 => .int
  | 5 => .int
  | 6 => .boolean
  | 7 => .boolean
  | 8 => .boolean
  | 9 => .int
  | _ => .boolean
abbrev wsX40 : List Cond := u_ws RX4 TX4 11
theorem nmX4 : ∀ a, a < 11 → ∀ b, b < 11 → a ≠ b → (TX4 a).2.1 ≠ (TX4 b).2.1 := by decide +kernel
theorem tyX4_ok : ∀ k, k < 11 → parseFieldDescriptor (TX4 k).2.2.1 = some (tyX4 k) := by decide +kernel
abbrev cX4_init : ByteArray := prog_6_method_1_code
def yX4_init : MethodName := ⟨RX4, "<init>", "(LGroupOrder$Order;I)V"⟩
abbrev cX4_hasAllLocalTimes : ByteArray := prog_6_method_2_code
def yX4_hasAllLocalTimes : MethodName := ⟨RX4, "hasAllLocalTimes", "()Z"⟩
abbrev cX4_waits : ByteArray := prog_6_method_3_code
def yX4_waits : MethodName := ⟨RX4, "waits", "()Z"⟩
abbrev cX4_isEarlierThan : ByteArray := prog_6_method_4_code
def yX4_isEarlierThan : MethodName := ⟨RX4, "isEarlierThan", "(LGroupOrder$Part;)Z"⟩
abbrev cX4_leastTime : ByteArray := prog_6_method_5_code
def yX4_leastTime : MethodName := ⟨RX4, "leastTime", "()I"⟩
def RX5 : String := "GroupOrder"
def TX5 : u_T := fun k => match k with
  | 0 => ("GroupOrder", "groups", "[LGroupOrder$Group;", true)
  | 1 => ("GroupOrder", "values", "[I", true)
  | 2 => ("GroupOrder", "clientTimes", "[I", true)
  | 3 => ("GroupOrder", "orders", "[LGroupOrder$Order;", true)
  | 4 => ("GroupOrder", "flights", "LGroupOrder$Flights;", true)
  | 5 => ("GroupOrder", "orderCount", "I", false)
  | 6 => ("GroupOrder", "broughtCount", "I", false)
  | 7 => ("GroupOrder", "serialValues", "[I", true)
  | _ => ("GroupOrder", "dueValues", "[I", true)
def tyX5 : Nat → FieldType := fun k => match k with
  | 0 => .array (.object "GroupOrder$Group")
  | 1 => .array .int
  | 2 => .array .int
  | 3 => .array (.object "GroupOrder$Order")
  | 4 => .object "GroupOrder$Flights"
  | 5 => .int
  | 6 => .int
  | 7 => .array .int
  | _ => .array .int
abbrev wsX50 : List Cond := u_ws RX5 TX5 9
theorem nmX5 : ∀ a, a < 9 → ∀ b, b < 9 → a ≠ b → (TX5 a).2.1 ≠ (TX5 b).2.1 := by decide +kernel
theorem tyX5_ok : ∀ k, k < 9 → parseFieldDescriptor (TX5 k).2.2.1 = some (tyX5 k) := by decide +kernel
abbrev cX5_init : ByteArray := prog_1_method_1_code
def yX5_init : MethodName := ⟨RX5, "<init>", "(I)V"⟩
abbrev cX5_send : ByteArray := prog_1_method_2_code
def yX5_send : MethodName := ⟨RX5, "send", "(IIIII)I"⟩
abbrev cX5_bring : ByteArray := prog_1_method_3_code
def yX5_bring : MethodName := ⟨RX5, "bring", "(I)I"⟩
abbrev cX5_twice : ByteArray := prog_1_method_4_code
def yX5_twice : MethodName := ⟨RX5, "twice", "(I)I"⟩
abbrev cX5_up : ByteArray := prog_1_method_5_code
def yX5_up : MethodName := ⟨RX5, "up", "(IZ)Z"⟩
abbrev cX5_flight : ByteArray := prog_1_method_6_code
def yX5_flight : MethodName := ⟨RX5, "flight", "(II)I"⟩
abbrev cX5_flying : ByteArray := prog_1_method_7_code
def yX5_flying : MethodName := ⟨RX5, "flying", "()I"⟩
abbrev cX5_taken : ByteArray := prog_1_method_8_code
def yX5_taken : MethodName := ⟨RX5, "taken", "(II)I"⟩
abbrev cX5_answer : ByteArray := prog_1_method_9_code
def yX5_answer : MethodName := ⟨RX5, "answer", "(I)I"⟩
abbrev cX5_answered : ByteArray := prog_1_method_10_code
def yX5_answered : MethodName := ⟨RX5, "answered", "(I)Z"⟩
abbrev cX5_time : ByteArray := prog_1_method_11_code
def yX5_time : MethodName := ⟨RX5, "time", "(III)I"⟩
abbrev cX5_value : ByteArray := prog_1_method_12_code
def yX5_value : MethodName := ⟨RX5, "value", "(I)I"⟩
abbrev cX5_clock : ByteArray := prog_1_method_13_code
def yX5_clock : MethodName := ⟨RX5, "clock", "(I)I"⟩
abbrev cX5_seen : ByteArray := prog_1_method_14_code
def yX5_seen : MethodName := ⟨RX5, "seen", "(I)I"⟩
abbrev cX5_agree : ByteArray := prog_1_method_15_code
def yX5_agree : MethodName := ⟨RX5, "agree", "()Z"⟩
abbrev cX5_count : ByteArray := prog_1_method_16_code
def yX5_count : MethodName := ⟨RX5, "count", "(I)I"⟩
abbrev cX5_isGroup : ByteArray := prog_1_method_17_code
def yX5_isGroup : MethodName := ⟨RX5, "isGroup", "(I)Z"⟩
abbrev cX5_hasOrder : ByteArray := prog_1_method_18_code
def yX5_hasOrder : MethodName := ⟨RX5, "hasOrder", "(I)Z"⟩
abbrev cX5_isClient : ByteArray := prog_1_method_19_code
def yX5_isClient : MethodName := ⟨RX5, "isClient", "(I)Z"⟩
abbrev cX5_isKey : ByteArray := prog_1_method_20_code
def yX5_isKey : MethodName := ⟨RX5, "isKey", "(I)Z"⟩
abbrev cX5_isOrder : ByteArray := prog_1_method_21_code
def yX5_isOrder : MethodName := ⟨RX5, "isOrder", "(IIIII)Z"⟩
abbrev cX5_keeperOf : ByteArray := prog_1_method_22_code
def yX5_keeperOf : MethodName := ⟨RX5, "keeperOf", "(I)LGroupOrder$Group;"⟩
abbrev cX5_answeredOrdersOf : ByteArray := prog_1_method_23_code
def yX5_answeredOrdersOf : MethodName := ⟨RX5, "answeredOrdersOf", "(I)J"⟩
abbrev cX5_putStarts : ByteArray := prog_1_method_24_code
def yX5_putStarts : MethodName := ⟨RX5, "putStarts", "(LGroupOrder$Order;)V"⟩
abbrev cX5_deliver : ByteArray := prog_1_method_25_code
def yX5_deliver : MethodName := ⟨RX5, "deliver", "(IZ)I"⟩
abbrev cX5_receive : ByteArray := prog_1_method_26_code
def yX5_receive : MethodName := ⟨RX5, "receive", "(LGroupOrder$Group;LGroupOrder$Message;)V"⟩
abbrev cX5_workOutAll : ByteArray := prog_1_method_27_code
def yX5_workOutAll : MethodName := ⟨RX5, "workOutAll", "(LGroupOrder$Group;)V"⟩
abbrev cX5_putValues : ByteArray := prog_1_method_28_code
def yX5_putValues : MethodName := ⟨RX5, "putValues", "(LGroupOrder$Part;)V"⟩
abbrev cX5_workOut : ByteArray := prog_1_method_29_code
def yX5_workOut : MethodName := ⟨RX5, "workOut", "(LGroupOrder$Part;)V"⟩
abbrev cX5_countAnswered : ByteArray := prog_1_method_30_code
def yX5_countAnswered : MethodName := ⟨RX5, "countAnswered", "()I"⟩
abbrev cX5_countWorkedOutByAll : ByteArray := prog_1_method_31_code
def yX5_countWorkedOutByAll : MethodName := ⟨RX5, "countWorkedOutByAll", "()I"⟩
abbrev cX5_isWorkedOutAt : ByteArray := prog_1_method_32_code
def yX5_isWorkedOutAt : MethodName := ⟨RX5, "isWorkedOutAt", "(LGroupOrder$Order;I)Z"⟩
abbrev cX5_groupsTookInOrder : ByteArray := prog_1_method_33_code
def yX5_groupsTookInOrder : MethodName := ⟨RX5, "groupsTookInOrder", "()Z"⟩
abbrev cX5_clientsWereFollowed : ByteArray := prog_1_method_34_code
def yX5_clientsWereFollowed : MethodName := ⟨RX5, "clientsWereFollowed", "()Z"⟩
abbrev cX5_replayGivesTheSame : ByteArray := prog_1_method_35_code
def yX5_replayGivesTheSame : MethodName := ⟨RX5, "replayGivesTheSame", "()Z"⟩
abbrev cX5_replayAnswersTheSame : ByteArray := prog_1_method_36_code
def yX5_replayAnswersTheSame : MethodName := ⟨RX5, "replayAnswersTheSame", "(LGroupOrder$Order;)Z"⟩
abbrev cX5_nextAnswered : ByteArray := prog_1_method_37_code
def yX5_nextAnswered : MethodName := ⟨RX5, "nextAnswered", "(LGroupOrder$Order;)LGroupOrder$Order;"⟩
abbrev cX5_isBehind : ByteArray := prog_1_method_38_code
def yX5_isBehind : MethodName := ⟨RX5, "isBehind", "(LGroupOrder$Order;LGroupOrder$Order;)Z"⟩
abbrev cX5_finalTimeOf : ByteArray := prog_1_method_39_code
def yX5_finalTimeOf : MethodName := ⟨RX5, "finalTimeOf", "(LGroupOrder$Order;)I"⟩
def RX6 : String := "GroupOrderModel"
def TX6 : u_T := fun k => match k with
  | 0 => ("GroupOrderModel", "groups", "I", true)
  | 1 => ("GroupOrderModel", "clocks", "[I", true)
  | 2 => ("GroupOrderModel", "down", "[Z", true)
  | 3 => ("GroupOrderModel", "values", "[I", true)
  | 4 => ("GroupOrderModel", "orders", "I", false)
  | 5 => ("GroupOrderModel", "clients", "[I", true)
  | 6 => ("GroupOrderModel", "kinds", "[I", true)
  | 7 => ("GroupOrderModel", "as", "[I", true)
  | 8 => ("GroupOrderModel", "bs", "[I", true)
  | 9 => ("GroupOrderModel", "cs", "[I", true)
  | 10 => ("GroupOrderModel", "sentAt", "[I", true)
  | 11 => ("GroupOrderModel", "answered", "[Z", true)
  | 12 => ("GroupOrderModel", "answers", "[I", true)
  | 13 => ("GroupOrderModel", "times", "[I", true)
  | 14 => ("GroupOrderModel", "started", "[Z", true)
  | 15 => ("GroupOrderModel", "finals", "[I", true)
  | 16 => ("GroupOrderModel", "isTaken", "[Z", true)
  | 17 => ("GroupOrderModel", "sent", "[Z", true)
  | 18 => ("GroupOrderModel", "worked", "[Z", true)
  | 19 => ("GroupOrderModel", "locals", "[I", true)
  | 20 => ("GroupOrderModel", "came", "[Z", true)
  | 21 => ("GroupOrderModel", "cameA", "[I", true)
  | 22 => ("GroupOrderModel", "cameB", "[I", true)
  | 23 => ("GroupOrderModel", "takenCount", "[I", true)
  | 24 => ("GroupOrderModel", "takenRow", "[I", true)
  | 25 => ("GroupOrderModel", "flying", "I", false)
  | 26 => ("GroupOrderModel", "kindOf", "[I", true)
  | 27 => ("GroupOrderModel", "orderOf", "[I", true)
  | 28 => ("GroupOrderModel", "fromOf", "[I", true)
  | 29 => ("GroupOrderModel", "toOf", "[I", true)
  | 30 => ("GroupOrderModel", "timeOf", "[I", true)
  | 31 => ("GroupOrderModel", "aOf", "[I", true)
  | 32 => ("GroupOrderModel", "bOf", "[I", true)
  | _ => ("GroupOrderModel", "brought", "I", false)
def tyX6 : Nat → FieldType := fun k => match k with
  | 0 => .int
  | 1 => .array .int
  | 2 => .array .boolean
  | 3 => .array .int
  | 4 => .int
  | 5 => .array .int
  | 6 => .array .int
  | 7 => .array .int
  | 8 => .array .int
  | 9 => .array .int
  | 10 => .array .int
  | 11 => .array .boolean
  | 12 => .array .int
  | 13 => .array .int
  | 14 => .array .boolean
  | 15 => .array .int
  | 16 => .array .boolean
  | 17 => .array .boolean
  | 18 => .array .boolean
  | 19 => .array .int
  | 20 => .array .boolean
  | 21 => .array .int
  | 22 => .array .int
  | 23 => .array .int
  | 24 => .array .int
  | 25 => .int
  | 26 => .array .int
  | 27 => .array .int
  | 28 => .array .int
  | 29 => .array .int
  | 30 => .array .int
  | 31 => .array .int
  | 32 => .array .int
  | _ => .int
abbrev wsX60 : List Cond := u_ws RX6 TX6 34
theorem nmX6 : ∀ a, a < 34 → ∀ b, b < 34 → a ≠ b → (TX6 a).2.1 ≠ (TX6 b).2.1 := by decide +kernel
theorem tyX6_ok : ∀ k, k < 34 → parseFieldDescriptor (TX6 k).2.2.1 = some (tyX6 k) := by decide +kernel
abbrev cX6_init : ByteArray := prog_8_method_1_code
def yX6_init : MethodName := ⟨RX6, "<init>", "(I)V"⟩
abbrev cX6_isIn : ByteArray := prog_8_method_3_code
def yX6_isIn : MethodName := ⟨RX6, "isIn", "(II)Z"⟩
abbrev cX6_isOf : ByteArray := prog_8_method_4_code
def yX6_isOf : MethodName := ⟨RX6, "isOf", "(II)Z"⟩
abbrev cX6_at : ByteArray := prog_8_method_5_code
def yX6_at : MethodName := ⟨RX6, "at", "(II)I"⟩
abbrev cX6_of : ByteArray := prog_8_method_6_code
def yX6_of : MethodName := ⟨RX6, "of", "(III)I"⟩
abbrev cX6_put : ByteArray := prog_8_method_7_code
def yX6_put : MethodName := ⟨RX6, "put", "(IIIII)V"⟩
abbrev cX6_putOthers : ByteArray := prog_8_method_8_code
def yX6_putOthers : MethodName := ⟨RX6, "putOthers", "(IIII)V"⟩
abbrev cX6_send : ByteArray := prog_8_method_9_code
def yX6_send : MethodName := ⟨RX6, "send", "(IIIII)I"⟩
abbrev cX6_comesStart : ByteArray := prog_8_method_10_code
def yX6_comesStart : MethodName := ⟨RX6, "comesStart", "(II)V"⟩
abbrev cX6_comes : ByteArray := prog_8_method_11_code
def yX6_comes : MethodName := ⟨RX6, "comes", "(I)V"⟩
abbrev cX6_makesFinal : ByteArray := prog_8_method_12_code
def yX6_makesFinal : MethodName := ⟨RX6, "makesFinal", "(I)Z"⟩
abbrev cX6_takes : ByteArray := prog_8_method_13_code
def yX6_takes : MethodName := ⟨RX6, "takes", "(I)Z"⟩
abbrev cX6_works : ByteArray := prog_8_method_14_code
def yX6_works : MethodName := ⟨RX6, "works", "(I)Z"⟩
abbrev cX6_workOut : ByteArray := prog_8_method_15_code
def yX6_workOut : MethodName := ⟨RX6, "workOut", "(II)V"⟩
abbrev cX6_bring : ByteArray := prog_8_method_16_code
def yX6_bring : MethodName := ⟨RX6, "bring", "(I)I"⟩
abbrev cX6_move : ByteArray := prog_8_method_17_code
def yX6_move : MethodName := ⟨RX6, "move", "(II)V"⟩
abbrev cX6_twice : ByteArray := prog_8_method_18_code
def yX6_twice : MethodName := ⟨RX6, "twice", "(I)I"⟩
abbrev cX6_up : ByteArray := prog_8_method_19_code
def yX6_up : MethodName := ⟨RX6, "up", "(IZ)Z"⟩
abbrev cX6_flight : ByteArray := prog_8_method_20_code
def yX6_flight : MethodName := ⟨RX6, "flight", "(II)I"⟩
abbrev cX6_flying : ByteArray := prog_8_method_21_code
def yX6_flying : MethodName := ⟨RX6, "flying", "()I"⟩
abbrev cX6_taken : ByteArray := prog_8_method_22_code
def yX6_taken : MethodName := ⟨RX6, "taken", "(II)I"⟩
abbrev cX6_answer : ByteArray := prog_8_method_23_code
def yX6_answer : MethodName := ⟨RX6, "answer", "(I)I"⟩
abbrev cX6_answered : ByteArray := prog_8_method_24_code
def yX6_answered : MethodName := ⟨RX6, "answered", "(I)Z"⟩
abbrev cX6_time : ByteArray := prog_8_method_25_code
def yX6_time : MethodName := ⟨RX6, "time", "(III)I"⟩
abbrev cX6_value : ByteArray := prog_8_method_26_code
def yX6_value : MethodName := ⟨RX6, "value", "(I)I"⟩
abbrev cX6_clock : ByteArray := prog_8_method_27_code
def yX6_clock : MethodName := ⟨RX6, "clock", "(I)I"⟩
abbrev cX6_seen : ByteArray := prog_8_method_28_code
def yX6_seen : MethodName := ⟨RX6, "seen", "(I)I"⟩
abbrev cX6_agree : ByteArray := prog_8_method_29_code
def yX6_agree : MethodName := ⟨RX6, "agree", "()Z"⟩
abbrev cX6_doneCount : ByteArray := prog_8_method_30_code
def yX6_doneCount : MethodName := ⟨RX6, "doneCount", "()I"⟩
abbrev cX6_count : ByteArray := prog_8_method_31_code
def yX6_count : MethodName := ⟨RX6, "count", "(I)I"⟩
def RJ6 : String := "java/lang/Integer"
def TJ6 : u_T := fun k => match k with
  | _ => ("", "", "", false)
def tyJ6 : Nat → FieldType := fun k => match k with
  | _ => .int
abbrev wsJ60 : List Cond := u_ws RJ6 TJ6 0
theorem nmJ6 : ∀ a, a < 0 → ∀ b, b < 0 → a ≠ b → (TJ6 a).2.1 ≠ (TJ6 b).2.1 := by decide +kernel
theorem tyJ6_ok : ∀ k, k < 0 → parseFieldDescriptor (TJ6 k).2.2.1 = some (tyJ6 k) := by decide +kernel
abbrev cJ6_compare_7cf53 : ByteArray := prog_9_method_40_code
def yJ6_compare_7cf53 : MethodName := ⟨RJ6, "compare", "(II)I"⟩
def RJ9 : String := "java/lang/Math"
def TJ9 : u_T := fun k => match k with
  | _ => ("", "", "", false)
def tyJ9 : Nat → FieldType := fun k => match k with
  | _ => .int
abbrev wsJ90 : List Cond := u_ws RJ9 TJ9 0
theorem nmJ9 : ∀ a, a < 0 → ∀ b, b < 0 → a ≠ b → (TJ9 a).2.1 ≠ (TJ9 b).2.1 := by decide +kernel
theorem tyJ9_ok : ∀ k, k < 0 → parseFieldDescriptor (TJ9 k).2.2.1 = some (tyJ9 k) := by decide +kernel
abbrev cJ9_max_7cf53 : ByteArray := prog_10_method_65_code
def yJ9_max_7cf53 : MethodName := ⟨RJ9, "max", "(II)I"⟩
abbrev cJ9_min_7cf53 : ByteArray := prog_10_method_69_code
def yJ9_min_7cf53 : MethodName := ⟨RJ9, "min", "(II)I"⟩
def RJ7 : String := "java/util/Arrays"
def TJ7 : u_T := fun k => match k with
  | _ => ("", "", "", false)
def tyJ7 : Nat → FieldType := fun k => match k with
  | _ => .int
abbrev wsJ70 : List Cond := u_ws RJ7 TJ7 0
theorem nmJ7 : ∀ a, a < 0 → ∀ b, b < 0 → a ≠ b → (TJ7 a).2.1 ≠ (TJ7 b).2.1 := by decide +kernel
theorem tyJ7_ok : ∀ k, k < 0 → parseFieldDescriptor (TJ7 k).2.2.1 = some (tyJ7 k) := by decide +kernel
abbrev cJ7_fill_53178 : ByteArray := prog_11_method_103_code
def yJ7_fill_53178 : MethodName := ⟨RJ7, "fill", "([II)V"⟩
def RL : String := "GroupOrderLaw"
abbrev cL_cell : ByteArray := method_2_code
def yL_cell : MethodName := ⟨RL, "cell", "([II)I"⟩
abbrev cL_law : ByteArray := code
def yL_law : MethodName := ⟨RL, "law", "([I)Z"⟩
abbrev vwCl : List vw_C := [(RX0, TX0, 2), (RX1, TX1, 7), (RX2, TX2, 4), (RX3, TX3, 10), (RX4, TX4, 11), (RX5, TX5, 9), (RX6, TX6, 34)]
end
section
/-! the words of the tables, one by one: where each stands -/
def gx_Ts : List Cond := lw_tbl.filter goodWord
theorem gx_t1 {w : Cond} (i : Nat) (h : tables_1_1[i]? = some w) (g : goodWord w = true) : w ∈ gx_Ts := List.mem_filter.mpr ⟨List.mem_append_right _ (List.mem_append_left _ (List.mem_of_getElem? h)), g⟩
theorem gx_t2 {w : Cond} (i : Nat) (h : tables_1_2[i]? = some w) (g : goodWord w = true) : w ∈ gx_Ts := List.mem_filter.mpr ⟨List.mem_append_right _ (List.mem_append_right _ (List.mem_append_left _ (List.mem_of_getElem? h))), g⟩
theorem gx_t3 {w : Cond} (i : Nat) (h : tables_1_3[i]? = some w) (g : goodWord w = true) : w ∈ gx_Ts := List.mem_filter.mpr ⟨List.mem_append_right _ (List.mem_append_right _ (List.mem_append_right _ (List.mem_of_getElem? h))), g⟩
theorem gx_tp {y : MethodName} {n : Nat} (h : (y, n) ∈ lw_privs) : Cond.selects y.cls y y ∈ gx_Ts := List.mem_filter.mpr ⟨List.mem_append_left _ (List.mem_map.mpr ⟨(y, n), h, rfl⟩), rfl⟩
theorem wi_L : Cond.initialized RL ∈ gx_Ts := gx_t1 0 (by decide +kernel) rfl
theorem wi_X5 : Cond.initialized RX5 ∈ gx_Ts := gx_t1 1 (by decide +kernel) rfl
theorem wi_X0 : Cond.initialized RX0 ∈ gx_Ts := gx_t1 2 (by decide +kernel) rfl
theorem wi_J9 : Cond.initialized RJ9 ∈ gx_Ts := gx_t1 3 (by decide +kernel) rfl
theorem wi_X1 : Cond.initialized RX1 ∈ gx_Ts := gx_t1 4 (by decide +kernel) rfl
theorem wi_J7 : Cond.initialized RJ7 ∈ gx_Ts := gx_t1 5 (by decide +kernel) rfl
theorem wi_X6 : Cond.initialized RX6 ∈ gx_Ts := gx_t1 6 (by decide +kernel) rfl
theorem wi_X3 : Cond.initialized RX3 ∈ gx_Ts := gx_t1 7 (by decide +kernel) rfl
theorem wi_X4 : Cond.initialized RX4 ∈ gx_Ts := gx_t1 8 (by decide +kernel) rfl
theorem wi_X2 : Cond.initialized RX2 ∈ gx_Ts := gx_t1 9 (by decide +kernel) rfl
theorem wi_J6 : Cond.initialized RJ6 ∈ gx_Ts := gx_t1 10 (by decide +kernel) rfl
theorem wc_L_7 : Cond.classLink RL 7 RX5 ∈ gx_Ts := gx_t1 11 (by decide +kernel) rfl
theorem wn_X5 : Cond.instantiable RX5 9 ∈ gx_Ts := gx_t1 12 (by decide +kernel) rfl
theorem wm_L_15 : Cond.methodLink RL 15 yX5_init ∈ gx_Ts := gx_t1 13 (by decide +kernel) rfl
theorem wy_X5_init : Cond.instanceMethod yX5_init ∈ gx_Ts := gx_t1 14 (by decide +kernel) rfl
theorem wk_X5_init : Cond.code yX5_init cX5_init 4 (Option.none : Option Jvm.ClassFile.FieldType) ∈ gx_Ts := gx_t1 15 (rfl) rfl
theorem wm_X5_3 : Cond.methodLink RX5 3 objectInit ∈ gx_Ts := gx_t1 16 (by decide +kernel) rfl
theorem wy_O : Cond.instanceMethod objectInit ∈ gx_Ts := gx_t1 17 (by decide +kernel) rfl
theorem wk_O : Cond.code objectInit ⟨#[0xb1]⟩ 1 none ∈ gx_Ts := gx_t1 18 (by decide +kernel) rfl
theorem wc_X5_16 : Cond.classLink RX5 16 RX3 ∈ gx_Ts := gx_t1 19 (by decide +kernel) rfl
theorem wo_X3 : Cond.arrayOver (.object RX3) ∈ lw_tbl := List.mem_append_right _ (List.mem_append_left _ (List.mem_of_getElem? (i := 20) (by decide +kernel)))
theorem wc_X5_22 : Cond.classLink RX5 22 RX0 ∈ gx_Ts := gx_t1 21 (by decide +kernel) rfl
theorem wn_X0 : Cond.instantiable RX0 2 ∈ gx_Ts := gx_t1 22 (by decide +kernel) rfl
theorem wq_nest : Cond.methodLinkNest RX5 24 yX0_init RX5 ∈ lw_tbl := List.mem_append_right _ (List.mem_append_left _ (List.mem_of_getElem? (i := 23) (by decide +kernel)))
theorem wy_X0_init : Cond.instanceMethod yX0_init ∈ gx_Ts := gx_t1 24 (by decide +kernel) rfl
theorem wk_X0_init : Cond.code yX0_init cX0_init 1 (Option.none : Option Jvm.ClassFile.FieldType) ∈ gx_Ts := gx_t1 25 (rfl) rfl
theorem wm_X0_3 : Cond.methodLink RX0 3 objectInit ∈ gx_Ts := gx_t1 26 (by decide +kernel) rfl
theorem wc_X0_9 : Cond.classLink RX0 9 RX2 ∈ gx_Ts := gx_t1 27 (by decide +kernel) rfl
theorem wo_X2 : Cond.arrayOver (.object RX2) ∈ lw_tbl := List.mem_append_right _ (List.mem_append_left _ (List.mem_of_getElem? (i := 28) (by decide +kernel)))
theorem wf_X0_11 : Cond.fieldLink RX0 11 RX0 "row" "[LGroupOrder$Message;" ∈ gx_Ts := gx_t1 29 (by decide +kernel) rfl
theorem wf_X5_103 : Cond.fieldLink RX5 103 RX0 "row" "[LGroupOrder$Message;" ∈ gx_Ts := gx_t1 30 (by decide +kernel) rfl
theorem wf_X0_17 : Cond.fieldLink RX0 17 RX0 "size" "I" ∈ gx_Ts := gx_t1 31 (by decide +kernel) rfl
theorem wf_X5_131 : Cond.fieldLink RX5 131 RX0 "size" "I" ∈ gx_Ts := gx_t1 32 (by decide +kernel) rfl
theorem wa_int : Cond.arrayClass Jvm.ClassFile.FieldType.int ∈ gx_Ts := gx_t1 38 (by decide +kernel) rfl
theorem wm_X5_35 : Cond.methodLink RX5 35 yJ9_min_7cf53 ∈ gx_Ts := gx_t1 39 (by decide +kernel) rfl
theorem ws_J9_min_7cf53 : Cond.static yJ9_min_7cf53 ∈ gx_Ts := gx_t1 40 (by decide +kernel) rfl
theorem wk_J9_min_7cf53 : Cond.code yJ9_min_7cf53 cJ9_min_7cf53 2 (Option.some Jvm.ClassFile.FieldType.int) ∈ gx_Ts := gx_t1 41 (rfl) rfl
theorem wm_X5_41 : Cond.methodLink RX5 41 yJ9_max_7cf53 ∈ gx_Ts := gx_t1 42 (by decide +kernel) rfl
theorem ws_J9_max_7cf53 : Cond.static yJ9_max_7cf53 ∈ gx_Ts := gx_t1 43 (by decide +kernel) rfl
theorem wk_J9_max_7cf53 : Cond.code yJ9_max_7cf53 cJ9_max_7cf53 2 (Option.some Jvm.ClassFile.FieldType.int) ∈ gx_Ts := gx_t1 44 (rfl) rfl
theorem wc_X5_44 : Cond.classLink RX5 44 RX1 ∈ gx_Ts := gx_t1 45 (by decide +kernel) rfl
theorem wo_X1 : Cond.arrayOver (.object RX1) ∈ lw_tbl := List.mem_append_right _ (List.mem_append_left _ (List.mem_of_getElem? (i := 46) (by decide +kernel)))
theorem wn_X1 : Cond.instantiable RX1 7 ∈ gx_Ts := gx_t1 47 (by decide +kernel) rfl
theorem wm_X5_50 : Cond.methodLink RX5 50 yX1_init ∈ gx_Ts := gx_t1 48 (by decide +kernel) rfl
theorem wy_X1_init : Cond.instanceMethod yX1_init ∈ gx_Ts := gx_t1 49 (by decide +kernel) rfl
theorem wk_X1_init : Cond.code yX1_init cX1_init 2 (Option.none : Option Jvm.ClassFile.FieldType) ∈ gx_Ts := gx_t1 50 (rfl) rfl
theorem wm_X1_3 : Cond.methodLink RX1 3 objectInit ∈ gx_Ts := gx_t1 51 (by decide +kernel) rfl
theorem wc_X1_15 : Cond.classLink RX1 15 RX4 ∈ gx_Ts := gx_t1 52 (by decide +kernel) rfl
theorem wo_X4 : Cond.arrayOver (.object RX4) ∈ lw_tbl := List.mem_append_right _ (List.mem_append_left _ (List.mem_of_getElem? (i := 53) (by decide +kernel)))
theorem wf_X1_24 : Cond.fieldLink RX1 24 RX1 "number" "I" ∈ gx_Ts := gx_t1 54 (by decide +kernel) rfl
theorem wf_X5_208 : Cond.fieldLink RX5 208 RX1 "number" "I" ∈ gx_Ts := gx_t1 55 (by decide +kernel) rfl
theorem wf_X1_9 : Cond.fieldLink RX1 9 RX1 "isUp" "Z" ∈ gx_Ts := gx_t1 56 (by decide +kernel) rfl
theorem wf_X5_96 : Cond.fieldLink RX5 96 RX1 "isUp" "Z" ∈ gx_Ts := gx_t1 57 (by decide +kernel) rfl
theorem wf_X1_34 : Cond.fieldLink RX1 34 RX1 "clockTime" "I" ∈ gx_Ts := gx_t1 58 (by decide +kernel) rfl
theorem wf_X5_168 : Cond.fieldLink RX5 168 RX1 "clockTime" "I" ∈ gx_Ts := gx_t1 59 (by decide +kernel) rfl
theorem wf_X1_17 : Cond.fieldLink RX1 17 RX1 "parts" "[LGroupOrder$Part;" ∈ gx_Ts := gx_t1 60 (by decide +kernel) rfl
theorem wf_X5_153 : Cond.fieldLink RX5 153 RX1 "parts" "[LGroupOrder$Part;" ∈ gx_Ts := gx_t1 61 (by decide +kernel) rfl
theorem wf_X1_21 : Cond.fieldLink RX1 21 RX1 "takenParts" "[LGroupOrder$Part;" ∈ gx_Ts := gx_t1 62 (by decide +kernel) rfl
theorem wf_X5_137 : Cond.fieldLink RX5 137 RX1 "takenParts" "[LGroupOrder$Part;" ∈ gx_Ts := gx_t1 63 (by decide +kernel) rfl
theorem wf_X1_63 : Cond.fieldLink RX1 63 RX1 "takenCount" "I" ∈ gx_Ts := gx_t1 64 (by decide +kernel) rfl
theorem wf_X5_134 : Cond.fieldLink RX5 134 RX1 "takenCount" "I" ∈ gx_Ts := gx_t1 65 (by decide +kernel) rfl
theorem wf_X5_253 : Cond.fieldLink RX5 253 RX1 "workedOutCount" "I" ∈ gx_Ts := gx_t1 66 (by decide +kernel) rfl
theorem wm_X5_53 : Cond.methodLink RX5 53 yJ7_fill_53178 ∈ gx_Ts := gx_t1 82 (by decide +kernel) rfl
theorem ws_J7_fill_53178 : Cond.static yJ7_fill_53178 ∈ gx_Ts := gx_t1 83 (by decide +kernel) rfl
theorem wk_J7_fill_53178 : Cond.code yJ7_fill_53178 cJ7_fill_53178 4 (Option.none : Option Jvm.ClassFile.FieldType) ∈ gx_Ts := gx_t1 84 (rfl) rfl
theorem wf_X5_46 : Cond.fieldLink RX5 46 RX5 "groups" "[LGroupOrder$Group;" ∈ gx_Ts := gx_t1 85 (by decide +kernel) rfl
theorem wf_X5_9 : Cond.fieldLink RX5 9 RX5 "values" "[I" ∈ gx_Ts := gx_t1 86 (by decide +kernel) rfl
theorem wf_X5_13 : Cond.fieldLink RX5 13 RX5 "clientTimes" "[I" ∈ gx_Ts := gx_t1 87 (by decide +kernel) rfl
theorem wf_X5_18 : Cond.fieldLink RX5 18 RX5 "orders" "[LGroupOrder$Order;" ∈ gx_Ts := gx_t1 88 (by decide +kernel) rfl
theorem wf_X5_25 : Cond.fieldLink RX5 25 RX5 "flights" "LGroupOrder$Flights;" ∈ gx_Ts := gx_t1 89 (by decide +kernel) rfl
theorem wf_X5_59 : Cond.fieldLink RX5 59 RX5 "orderCount" "I" ∈ gx_Ts := gx_t1 90 (by decide +kernel) rfl
theorem wf_X5_184 : Cond.fieldLink RX5 184 RX5 "broughtCount" "I" ∈ gx_Ts := gx_t1 91 (by decide +kernel) rfl
theorem wf_X5_29 : Cond.fieldLink RX5 29 RX5 "serialValues" "[I" ∈ gx_Ts := gx_t1 92 (by decide +kernel) rfl
theorem wf_X5_32 : Cond.fieldLink RX5 32 RX5 "dueValues" "[I" ∈ gx_Ts := gx_t1 93 (by decide +kernel) rfl
theorem wm_L_21 : Cond.methodLink RL 21 yX5_send ∈ gx_Ts := gx_t1 113 (by decide +kernel) rfl
theorem wy_X5_send : Cond.instanceMethod yX5_send ∈ gx_Ts := gx_t1 114 (by decide +kernel) rfl
theorem wl_X5_send : Cond.selects RX5 yX5_send yX5_send ∈ gx_Ts := gx_t1 115 (by decide +kernel) rfl
theorem wk_X5_send : Cond.code yX5_send cX5_send 7 (Option.some Jvm.ClassFile.FieldType.int) ∈ gx_Ts := gx_t1 116 (rfl) rfl
theorem wm_X5_63 : Cond.methodLink RX5 63 yX5_isOrder ∈ gx_Ts := gx_t1 117 (by decide +kernel) rfl
theorem ws_X5_isOrder : Cond.static yX5_isOrder ∈ gx_Ts := gx_t1 118 (by decide +kernel) rfl
theorem wk_X5_isOrder : Cond.code yX5_isOrder cX5_isOrder 5 (Option.some Jvm.ClassFile.FieldType.boolean) ∈ gx_Ts := gx_t1 119 (rfl) rfl
theorem wm_X5_171 : Cond.methodLink RX5 171 yX5_isClient ∈ gx_Ts := gx_t1 120 (by decide +kernel) rfl
theorem ws_X5_isClient : Cond.static yX5_isClient ∈ gx_Ts := gx_t1 121 (by decide +kernel) rfl
theorem wk_X5_isClient : Cond.code yX5_isClient cX5_isClient 1 (Option.some Jvm.ClassFile.FieldType.boolean) ∈ gx_Ts := gx_t1 122 (rfl) rfl
theorem wm_X5_165 : Cond.methodLink RX5 165 yX5_isKey ∈ gx_Ts := gx_t1 123 (by decide +kernel) rfl
theorem ws_X5_isKey : Cond.static yX5_isKey ∈ gx_Ts := gx_t1 124 (by decide +kernel) rfl
theorem wk_X5_isKey : Cond.code yX5_isKey cX5_isKey 1 (Option.some Jvm.ClassFile.FieldType.boolean) ∈ gx_Ts := gx_t1 125 (rfl) rfl
theorem wt_X5_194 : Cond.constant RX5 194 (1000000 : Int32) ∈ gx_Ts := gx_t1 126 (by decide +kernel) rfl
theorem wn_X3 : Cond.instantiable RX3 10 ∈ gx_Ts := gx_t1 127 (by decide +kernel) rfl
theorem wm_X5_67 : Cond.methodLink RX5 67 yX3_init ∈ gx_Ts := gx_t1 128 (by decide +kernel) rfl
theorem wy_X3_init : Cond.instanceMethod yX3_init ∈ gx_Ts := gx_t1 129 (by decide +kernel) rfl
theorem wk_X3_init : Cond.code yX3_init cX3_init 7 (Option.none : Option Jvm.ClassFile.FieldType) ∈ gx_Ts := gx_t1 130 (rfl) rfl
theorem wm_X3_3 : Cond.methodLink RX3 3 objectInit ∈ gx_Ts := gx_t1 131 (by decide +kernel) rfl
theorem wf_X3_9 : Cond.fieldLink RX3 9 RX3 "number" "I" ∈ gx_Ts := gx_t1 132 (by decide +kernel) rfl
theorem wf_X1_31 : Cond.fieldLink RX1 31 RX3 "number" "I" ∈ gx_Ts := gx_t1 133 (by decide +kernel) rfl
theorem wf_X5_85 : Cond.fieldLink RX5 85 RX3 "number" "I" ∈ gx_Ts := gx_t1 134 (by decide +kernel) rfl
theorem wf_X4_46 : Cond.fieldLink RX4 46 RX3 "number" "I" ∈ gx_Ts := gx_t1 135 (by decide +kernel) rfl
theorem wf_X3_15 : Cond.fieldLink RX3 15 RX3 "client" "I" ∈ gx_Ts := gx_t1 136 (by decide +kernel) rfl
theorem wf_X5_195 : Cond.fieldLink RX5 195 RX3 "client" "I" ∈ gx_Ts := gx_t1 137 (by decide +kernel) rfl
theorem wf_X3_18 : Cond.fieldLink RX3 18 RX3 "kind" "I" ∈ gx_Ts := gx_t1 138 (by decide +kernel) rfl
theorem wf_X3_21 : Cond.fieldLink RX3 21 RX3 "a" "I" ∈ gx_Ts := gx_t1 139 (by decide +kernel) rfl
theorem wf_X5_198 : Cond.fieldLink RX5 198 RX3 "a" "I" ∈ gx_Ts := gx_t1 140 (by decide +kernel) rfl
theorem wf_X3_24 : Cond.fieldLink RX3 24 RX3 "b" "I" ∈ gx_Ts := gx_t1 141 (by decide +kernel) rfl
theorem wf_X5_205 : Cond.fieldLink RX5 205 RX3 "b" "I" ∈ gx_Ts := gx_t1 142 (by decide +kernel) rfl
theorem wf_X3_27 : Cond.fieldLink RX3 27 RX3 "c" "I" ∈ gx_Ts := gx_t1 143 (by decide +kernel) rfl
theorem wf_X5_70 : Cond.fieldLink RX5 70 RX3 "clientTime" "I" ∈ gx_Ts := gx_t1 144 (by decide +kernel) rfl
theorem wf_X1_41 : Cond.fieldLink RX1 41 RX3 "clientTime" "I" ∈ gx_Ts := gx_t1 145 (by decide +kernel) rfl
theorem wf_X5_77 : Cond.fieldLink RX5 77 RX3 "answeredBefore" "J" ∈ gx_Ts := gx_t1 146 (by decide +kernel) rfl
theorem wf_X5_150 : Cond.fieldLink RX5 150 RX3 "isAnswered" "Z" ∈ gx_Ts := gx_t1 147 (by decide +kernel) rfl
theorem wf_X5_144 : Cond.fieldLink RX5 144 RX3 "result" "I" ∈ gx_Ts := gx_t1 148 (by decide +kernel) rfl
theorem wm_X5_73 : Cond.methodLink RX5 73 yX5_answeredOrdersOf ∈ gx_Ts := gx_t1 170 (by decide +kernel) rfl
theorem wy_X5_answeredOrdersOf : Cond.instanceMethod yX5_answeredOrdersOf ∈ gx_Ts := gx_t1 172 (by decide +kernel) rfl
theorem wk_X5_answeredOrdersOf : Cond.code yX5_answeredOrdersOf cX5_answeredOrdersOf 5 (Option.some Jvm.ClassFile.FieldType.long) ∈ gx_Ts := gx_t1 173 (rfl) rfl
theorem wm_X5_81 : Cond.methodLink RX5 81 yX5_putStarts ∈ gx_Ts := gx_t1 174 (by decide +kernel) rfl
theorem wy_X5_putStarts : Cond.instanceMethod yX5_putStarts ∈ gx_Ts := gx_t1 176 (by decide +kernel) rfl
theorem wk_X5_putStarts : Cond.code yX5_putStarts cX5_putStarts 7 (Option.none : Option Jvm.ClassFile.FieldType) ∈ gx_Ts := gx_t1 177 (rfl) rfl
theorem wm_X5_201 : Cond.methodLink RX5 201 yX5_keeperOf ∈ gx_Ts := gx_t1 178 (by decide +kernel) rfl
theorem wy_X5_keeperOf : Cond.instanceMethod yX5_keeperOf ∈ gx_Ts := gx_t1 180 (by decide +kernel) rfl
theorem wk_X5_keeperOf : Cond.code yX5_keeperOf cX5_keeperOf 2 (Option.some (Jvm.ClassFile.FieldType.object "GroupOrder$Group")) ∈ gx_Ts := gx_t1 181 (rfl) rfl
theorem wm_X5_209 : Cond.methodLink RX5 209 yX1_partFor ∈ gx_Ts := gx_t1 182 (by decide +kernel) rfl
theorem wy_X1_partFor : Cond.instanceMethod yX1_partFor ∈ gx_Ts := gx_t1 183 (by decide +kernel) rfl
theorem wl_X1_partFor : Cond.selects RX1 yX1_partFor yX1_partFor ∈ gx_Ts := gx_t1 184 (by decide +kernel) rfl
theorem wk_X1_partFor : Cond.code yX1_partFor cX1_partFor 3 (Option.some (Jvm.ClassFile.FieldType.object "GroupOrder$Part")) ∈ gx_Ts := gx_t1 185 (rfl) rfl
theorem wn_X4 : Cond.instantiable RX4 11 ∈ gx_Ts := gx_t1 186 (by decide +kernel) rfl
theorem wm_X1_28 : Cond.methodLink RX1 28 yX4_init ∈ gx_Ts := gx_t1 187 (by decide +kernel) rfl
theorem wy_X4_init : Cond.instanceMethod yX4_init ∈ gx_Ts := gx_t1 188 (by decide +kernel) rfl
theorem wk_X4_init : Cond.code yX4_init cX4_init 3 (Option.none : Option Jvm.ClassFile.FieldType) ∈ gx_Ts := gx_t1 189 (rfl) rfl
theorem wm_X4_3 : Cond.methodLink RX4 3 objectInit ∈ gx_Ts := gx_t1 190 (by decide +kernel) rfl
theorem wf_X4_21 : Cond.fieldLink RX4 21 RX4 "order" "LGroupOrder$Order;" ∈ gx_Ts := gx_t1 191 (by decide +kernel) rfl
theorem wf_X1_37 : Cond.fieldLink RX1 37 RX4 "order" "LGroupOrder$Order;" ∈ gx_Ts := gx_t1 192 (by decide +kernel) rfl
theorem wf_X5_116 : Cond.fieldLink RX5 116 RX4 "order" "LGroupOrder$Order;" ∈ gx_Ts := gx_t1 193 (by decide +kernel) rfl
theorem wf_X4_25 : Cond.fieldLink RX4 25 RX4 "group" "I" ∈ gx_Ts := gx_t1 194 (by decide +kernel) rfl
theorem wf_X5_125 : Cond.fieldLink RX5 125 RX4 "group" "I" ∈ gx_Ts := gx_t1 195 (by decide +kernel) rfl
theorem wf_X4_28 : Cond.fieldLink RX4 28 RX4 "other" "LGroupOrder$Part;" ∈ gx_Ts := gx_t1 196 (by decide +kernel) rfl
theorem wf_X5_220 : Cond.fieldLink RX5 220 RX4 "other" "LGroupOrder$Part;" ∈ gx_Ts := gx_t1 197 (by decide +kernel) rfl
theorem wf_X4_9 : Cond.fieldLink RX4 9 RX4 "localTime" "I" ∈ gx_Ts := gx_t1 198 (by decide +kernel) rfl
theorem wf_X1_50 : Cond.fieldLink RX1 50 RX4 "localTime" "I" ∈ gx_Ts := gx_t1 199 (by decide +kernel) rfl
theorem wf_X5_156 : Cond.fieldLink RX5 156 RX4 "localTime" "I" ∈ gx_Ts := gx_t1 200 (by decide +kernel) rfl
theorem wf_X4_15 : Cond.fieldLink RX4 15 RX4 "otherLocalTime" "I" ∈ gx_Ts := gx_t1 201 (by decide +kernel) rfl
theorem wf_X1_60 : Cond.fieldLink RX1 60 RX4 "otherLocalTime" "I" ∈ gx_Ts := gx_t1 202 (by decide +kernel) rfl
theorem wf_X5_240 : Cond.fieldLink RX5 240 RX4 "otherLocalTime" "I" ∈ gx_Ts := gx_t1 203 (by decide +kernel) rfl
theorem wf_X4_18 : Cond.fieldLink RX4 18 RX4 "finalTime" "I" ∈ gx_Ts := gx_t1 204 (by decide +kernel) rfl
theorem wf_X1_53 : Cond.fieldLink RX1 53 RX4 "finalTime" "I" ∈ gx_Ts := gx_t1 205 (by decide +kernel) rfl
theorem wf_X5_159 : Cond.fieldLink RX5 159 RX4 "finalTime" "I" ∈ gx_Ts := gx_t1 206 (by decide +kernel) rfl
theorem wf_X4_32 : Cond.fieldLink RX4 32 RX4 "isTaken" "Z" ∈ gx_Ts := gx_t1 207 (by decide +kernel) rfl
theorem wf_X1_70 : Cond.fieldLink RX1 70 RX4 "isTaken" "Z" ∈ gx_Ts := gx_t1 208 (by decide +kernel) rfl
theorem wf_X5_262 : Cond.fieldLink RX5 262 RX4 "wasValueSent" "Z" ∈ gx_Ts := gx_t1 209 (by decide +kernel) rfl
theorem wf_X5_246 : Cond.fieldLink RX5 246 RX4 "hasOtherValue" "Z" ∈ gx_Ts := gx_t1 210 (by decide +kernel) rfl
theorem wf_X5_243 : Cond.fieldLink RX5 243 RX4 "otherValue" "I" ∈ gx_Ts := gx_t1 211 (by decide +kernel) rfl
theorem wf_X5_162 : Cond.fieldLink RX5 162 RX4 "isWorkedOut" "Z" ∈ gx_Ts := gx_t1 212 (by decide +kernel) rfl
theorem wc_X5_108 : Cond.classLink RX5 108 RX2 ∈ gx_Ts := gx_t1 236 (by decide +kernel) rfl
theorem wn_X2 : Cond.instantiable RX2 4 ∈ gx_Ts := gx_t1 237 (by decide +kernel) rfl
theorem wm_X5_213 : Cond.methodLink RX5 213 yX2_init ∈ gx_Ts := gx_t1 238 (by decide +kernel) rfl
theorem wy_X2_init : Cond.instanceMethod yX2_init ∈ gx_Ts := gx_t1 239 (by decide +kernel) rfl
theorem wk_X2_init : Cond.code yX2_init cX2_init 5 (Option.none : Option Jvm.ClassFile.FieldType) ∈ gx_Ts := gx_t2 0 (rfl) rfl
theorem wm_X2_1 : Cond.methodLink RX2 1 objectInit ∈ gx_Ts := gx_t2 1 (by decide +kernel) rfl
theorem wf_X2_7 : Cond.fieldLink RX2 7 RX2 "kind" "I" ∈ gx_Ts := gx_t2 2 (by decide +kernel) rfl
theorem wf_X5_107 : Cond.fieldLink RX5 107 RX2 "kind" "I" ∈ gx_Ts := gx_t2 3 (by decide +kernel) rfl
theorem wf_X2_13 : Cond.fieldLink RX2 13 RX2 "from" "I" ∈ gx_Ts := gx_t2 4 (by decide +kernel) rfl
theorem wf_X5_122 : Cond.fieldLink RX5 122 RX2 "from" "I" ∈ gx_Ts := gx_t2 5 (by decide +kernel) rfl
theorem wf_X2_16 : Cond.fieldLink RX2 16 RX2 "to" "LGroupOrder$Part;" ∈ gx_Ts := gx_t2 6 (by decide +kernel) rfl
theorem wf_X5_112 : Cond.fieldLink RX5 112 RX2 "to" "LGroupOrder$Part;" ∈ gx_Ts := gx_t2 7 (by decide +kernel) rfl
theorem wf_X2_20 : Cond.fieldLink RX2 20 RX2 "content" "I" ∈ gx_Ts := gx_t2 8 (by decide +kernel) rfl
theorem wf_X5_128 : Cond.fieldLink RX5 128 RX2 "content" "I" ∈ gx_Ts := gx_t2 9 (by decide +kernel) rfl
theorem wm_X5_216 : Cond.methodLink RX5 216 yX0_put ∈ gx_Ts := gx_t2 19 (by decide +kernel) rfl
theorem wy_X0_put : Cond.instanceMethod yX0_put ∈ gx_Ts := gx_t2 20 (by decide +kernel) rfl
theorem wl_X0_put : Cond.selects RX0 yX0_put yX0_put ∈ gx_Ts := gx_t2 21 (by decide +kernel) rfl
theorem wk_X0_put : Cond.code yX0_put cX0_put 2 (Option.none : Option Jvm.ClassFile.FieldType) ∈ gx_Ts := gx_t2 22 (rfl) rfl
theorem wm_L_26 : Cond.methodLink RL 26 yX5_bring ∈ gx_Ts := gx_t2 23 (by decide +kernel) rfl
theorem wy_X5_bring : Cond.instanceMethod yX5_bring ∈ gx_Ts := gx_t2 24 (by decide +kernel) rfl
theorem wl_X5_bring : Cond.selects RX5 yX5_bring yX5_bring ∈ gx_Ts := gx_t2 25 (by decide +kernel) rfl
theorem wk_X5_bring : Cond.code yX5_bring cX5_bring 2 (Option.some Jvm.ClassFile.FieldType.int) ∈ gx_Ts := gx_t2 26 (rfl) rfl
theorem wm_X5_88 : Cond.methodLink RX5 88 yX5_deliver ∈ gx_Ts := gx_t2 27 (by decide +kernel) rfl
theorem wy_X5_deliver : Cond.instanceMethod yX5_deliver ∈ gx_Ts := gx_t2 29 (by decide +kernel) rfl
theorem wk_X5_deliver : Cond.code yX5_deliver cX5_deliver 5 (Option.some Jvm.ClassFile.FieldType.int) ∈ gx_Ts := gx_t2 30 (rfl) rfl
theorem wm_X5_100 : Cond.methodLink RX5 100 yX0_has ∈ gx_Ts := gx_t2 31 (by decide +kernel) rfl
theorem wy_X0_has : Cond.instanceMethod yX0_has ∈ gx_Ts := gx_t2 32 (by decide +kernel) rfl
theorem wl_X0_has : Cond.selects RX0 yX0_has yX0_has ∈ gx_Ts := gx_t2 33 (by decide +kernel) rfl
theorem wk_X0_has : Cond.code yX0_has cX0_has 2 (Option.some Jvm.ClassFile.FieldType.boolean) ∈ gx_Ts := gx_t2 34 (rfl) rfl
theorem wm_X5_223 : Cond.methodLink RX5 223 yX0_drop ∈ gx_Ts := gx_t2 35 (by decide +kernel) rfl
theorem wy_X0_drop : Cond.instanceMethod yX0_drop ∈ gx_Ts := gx_t2 36 (by decide +kernel) rfl
theorem wl_X0_drop : Cond.selects RX0 yX0_drop yX0_drop ∈ gx_Ts := gx_t2 37 (by decide +kernel) rfl
theorem wk_X0_drop : Cond.code yX0_drop cX0_drop 3 (Option.none : Option Jvm.ClassFile.FieldType) ∈ gx_Ts := gx_t2 38 (rfl) rfl
theorem wm_X5_226 : Cond.methodLink RX5 226 yX5_receive ∈ gx_Ts := gx_t2 39 (by decide +kernel) rfl
theorem wy_X5_receive : Cond.instanceMethod yX5_receive ∈ gx_Ts := gx_t2 41 (by decide +kernel) rfl
theorem wk_X5_receive : Cond.code yX5_receive cX5_receive 4 (Option.none : Option Jvm.ClassFile.FieldType) ∈ gx_Ts := gx_t2 42 (rfl) rfl
theorem wm_X5_249 : Cond.methodLink RX5 249 yX1_start ∈ gx_Ts := gx_t2 43 (by decide +kernel) rfl
theorem wy_X1_start : Cond.instanceMethod yX1_start ∈ gx_Ts := gx_t2 44 (by decide +kernel) rfl
theorem wl_X1_start : Cond.selects RX1 yX1_start yX1_start ∈ gx_Ts := gx_t2 45 (by decide +kernel) rfl
theorem wk_X1_start : Cond.code yX1_start cX1_start 2 (Option.none : Option Jvm.ClassFile.FieldType) ∈ gx_Ts := gx_t2 46 (rfl) rfl
theorem wm_X1_44 : Cond.methodLink RX1 44 yJ9_max_7cf53 ∈ gx_Ts := gx_t2 47 (by decide +kernel) rfl
theorem wm_X5_230 : Cond.methodLink RX5 230 yX1_makeFinal ∈ gx_Ts := gx_t2 48 (by decide +kernel) rfl
theorem wy_X1_makeFinal : Cond.instanceMethod yX1_makeFinal ∈ gx_Ts := gx_t2 49 (by decide +kernel) rfl
theorem wl_X1_makeFinal : Cond.selects RX1 yX1_makeFinal yX1_makeFinal ∈ gx_Ts := gx_t2 50 (by decide +kernel) rfl
theorem wk_X1_makeFinal : Cond.code yX1_makeFinal cX1_makeFinal 3 (Option.none : Option Jvm.ClassFile.FieldType) ∈ gx_Ts := gx_t2 51 (rfl) rfl
theorem wm_X1_56 : Cond.methodLink RX1 56 yX4_hasAllLocalTimes ∈ gx_Ts := gx_t2 52 (by decide +kernel) rfl
theorem wy_X4_hasAllLocalTimes : Cond.instanceMethod yX4_hasAllLocalTimes ∈ gx_Ts := gx_t2 53 (by decide +kernel) rfl
theorem wl_X4_hasAllLocalTimes : Cond.selects RX4 yX4_hasAllLocalTimes yX4_hasAllLocalTimes ∈ gx_Ts := gx_t2 54 (by decide +kernel) rfl
theorem wk_X4_hasAllLocalTimes : Cond.code yX4_hasAllLocalTimes cX4_hasAllLocalTimes 1 (Option.some Jvm.ClassFile.FieldType.boolean) ∈ gx_Ts := gx_t2 55 (rfl) rfl
theorem wm_X5_233 : Cond.methodLink RX5 233 yX1_takeAll ∈ gx_Ts := gx_t2 56 (by decide +kernel) rfl
theorem wy_X1_takeAll : Cond.instanceMethod yX1_takeAll ∈ gx_Ts := gx_t2 57 (by decide +kernel) rfl
theorem wl_X1_takeAll : Cond.selects RX1 yX1_takeAll yX1_takeAll ∈ gx_Ts := gx_t2 58 (by decide +kernel) rfl
theorem wk_X1_takeAll : Cond.code yX1_takeAll cX1_takeAll 3 (Option.none : Option Jvm.ClassFile.FieldType) ∈ gx_Ts := gx_t2 59 (rfl) rfl
theorem wm_X1_66 : Cond.methodLink RX1 66 yX1_earliestWaiting ∈ gx_Ts := gx_t2 60 (by decide +kernel) rfl
theorem wy_X1_earliestWaiting : Cond.instanceMethod yX1_earliestWaiting ∈ gx_Ts := gx_t2 62 (by decide +kernel) rfl
theorem wk_X1_earliestWaiting : Cond.code yX1_earliestWaiting cX1_earliestWaiting 5 (Option.some (Jvm.ClassFile.FieldType.object "GroupOrder$Part")) ∈ gx_Ts := gx_t2 63 (rfl) rfl
theorem wm_X1_73 : Cond.methodLink RX1 73 yX4_waits ∈ gx_Ts := gx_t2 64 (by decide +kernel) rfl
theorem wy_X4_waits : Cond.instanceMethod yX4_waits ∈ gx_Ts := gx_t2 65 (by decide +kernel) rfl
theorem wl_X4_waits : Cond.selects RX4 yX4_waits yX4_waits ∈ gx_Ts := gx_t2 66 (by decide +kernel) rfl
theorem wk_X4_waits : Cond.code yX4_waits cX4_waits 1 (Option.some Jvm.ClassFile.FieldType.boolean) ∈ gx_Ts := gx_t2 67 (rfl) rfl
theorem wm_X1_76 : Cond.methodLink RX1 76 yX4_isEarlierThan ∈ gx_Ts := gx_t2 68 (by decide +kernel) rfl
theorem wy_X4_isEarlierThan : Cond.instanceMethod yX4_isEarlierThan ∈ gx_Ts := gx_t2 69 (by decide +kernel) rfl
theorem wl_X4_isEarlierThan : Cond.selects RX4 yX4_isEarlierThan yX4_isEarlierThan ∈ gx_Ts := gx_t2 70 (by decide +kernel) rfl
theorem wk_X4_isEarlierThan : Cond.code yX4_isEarlierThan cX4_isEarlierThan 3 (Option.some Jvm.ClassFile.FieldType.boolean) ∈ gx_Ts := gx_t2 71 (rfl) rfl
theorem wm_X4_36 : Cond.methodLink RX4 36 yX4_leastTime ∈ gx_Ts := gx_t2 72 (by decide +kernel) rfl
theorem wy_X4_leastTime : Cond.instanceMethod yX4_leastTime ∈ gx_Ts := gx_t2 74 (by decide +kernel) rfl
theorem wk_X4_leastTime : Cond.code yX4_leastTime cX4_leastTime 1 (Option.some Jvm.ClassFile.FieldType.int) ∈ gx_Ts := gx_t2 75 (rfl) rfl
theorem wm_X4_40 : Cond.methodLink RX4 40 yJ6_compare_7cf53 ∈ gx_Ts := gx_t2 76 (by decide +kernel) rfl
theorem ws_J6_compare_7cf53 : Cond.static yJ6_compare_7cf53 ∈ gx_Ts := gx_t2 77 (by decide +kernel) rfl
theorem wk_J6_compare_7cf53 : Cond.code yJ6_compare_7cf53 cJ6_compare_7cf53 2 (Option.some Jvm.ClassFile.FieldType.int) ∈ gx_Ts := gx_t2 78 (rfl) rfl
theorem wm_X5_236 : Cond.methodLink RX5 236 yX5_workOutAll ∈ gx_Ts := gx_t2 79 (by decide +kernel) rfl
theorem wy_X5_workOutAll : Cond.instanceMethod yX5_workOutAll ∈ gx_Ts := gx_t2 81 (by decide +kernel) rfl
theorem wk_X5_workOutAll : Cond.code yX5_workOutAll cX5_workOutAll 4 (Option.none : Option Jvm.ClassFile.FieldType) ∈ gx_Ts := gx_t2 82 (rfl) rfl
theorem wm_X5_256 : Cond.methodLink RX5 256 yX5_putValues ∈ gx_Ts := gx_t2 83 (by decide +kernel) rfl
theorem wy_X5_putValues : Cond.instanceMethod yX5_putValues ∈ gx_Ts := gx_t2 85 (by decide +kernel) rfl
theorem wk_X5_putValues : Cond.code yX5_putValues cX5_putValues 4 (Option.none : Option Jvm.ClassFile.FieldType) ∈ gx_Ts := gx_t2 86 (rfl) rfl
theorem wm_X5_259 : Cond.methodLink RX5 259 yX5_workOut ∈ gx_Ts := gx_t2 87 (by decide +kernel) rfl
theorem wy_X5_workOut : Cond.instanceMethod yX5_workOut ∈ gx_Ts := gx_t2 89 (by decide +kernel) rfl
theorem wk_X5_workOut : Cond.code yX5_workOut cX5_workOut 7 (Option.none : Option Jvm.ClassFile.FieldType) ∈ gx_Ts := gx_t2 90 (rfl) rfl
theorem wm_X5_265 : Cond.methodLink RX5 265 yX3_behindB ∈ gx_Ts := gx_t2 91 (by decide +kernel) rfl
theorem wy_X3_behindB : Cond.instanceMethod yX3_behindB ∈ gx_Ts := gx_t2 92 (by decide +kernel) rfl
theorem wl_X3_behindB : Cond.selects RX3 yX3_behindB yX3_behindB ∈ gx_Ts := gx_t2 93 (by decide +kernel) rfl
theorem wk_X3_behindB : Cond.code yX3_behindB cX3_behindB 3 (Option.some Jvm.ClassFile.FieldType.int) ∈ gx_Ts := gx_t2 94 (rfl) rfl
theorem wm_X3_30 : Cond.methodLink RX3 30 yX3_isMoved ∈ gx_Ts := gx_t2 95 (by decide +kernel) rfl
theorem wy_X3_isMoved : Cond.instanceMethod yX3_isMoved ∈ gx_Ts := gx_t2 96 (by decide +kernel) rfl
theorem wl_X3_isMoved : Cond.selects RX3 yX3_isMoved yX3_isMoved ∈ gx_Ts := gx_t2 97 (by decide +kernel) rfl
theorem wk_X3_isMoved : Cond.code yX3_isMoved cX3_isMoved 2 (Option.some Jvm.ClassFile.FieldType.boolean) ∈ gx_Ts := gx_t2 98 (rfl) rfl
theorem wm_X5_268 : Cond.methodLink RX5 268 yX3_behindA ∈ gx_Ts := gx_t2 99 (by decide +kernel) rfl
theorem wy_X3_behindA : Cond.instanceMethod yX3_behindA ∈ gx_Ts := gx_t2 100 (by decide +kernel) rfl
theorem wl_X3_behindA : Cond.selects RX3 yX3_behindA yX3_behindA ∈ gx_Ts := gx_t2 101 (by decide +kernel) rfl
theorem wk_X3_behindA : Cond.code yX3_behindA cX3_behindA 3 (Option.some Jvm.ClassFile.FieldType.int) ∈ gx_Ts := gx_t2 102 (rfl) rfl
theorem wm_X5_271 : Cond.methodLink RX5 271 yX3_reply ∈ gx_Ts := gx_t2 103 (by decide +kernel) rfl
theorem wy_X3_reply : Cond.instanceMethod yX3_reply ∈ gx_Ts := gx_t2 104 (by decide +kernel) rfl
theorem wl_X3_reply : Cond.selects RX3 yX3_reply yX3_reply ∈ gx_Ts := gx_t2 105 (by decide +kernel) rfl
theorem wk_X3_reply : Cond.code yX3_reply cX3_reply 3 (Option.some Jvm.ClassFile.FieldType.int) ∈ gx_Ts := gx_t2 106 (rfl) rfl
theorem wm_X3_34 : Cond.methodLink RX3 34 yX3_behindA ∈ gx_Ts := gx_t2 107 (by decide +kernel) rfl
theorem wm_L_31 : Cond.methodLink RL 31 yX5_twice ∈ gx_Ts := gx_t2 108 (by decide +kernel) rfl
theorem wy_X5_twice : Cond.instanceMethod yX5_twice ∈ gx_Ts := gx_t2 109 (by decide +kernel) rfl
theorem wl_X5_twice : Cond.selects RX5 yX5_twice yX5_twice ∈ gx_Ts := gx_t2 110 (by decide +kernel) rfl
theorem wk_X5_twice : Cond.code yX5_twice cX5_twice 2 (Option.some Jvm.ClassFile.FieldType.int) ∈ gx_Ts := gx_t2 111 (rfl) rfl
theorem wm_L_35 : Cond.methodLink RL 35 yX5_up ∈ gx_Ts := gx_t2 112 (by decide +kernel) rfl
theorem wy_X5_up : Cond.instanceMethod yX5_up ∈ gx_Ts := gx_t2 113 (by decide +kernel) rfl
theorem wl_X5_up : Cond.selects RX5 yX5_up yX5_up ∈ gx_Ts := gx_t2 114 (by decide +kernel) rfl
theorem wk_X5_up : Cond.code yX5_up cX5_up 3 (Option.some Jvm.ClassFile.FieldType.boolean) ∈ gx_Ts := gx_t2 115 (rfl) rfl
theorem wm_X5_92 : Cond.methodLink RX5 92 yX5_isGroup ∈ gx_Ts := gx_t2 116 (by decide +kernel) rfl
theorem wy_X5_isGroup : Cond.instanceMethod yX5_isGroup ∈ gx_Ts := gx_t2 118 (by decide +kernel) rfl
theorem wk_X5_isGroup : Cond.code yX5_isGroup cX5_isGroup 2 (Option.some Jvm.ClassFile.FieldType.boolean) ∈ gx_Ts := gx_t2 119 (rfl) rfl
theorem wm_L_40 : Cond.methodLink RL 40 yX5_flight ∈ gx_Ts := gx_t2 120 (by decide +kernel) rfl
theorem wy_X5_flight : Cond.instanceMethod yX5_flight ∈ gx_Ts := gx_t2 121 (by decide +kernel) rfl
theorem wl_X5_flight : Cond.selects RX5 yX5_flight yX5_flight ∈ gx_Ts := gx_t2 122 (by decide +kernel) rfl
theorem wk_X5_flight : Cond.code yX5_flight cX5_flight 4 (Option.some Jvm.ClassFile.FieldType.int) ∈ gx_Ts := gx_t2 123 (rfl) rfl
theorem wm_L_45 : Cond.methodLink RL 45 yX5_flying ∈ gx_Ts := gx_t2 124 (by decide +kernel) rfl
theorem wy_X5_flying : Cond.instanceMethod yX5_flying ∈ gx_Ts := gx_t2 125 (by decide +kernel) rfl
theorem wl_X5_flying : Cond.selects RX5 yX5_flying yX5_flying ∈ gx_Ts := gx_t2 126 (by decide +kernel) rfl
theorem wk_X5_flying : Cond.code yX5_flying cX5_flying 1 (Option.some Jvm.ClassFile.FieldType.int) ∈ gx_Ts := gx_t2 127 (rfl) rfl
theorem wm_L_50 : Cond.methodLink RL 50 yX5_taken ∈ gx_Ts := gx_t2 128 (by decide +kernel) rfl
theorem wy_X5_taken : Cond.instanceMethod yX5_taken ∈ gx_Ts := gx_t2 129 (by decide +kernel) rfl
theorem wl_X5_taken : Cond.selects RX5 yX5_taken yX5_taken ∈ gx_Ts := gx_t2 130 (by decide +kernel) rfl
theorem wk_X5_taken : Cond.code yX5_taken cX5_taken 3 (Option.some Jvm.ClassFile.FieldType.int) ∈ gx_Ts := gx_t2 131 (rfl) rfl
theorem wm_L_54 : Cond.methodLink RL 54 yX5_answer ∈ gx_Ts := gx_t2 132 (by decide +kernel) rfl
theorem wy_X5_answer : Cond.instanceMethod yX5_answer ∈ gx_Ts := gx_t2 133 (by decide +kernel) rfl
theorem wl_X5_answer : Cond.selects RX5 yX5_answer yX5_answer ∈ gx_Ts := gx_t2 134 (by decide +kernel) rfl
theorem wk_X5_answer : Cond.code yX5_answer cX5_answer 2 (Option.some Jvm.ClassFile.FieldType.int) ∈ gx_Ts := gx_t2 135 (rfl) rfl
theorem wm_X5_141 : Cond.methodLink RX5 141 yX5_answered ∈ gx_Ts := gx_t2 136 (by decide +kernel) rfl
theorem wy_X5_answered : Cond.instanceMethod yX5_answered ∈ gx_Ts := gx_t2 137 (by decide +kernel) rfl
theorem wl_X5_answered : Cond.selects RX5 yX5_answered yX5_answered ∈ gx_Ts := gx_t2 138 (by decide +kernel) rfl
theorem wk_X5_answered : Cond.code yX5_answered cX5_answered 2 (Option.some Jvm.ClassFile.FieldType.boolean) ∈ gx_Ts := gx_t2 139 (rfl) rfl
theorem wm_X5_147 : Cond.methodLink RX5 147 yX5_hasOrder ∈ gx_Ts := gx_t2 140 (by decide +kernel) rfl
theorem wy_X5_hasOrder : Cond.instanceMethod yX5_hasOrder ∈ gx_Ts := gx_t2 142 (by decide +kernel) rfl
theorem wk_X5_hasOrder : Cond.code yX5_hasOrder cX5_hasOrder 2 (Option.some Jvm.ClassFile.FieldType.boolean) ∈ gx_Ts := gx_t2 143 (rfl) rfl
theorem wm_L_58 : Cond.methodLink RL 58 yX5_answered ∈ gx_Ts := gx_t2 144 (by decide +kernel) rfl
theorem wm_L_63 : Cond.methodLink RL 63 yX5_time ∈ gx_Ts := gx_t2 145 (by decide +kernel) rfl
theorem wy_X5_time : Cond.instanceMethod yX5_time ∈ gx_Ts := gx_t2 146 (by decide +kernel) rfl
theorem wl_X5_time : Cond.selects RX5 yX5_time yX5_time ∈ gx_Ts := gx_t2 147 (by decide +kernel) rfl
theorem wk_X5_time : Cond.code yX5_time cX5_time 5 (Option.some Jvm.ClassFile.FieldType.int) ∈ gx_Ts := gx_t2 148 (rfl) rfl
theorem wm_L_68 : Cond.methodLink RL 68 yX5_value ∈ gx_Ts := gx_t2 149 (by decide +kernel) rfl
theorem wy_X5_value : Cond.instanceMethod yX5_value ∈ gx_Ts := gx_t2 150 (by decide +kernel) rfl
theorem wl_X5_value : Cond.selects RX5 yX5_value yX5_value ∈ gx_Ts := gx_t2 151 (by decide +kernel) rfl
theorem wk_X5_value : Cond.code yX5_value cX5_value 2 (Option.some Jvm.ClassFile.FieldType.int) ∈ gx_Ts := gx_t2 152 (rfl) rfl
theorem wm_L_72 : Cond.methodLink RL 72 yX5_clock ∈ gx_Ts := gx_t2 153 (by decide +kernel) rfl
theorem wy_X5_clock : Cond.instanceMethod yX5_clock ∈ gx_Ts := gx_t2 154 (by decide +kernel) rfl
theorem wl_X5_clock : Cond.selects RX5 yX5_clock yX5_clock ∈ gx_Ts := gx_t2 155 (by decide +kernel) rfl
theorem wk_X5_clock : Cond.code yX5_clock cX5_clock 2 (Option.some Jvm.ClassFile.FieldType.int) ∈ gx_Ts := gx_t2 156 (rfl) rfl
theorem wm_L_76 : Cond.methodLink RL 76 yX5_seen ∈ gx_Ts := gx_t2 157 (by decide +kernel) rfl
theorem wy_X5_seen : Cond.instanceMethod yX5_seen ∈ gx_Ts := gx_t2 158 (by decide +kernel) rfl
theorem wl_X5_seen : Cond.selects RX5 yX5_seen yX5_seen ∈ gx_Ts := gx_t2 159 (by decide +kernel) rfl
theorem wk_X5_seen : Cond.code yX5_seen cX5_seen 2 (Option.some Jvm.ClassFile.FieldType.int) ∈ gx_Ts := gx_t2 160 (rfl) rfl
theorem wm_L_80 : Cond.methodLink RL 80 yX5_agree ∈ gx_Ts := gx_t2 161 (by decide +kernel) rfl
theorem wy_X5_agree : Cond.instanceMethod yX5_agree ∈ gx_Ts := gx_t2 162 (by decide +kernel) rfl
theorem wl_X5_agree : Cond.selects RX5 yX5_agree yX5_agree ∈ gx_Ts := gx_t2 163 (by decide +kernel) rfl
theorem wk_X5_agree : Cond.code yX5_agree cX5_agree 1 (Option.some Jvm.ClassFile.FieldType.boolean) ∈ gx_Ts := gx_t2 164 (rfl) rfl
theorem wm_X5_174 : Cond.methodLink RX5 174 yX5_groupsTookInOrder ∈ gx_Ts := gx_t2 165 (by decide +kernel) rfl
theorem wy_X5_groupsTookInOrder : Cond.instanceMethod yX5_groupsTookInOrder ∈ gx_Ts := gx_t2 167 (by decide +kernel) rfl
theorem wk_X5_groupsTookInOrder : Cond.code yX5_groupsTookInOrder cX5_groupsTookInOrder 4 (Option.some Jvm.ClassFile.FieldType.boolean) ∈ gx_Ts := gx_t2 168 (rfl) rfl
theorem wm_X5_278 : Cond.methodLink RX5 278 yX5_isBehind ∈ gx_Ts := gx_t2 169 (by decide +kernel) rfl
theorem wy_X5_isBehind : Cond.instanceMethod yX5_isBehind ∈ gx_Ts := gx_t2 171 (by decide +kernel) rfl
theorem wk_X5_isBehind : Cond.code yX5_isBehind cX5_isBehind 4 (Option.some Jvm.ClassFile.FieldType.boolean) ∈ gx_Ts := gx_t2 172 (rfl) rfl
theorem wm_X5_282 : Cond.methodLink RX5 282 yX5_finalTimeOf ∈ gx_Ts := gx_t2 173 (by decide +kernel) rfl
theorem wy_X5_finalTimeOf : Cond.instanceMethod yX5_finalTimeOf ∈ gx_Ts := gx_t2 175 (by decide +kernel) rfl
theorem wk_X5_finalTimeOf : Cond.code yX5_finalTimeOf cX5_finalTimeOf 4 (Option.some Jvm.ClassFile.FieldType.int) ∈ gx_Ts := gx_t2 176 (rfl) rfl
theorem wm_X5_294 : Cond.methodLink RX5 294 yJ6_compare_7cf53 ∈ gx_Ts := gx_t2 177 (by decide +kernel) rfl
theorem wm_X5_178 : Cond.methodLink RX5 178 yX5_clientsWereFollowed ∈ gx_Ts := gx_t2 178 (by decide +kernel) rfl
theorem wy_X5_clientsWereFollowed : Cond.instanceMethod yX5_clientsWereFollowed ∈ gx_Ts := gx_t2 180 (by decide +kernel) rfl
theorem wk_X5_clientsWereFollowed : Cond.code yX5_clientsWereFollowed cX5_clientsWereFollowed 4 (Option.some Jvm.ClassFile.FieldType.boolean) ∈ gx_Ts := gx_t2 181 (rfl) rfl
theorem wm_X5_181 : Cond.methodLink RX5 181 yX5_replayGivesTheSame ∈ gx_Ts := gx_t2 182 (by decide +kernel) rfl
theorem wy_X5_replayGivesTheSame : Cond.instanceMethod yX5_replayGivesTheSame ∈ gx_Ts := gx_t2 184 (by decide +kernel) rfl
theorem wk_X5_replayGivesTheSame : Cond.code yX5_replayGivesTheSame cX5_replayGivesTheSame 3 (Option.some Jvm.ClassFile.FieldType.boolean) ∈ gx_Ts := gx_t2 185 (rfl) rfl
theorem wm_X5_286 : Cond.methodLink RX5 286 yX5_nextAnswered ∈ gx_Ts := gx_t2 186 (by decide +kernel) rfl
theorem wy_X5_nextAnswered : Cond.instanceMethod yX5_nextAnswered ∈ gx_Ts := gx_t2 188 (by decide +kernel) rfl
theorem wk_X5_nextAnswered : Cond.code yX5_nextAnswered cX5_nextAnswered 6 (Option.some (Jvm.ClassFile.FieldType.object "GroupOrder$Order")) ∈ gx_Ts := gx_t2 189 (rfl) rfl
theorem wm_X5_290 : Cond.methodLink RX5 290 yX5_replayAnswersTheSame ∈ gx_Ts := gx_t2 190 (by decide +kernel) rfl
theorem wy_X5_replayAnswersTheSame : Cond.instanceMethod yX5_replayAnswersTheSame ∈ gx_Ts := gx_t2 192 (by decide +kernel) rfl
theorem wk_X5_replayAnswersTheSame : Cond.code yX5_replayAnswersTheSame cX5_replayAnswersTheSame 4 (Option.some Jvm.ClassFile.FieldType.boolean) ∈ gx_Ts := gx_t2 193 (rfl) rfl
theorem wm_X5_274 : Cond.methodLink RX5 274 yX5_isWorkedOutAt ∈ gx_Ts := gx_t2 194 (by decide +kernel) rfl
theorem wy_X5_isWorkedOutAt : Cond.instanceMethod yX5_isWorkedOutAt ∈ gx_Ts := gx_t2 196 (by decide +kernel) rfl
theorem wk_X5_isWorkedOutAt : Cond.code yX5_isWorkedOutAt cX5_isWorkedOutAt 4 (Option.some Jvm.ClassFile.FieldType.boolean) ∈ gx_Ts := gx_t2 197 (rfl) rfl
theorem wm_L_85 : Cond.methodLink RL 85 yX5_count ∈ gx_Ts := gx_t2 198 (by decide +kernel) rfl
theorem wy_X5_count : Cond.instanceMethod yX5_count ∈ gx_Ts := gx_t2 199 (by decide +kernel) rfl
theorem wl_X5_count : Cond.selects RX5 yX5_count yX5_count ∈ gx_Ts := gx_t2 200 (by decide +kernel) rfl
theorem wk_X5_count : Cond.code yX5_count cX5_count 2 (Option.some Jvm.ClassFile.FieldType.int) ∈ gx_Ts := gx_t2 201 (rfl) rfl
theorem wm_X5_187 : Cond.methodLink RX5 187 yX5_countAnswered ∈ gx_Ts := gx_t2 202 (by decide +kernel) rfl
theorem wy_X5_countAnswered : Cond.instanceMethod yX5_countAnswered ∈ gx_Ts := gx_t2 204 (by decide +kernel) rfl
theorem wk_X5_countAnswered : Cond.code yX5_countAnswered cX5_countAnswered 3 (Option.some Jvm.ClassFile.FieldType.int) ∈ gx_Ts := gx_t2 205 (rfl) rfl
theorem wm_X5_191 : Cond.methodLink RX5 191 yX5_countWorkedOutByAll ∈ gx_Ts := gx_t2 206 (by decide +kernel) rfl
theorem wy_X5_countWorkedOutByAll : Cond.instanceMethod yX5_countWorkedOutByAll ∈ gx_Ts := gx_t2 208 (by decide +kernel) rfl
theorem wk_X5_countWorkedOutByAll : Cond.code yX5_countWorkedOutByAll cX5_countWorkedOutByAll 3 (Option.some Jvm.ClassFile.FieldType.int) ∈ gx_Ts := gx_t2 209 (rfl) rfl
theorem wm_L_9 : Cond.methodLink RL 9 yL_cell ∈ gx_Ts := gx_t2 210 (by decide +kernel) rfl
theorem ws_L_cell : Cond.static yL_cell ∈ gx_Ts := gx_t2 211 (by decide +kernel) rfl
theorem wk_L_cell : Cond.code yL_cell cL_cell 2 (Option.some Jvm.ClassFile.FieldType.int) ∈ gx_Ts := gx_t2 212 (rfl) rfl
theorem wc_L_18 : Cond.classLink RL 18 RX6 ∈ gx_Ts := gx_t2 213 (by decide +kernel) rfl
theorem wn_X6 : Cond.instantiable RX6 34 ∈ gx_Ts := gx_t2 214 (by decide +kernel) rfl
theorem wm_L_20 : Cond.methodLink RL 20 yX6_init ∈ gx_Ts := gx_t2 215 (by decide +kernel) rfl
theorem wy_X6_init : Cond.instanceMethod yX6_init ∈ gx_Ts := gx_t2 216 (by decide +kernel) rfl
theorem wk_X6_init : Cond.code yX6_init cX6_init 3 (Option.none : Option Jvm.ClassFile.FieldType) ∈ gx_Ts := gx_t2 217 (rfl) rfl
theorem wm_X6_1 : Cond.methodLink RX6 1 objectInit ∈ gx_Ts := gx_t2 218 (by decide +kernel) rfl
theorem wf_X6_101 : Cond.fieldLink RX6 101 RX6 "groups" "I" ∈ gx_Ts := gx_t2 219 (by decide +kernel) rfl
theorem wf_X6_7 : Cond.fieldLink RX6 7 RX6 "clocks" "[I" ∈ gx_Ts := gx_t2 220 (by decide +kernel) rfl
theorem wf_X6_13 : Cond.fieldLink RX6 13 RX6 "down" "[Z" ∈ gx_Ts := gx_t2 221 (by decide +kernel) rfl
theorem wf_X6_17 : Cond.fieldLink RX6 17 RX6 "values" "[I" ∈ gx_Ts := gx_t2 222 (by decide +kernel) rfl
theorem wf_X6_124 : Cond.fieldLink RX6 124 RX6 "orders" "I" ∈ gx_Ts := gx_t2 223 (by decide +kernel) rfl
theorem wf_X6_20 : Cond.fieldLink RX6 20 RX6 "clients" "[I" ∈ gx_Ts := gx_t2 224 (by decide +kernel) rfl
theorem wf_X6_23 : Cond.fieldLink RX6 23 RX6 "kinds" "[I" ∈ gx_Ts := gx_t2 225 (by decide +kernel) rfl
theorem wf_X6_26 : Cond.fieldLink RX6 26 RX6 "as" "[I" ∈ gx_Ts := gx_t2 226 (by decide +kernel) rfl
theorem wf_X6_29 : Cond.fieldLink RX6 29 RX6 "bs" "[I" ∈ gx_Ts := gx_t2 227 (by decide +kernel) rfl
theorem wf_X6_32 : Cond.fieldLink RX6 32 RX6 "cs" "[I" ∈ gx_Ts := gx_t2 228 (by decide +kernel) rfl
theorem wf_X6_35 : Cond.fieldLink RX6 35 RX6 "sentAt" "[I" ∈ gx_Ts := gx_t2 229 (by decide +kernel) rfl
theorem wf_X6_38 : Cond.fieldLink RX6 38 RX6 "answered" "[Z" ∈ gx_Ts := gx_t2 230 (by decide +kernel) rfl
theorem wf_X6_41 : Cond.fieldLink RX6 41 RX6 "answers" "[I" ∈ gx_Ts := gx_t2 231 (by decide +kernel) rfl
theorem wf_X6_44 : Cond.fieldLink RX6 44 RX6 "times" "[I" ∈ gx_Ts := gx_t2 232 (by decide +kernel) rfl
theorem wf_X6_47 : Cond.fieldLink RX6 47 RX6 "started" "[Z" ∈ gx_Ts := gx_t2 233 (by decide +kernel) rfl
theorem wf_X6_50 : Cond.fieldLink RX6 50 RX6 "finals" "[I" ∈ gx_Ts := gx_t2 234 (by decide +kernel) rfl
theorem wf_X6_53 : Cond.fieldLink RX6 53 RX6 "isTaken" "[Z" ∈ gx_Ts := gx_t2 235 (by decide +kernel) rfl
theorem wf_X6_56 : Cond.fieldLink RX6 56 RX6 "sent" "[Z" ∈ gx_Ts := gx_t2 236 (by decide +kernel) rfl
theorem wf_X6_59 : Cond.fieldLink RX6 59 RX6 "worked" "[Z" ∈ gx_Ts := gx_t2 237 (by decide +kernel) rfl
theorem wf_X6_62 : Cond.fieldLink RX6 62 RX6 "locals" "[I" ∈ gx_Ts := gx_t2 238 (by decide +kernel) rfl
theorem wf_X6_65 : Cond.fieldLink RX6 65 RX6 "came" "[Z" ∈ gx_Ts := gx_t2 239 (by decide +kernel) rfl
theorem wf_X6_68 : Cond.fieldLink RX6 68 RX6 "cameA" "[I" ∈ gx_Ts := gx_t3 0 (by decide +kernel) rfl
theorem wf_X6_71 : Cond.fieldLink RX6 71 RX6 "cameB" "[I" ∈ gx_Ts := gx_t3 1 (by decide +kernel) rfl
theorem wf_X6_74 : Cond.fieldLink RX6 74 RX6 "takenCount" "[I" ∈ gx_Ts := gx_t3 2 (by decide +kernel) rfl
theorem wf_X6_77 : Cond.fieldLink RX6 77 RX6 "takenRow" "[I" ∈ gx_Ts := gx_t3 3 (by decide +kernel) rfl
theorem wf_X6_109 : Cond.fieldLink RX6 109 RX6 "flying" "I" ∈ gx_Ts := gx_t3 4 (by decide +kernel) rfl
theorem wf_X6_80 : Cond.fieldLink RX6 80 RX6 "kindOf" "[I" ∈ gx_Ts := gx_t3 5 (by decide +kernel) rfl
theorem wf_X6_83 : Cond.fieldLink RX6 83 RX6 "orderOf" "[I" ∈ gx_Ts := gx_t3 6 (by decide +kernel) rfl
theorem wf_X6_86 : Cond.fieldLink RX6 86 RX6 "fromOf" "[I" ∈ gx_Ts := gx_t3 7 (by decide +kernel) rfl
theorem wf_X6_89 : Cond.fieldLink RX6 89 RX6 "toOf" "[I" ∈ gx_Ts := gx_t3 8 (by decide +kernel) rfl
theorem wf_X6_92 : Cond.fieldLink RX6 92 RX6 "timeOf" "[I" ∈ gx_Ts := gx_t3 9 (by decide +kernel) rfl
theorem wf_X6_95 : Cond.fieldLink RX6 95 RX6 "aOf" "[I" ∈ gx_Ts := gx_t3 10 (by decide +kernel) rfl
theorem wf_X6_98 : Cond.fieldLink RX6 98 RX6 "bOf" "[I" ∈ gx_Ts := gx_t3 11 (by decide +kernel) rfl
theorem wf_X6_139 : Cond.fieldLink RX6 139 RX6 "brought" "I" ∈ gx_Ts := gx_t3 12 (by decide +kernel) rfl
theorem wa_boolean : Cond.arrayClass Jvm.ClassFile.FieldType.boolean ∈ gx_Ts := gx_t3 82 (by decide +kernel) rfl
theorem wm_L_25 : Cond.methodLink RL 25 yX6_send ∈ gx_Ts := gx_t3 83 (by decide +kernel) rfl
theorem wy_X6_send : Cond.instanceMethod yX6_send ∈ gx_Ts := gx_t3 84 (by decide +kernel) rfl
theorem wl_X6_send : Cond.selects RX6 yX6_send yX6_send ∈ gx_Ts := gx_t3 85 (by decide +kernel) rfl
theorem wk_X6_send : Cond.code yX6_send cX6_send 7 (Option.some Jvm.ClassFile.FieldType.int) ∈ gx_Ts := gx_t3 86 (rfl) rfl
theorem wm_X6_120 : Cond.methodLink RX6 120 yX6_isIn ∈ gx_Ts := gx_t3 87 (by decide +kernel) rfl
theorem ws_X6_isIn : Cond.static yX6_isIn ∈ gx_Ts := gx_t3 88 (by decide +kernel) rfl
theorem wk_X6_isIn : Cond.code yX6_isIn cX6_isIn 2 (Option.some Jvm.ClassFile.FieldType.boolean) ∈ gx_Ts := gx_t3 89 (rfl) rfl
theorem wt_X6_123 : Cond.constant RX6 123 (1000000 : Int32) ∈ gx_Ts := gx_t3 90 (by decide +kernel) rfl
theorem wm_X6_127 : Cond.methodLink RX6 127 yX6_putOthers ∈ gx_Ts := gx_t3 91 (by decide +kernel) rfl
theorem wy_X6_putOthers : Cond.instanceMethod yX6_putOthers ∈ gx_Ts := gx_t3 93 (by decide +kernel) rfl
theorem wk_X6_putOthers : Cond.code yX6_putOthers cX6_putOthers 6 (Option.none : Option Jvm.ClassFile.FieldType) ∈ gx_Ts := gx_t3 94 (rfl) rfl
theorem wm_X6_112 : Cond.methodLink RX6 112 yX6_isOf ∈ gx_Ts := gx_t3 95 (by decide +kernel) rfl
theorem wy_X6_isOf : Cond.instanceMethod yX6_isOf ∈ gx_Ts := gx_t3 97 (by decide +kernel) rfl
theorem wk_X6_isOf : Cond.code yX6_isOf cX6_isOf 3 (Option.some Jvm.ClassFile.FieldType.boolean) ∈ gx_Ts := gx_t3 98 (rfl) rfl
theorem wm_X6_116 : Cond.methodLink RX6 116 yX6_put ∈ gx_Ts := gx_t3 99 (by decide +kernel) rfl
theorem wy_X6_put : Cond.instanceMethod yX6_put ∈ gx_Ts := gx_t3 101 (by decide +kernel) rfl
theorem wk_X6_put : Cond.code yX6_put cX6_put 6 (Option.none : Option Jvm.ClassFile.FieldType) ∈ gx_Ts := gx_t3 102 (rfl) rfl
theorem wm_L_30 : Cond.methodLink RL 30 yX6_bring ∈ gx_Ts := gx_t3 103 (by decide +kernel) rfl
theorem wy_X6_bring : Cond.instanceMethod yX6_bring ∈ gx_Ts := gx_t3 104 (by decide +kernel) rfl
theorem wl_X6_bring : Cond.selects RX6 yX6_bring yX6_bring ∈ gx_Ts := gx_t3 105 (by decide +kernel) rfl
theorem wk_X6_bring : Cond.code yX6_bring cX6_bring 3 (Option.some Jvm.ClassFile.FieldType.int) ∈ gx_Ts := gx_t3 106 (rfl) rfl
theorem wm_X6_155 : Cond.methodLink RX6 155 yX6_move ∈ gx_Ts := gx_t3 107 (by decide +kernel) rfl
theorem wy_X6_move : Cond.instanceMethod yX6_move ∈ gx_Ts := gx_t3 109 (by decide +kernel) rfl
theorem wk_X6_move : Cond.code yX6_move cX6_move 3 (Option.none : Option Jvm.ClassFile.FieldType) ∈ gx_Ts := gx_t3 110 (rfl) rfl
theorem wm_X6_158 : Cond.methodLink RX6 158 yX6_comes ∈ gx_Ts := gx_t3 111 (by decide +kernel) rfl
theorem wy_X6_comes : Cond.instanceMethod yX6_comes ∈ gx_Ts := gx_t3 113 (by decide +kernel) rfl
theorem wk_X6_comes : Cond.code yX6_comes cX6_comes 5 (Option.none : Option Jvm.ClassFile.FieldType) ∈ gx_Ts := gx_t3 114 (rfl) rfl
theorem wm_X6_135 : Cond.methodLink RX6 135 yX6_comesStart ∈ gx_Ts := gx_t3 115 (by decide +kernel) rfl
theorem wy_X6_comesStart : Cond.instanceMethod yX6_comesStart ∈ gx_Ts := gx_t3 117 (by decide +kernel) rfl
theorem wk_X6_comesStart : Cond.code yX6_comesStart cX6_comesStart 3 (Option.none : Option Jvm.ClassFile.FieldType) ∈ gx_Ts := gx_t3 118 (rfl) rfl
theorem wm_X6_105 : Cond.methodLink RX6 105 yX6_at ∈ gx_Ts := gx_t3 119 (by decide +kernel) rfl
theorem ws_X6_at : Cond.static yX6_at ∈ gx_Ts := gx_t3 120 (by decide +kernel) rfl
theorem wk_X6_at : Cond.code yX6_at cX6_at 2 (Option.some Jvm.ClassFile.FieldType.int) ∈ gx_Ts := gx_t3 121 (rfl) rfl
theorem wm_X6_131 : Cond.methodLink RX6 131 yX6_of ∈ gx_Ts := gx_t3 122 (by decide +kernel) rfl
theorem ws_X6_of : Cond.static yX6_of ∈ gx_Ts := gx_t3 123 (by decide +kernel) rfl
theorem wk_X6_of : Cond.code yX6_of cX6_of 3 (Option.some Jvm.ClassFile.FieldType.int) ∈ gx_Ts := gx_t3 124 (rfl) rfl
theorem wm_X6_142 : Cond.methodLink RX6 142 yX6_makesFinal ∈ gx_Ts := gx_t3 125 (by decide +kernel) rfl
theorem wy_X6_makesFinal : Cond.instanceMethod yX6_makesFinal ∈ gx_Ts := gx_t3 127 (by decide +kernel) rfl
theorem wk_X6_makesFinal : Cond.code yX6_makesFinal cX6_makesFinal 7 (Option.some Jvm.ClassFile.FieldType.boolean) ∈ gx_Ts := gx_t3 128 (rfl) rfl
theorem wm_X6_146 : Cond.methodLink RX6 146 yX6_takes ∈ gx_Ts := gx_t3 129 (by decide +kernel) rfl
theorem wy_X6_takes : Cond.instanceMethod yX6_takes ∈ gx_Ts := gx_t3 131 (by decide +kernel) rfl
theorem wk_X6_takes : Cond.code yX6_takes cX6_takes 6 (Option.some Jvm.ClassFile.FieldType.boolean) ∈ gx_Ts := gx_t3 132 (rfl) rfl
theorem wm_X6_149 : Cond.methodLink RX6 149 yX6_works ∈ gx_Ts := gx_t3 133 (by decide +kernel) rfl
theorem wy_X6_works : Cond.instanceMethod yX6_works ∈ gx_Ts := gx_t3 135 (by decide +kernel) rfl
theorem wk_X6_works : Cond.code yX6_works cX6_works 5 (Option.some Jvm.ClassFile.FieldType.boolean) ∈ gx_Ts := gx_t3 136 (rfl) rfl
theorem wm_X6_152 : Cond.methodLink RX6 152 yX6_workOut ∈ gx_Ts := gx_t3 137 (by decide +kernel) rfl
theorem wy_X6_workOut : Cond.instanceMethod yX6_workOut ∈ gx_Ts := gx_t3 139 (by decide +kernel) rfl
theorem wk_X6_workOut : Cond.code yX6_workOut cX6_workOut 9 (Option.none : Option Jvm.ClassFile.FieldType) ∈ gx_Ts := gx_t3 140 (rfl) rfl
theorem wm_L_34 : Cond.methodLink RL 34 yX6_twice ∈ gx_Ts := gx_t3 141 (by decide +kernel) rfl
theorem wy_X6_twice : Cond.instanceMethod yX6_twice ∈ gx_Ts := gx_t3 142 (by decide +kernel) rfl
theorem wl_X6_twice : Cond.selects RX6 yX6_twice yX6_twice ∈ gx_Ts := gx_t3 143 (by decide +kernel) rfl
theorem wk_X6_twice : Cond.code yX6_twice cX6_twice 2 (Option.some Jvm.ClassFile.FieldType.int) ∈ gx_Ts := gx_t3 144 (rfl) rfl
theorem wm_L_39 : Cond.methodLink RL 39 yX6_up ∈ gx_Ts := gx_t3 145 (by decide +kernel) rfl
theorem wy_X6_up : Cond.instanceMethod yX6_up ∈ gx_Ts := gx_t3 146 (by decide +kernel) rfl
theorem wl_X6_up : Cond.selects RX6 yX6_up yX6_up ∈ gx_Ts := gx_t3 147 (by decide +kernel) rfl
theorem wk_X6_up : Cond.code yX6_up cX6_up 3 (Option.some Jvm.ClassFile.FieldType.boolean) ∈ gx_Ts := gx_t3 148 (rfl) rfl
theorem wm_L_44 : Cond.methodLink RL 44 yX6_flight ∈ gx_Ts := gx_t3 149 (by decide +kernel) rfl
theorem wy_X6_flight : Cond.instanceMethod yX6_flight ∈ gx_Ts := gx_t3 150 (by decide +kernel) rfl
theorem wl_X6_flight : Cond.selects RX6 yX6_flight yX6_flight ∈ gx_Ts := gx_t3 151 (by decide +kernel) rfl
theorem wk_X6_flight : Cond.code yX6_flight cX6_flight 3 (Option.some Jvm.ClassFile.FieldType.int) ∈ gx_Ts := gx_t3 152 (rfl) rfl
theorem wm_L_49 : Cond.methodLink RL 49 yX6_flying ∈ gx_Ts := gx_t3 153 (by decide +kernel) rfl
theorem wy_X6_flying : Cond.instanceMethod yX6_flying ∈ gx_Ts := gx_t3 154 (by decide +kernel) rfl
theorem wl_X6_flying : Cond.selects RX6 yX6_flying yX6_flying ∈ gx_Ts := gx_t3 155 (by decide +kernel) rfl
theorem wk_X6_flying : Cond.code yX6_flying cX6_flying 1 (Option.some Jvm.ClassFile.FieldType.int) ∈ gx_Ts := gx_t3 156 (rfl) rfl
theorem wm_L_53 : Cond.methodLink RL 53 yX6_taken ∈ gx_Ts := gx_t3 157 (by decide +kernel) rfl
theorem wy_X6_taken : Cond.instanceMethod yX6_taken ∈ gx_Ts := gx_t3 158 (by decide +kernel) rfl
theorem wl_X6_taken : Cond.selects RX6 yX6_taken yX6_taken ∈ gx_Ts := gx_t3 159 (by decide +kernel) rfl
theorem wk_X6_taken : Cond.code yX6_taken cX6_taken 3 (Option.some Jvm.ClassFile.FieldType.int) ∈ gx_Ts := gx_t3 160 (rfl) rfl
theorem wm_L_57 : Cond.methodLink RL 57 yX6_answer ∈ gx_Ts := gx_t3 161 (by decide +kernel) rfl
theorem wy_X6_answer : Cond.instanceMethod yX6_answer ∈ gx_Ts := gx_t3 162 (by decide +kernel) rfl
theorem wl_X6_answer : Cond.selects RX6 yX6_answer yX6_answer ∈ gx_Ts := gx_t3 163 (by decide +kernel) rfl
theorem wk_X6_answer : Cond.code yX6_answer cX6_answer 2 (Option.some Jvm.ClassFile.FieldType.int) ∈ gx_Ts := gx_t3 164 (rfl) rfl
theorem wm_L_62 : Cond.methodLink RL 62 yX6_answered ∈ gx_Ts := gx_t3 165 (by decide +kernel) rfl
theorem wy_X6_answered : Cond.instanceMethod yX6_answered ∈ gx_Ts := gx_t3 166 (by decide +kernel) rfl
theorem wl_X6_answered : Cond.selects RX6 yX6_answered yX6_answered ∈ gx_Ts := gx_t3 167 (by decide +kernel) rfl
theorem wk_X6_answered : Cond.code yX6_answered cX6_answered 2 (Option.some Jvm.ClassFile.FieldType.boolean) ∈ gx_Ts := gx_t3 168 (rfl) rfl
theorem wm_L_67 : Cond.methodLink RL 67 yX6_time ∈ gx_Ts := gx_t3 169 (by decide +kernel) rfl
theorem wy_X6_time : Cond.instanceMethod yX6_time ∈ gx_Ts := gx_t3 170 (by decide +kernel) rfl
theorem wl_X6_time : Cond.selects RX6 yX6_time yX6_time ∈ gx_Ts := gx_t3 171 (by decide +kernel) rfl
theorem wk_X6_time : Cond.code yX6_time cX6_time 5 (Option.some Jvm.ClassFile.FieldType.int) ∈ gx_Ts := gx_t3 172 (rfl) rfl
theorem wm_L_71 : Cond.methodLink RL 71 yX6_value ∈ gx_Ts := gx_t3 173 (by decide +kernel) rfl
theorem wy_X6_value : Cond.instanceMethod yX6_value ∈ gx_Ts := gx_t3 174 (by decide +kernel) rfl
theorem wl_X6_value : Cond.selects RX6 yX6_value yX6_value ∈ gx_Ts := gx_t3 175 (by decide +kernel) rfl
theorem wk_X6_value : Cond.code yX6_value cX6_value 2 (Option.some Jvm.ClassFile.FieldType.int) ∈ gx_Ts := gx_t3 176 (rfl) rfl
theorem wm_L_75 : Cond.methodLink RL 75 yX6_clock ∈ gx_Ts := gx_t3 177 (by decide +kernel) rfl
theorem wy_X6_clock : Cond.instanceMethod yX6_clock ∈ gx_Ts := gx_t3 178 (by decide +kernel) rfl
theorem wl_X6_clock : Cond.selects RX6 yX6_clock yX6_clock ∈ gx_Ts := gx_t3 179 (by decide +kernel) rfl
theorem wk_X6_clock : Cond.code yX6_clock cX6_clock 2 (Option.some Jvm.ClassFile.FieldType.int) ∈ gx_Ts := gx_t3 180 (rfl) rfl
theorem wm_L_79 : Cond.methodLink RL 79 yX6_seen ∈ gx_Ts := gx_t3 181 (by decide +kernel) rfl
theorem wy_X6_seen : Cond.instanceMethod yX6_seen ∈ gx_Ts := gx_t3 182 (by decide +kernel) rfl
theorem wl_X6_seen : Cond.selects RX6 yX6_seen yX6_seen ∈ gx_Ts := gx_t3 183 (by decide +kernel) rfl
theorem wk_X6_seen : Cond.code yX6_seen cX6_seen 2 (Option.some Jvm.ClassFile.FieldType.int) ∈ gx_Ts := gx_t3 184 (rfl) rfl
theorem wm_L_84 : Cond.methodLink RL 84 yX6_agree ∈ gx_Ts := gx_t3 185 (by decide +kernel) rfl
theorem wy_X6_agree : Cond.instanceMethod yX6_agree ∈ gx_Ts := gx_t3 186 (by decide +kernel) rfl
theorem wl_X6_agree : Cond.selects RX6 yX6_agree yX6_agree ∈ gx_Ts := gx_t3 187 (by decide +kernel) rfl
theorem wk_X6_agree : Cond.code yX6_agree cX6_agree 6 (Option.some Jvm.ClassFile.FieldType.boolean) ∈ gx_Ts := gx_t3 188 (rfl) rfl
theorem wm_L_88 : Cond.methodLink RL 88 yX6_count ∈ gx_Ts := gx_t3 189 (by decide +kernel) rfl
theorem wy_X6_count : Cond.instanceMethod yX6_count ∈ gx_Ts := gx_t3 190 (by decide +kernel) rfl
theorem wl_X6_count : Cond.selects RX6 yX6_count yX6_count ∈ gx_Ts := gx_t3 191 (by decide +kernel) rfl
theorem wk_X6_count : Cond.code yX6_count cX6_count 4 (Option.some Jvm.ClassFile.FieldType.int) ∈ gx_Ts := gx_t3 192 (rfl) rfl
theorem wm_X6_162 : Cond.methodLink RX6 162 yX6_doneCount ∈ gx_Ts := gx_t3 193 (by decide +kernel) rfl
theorem wy_X6_doneCount : Cond.instanceMethod yX6_doneCount ∈ gx_Ts := gx_t3 195 (by decide +kernel) rfl
theorem wk_X6_doneCount : Cond.code yX6_doneCount cX6_doneCount 5 (Option.some Jvm.ClassFile.FieldType.int) ∈ gx_Ts := gx_t3 196 (rfl) rfl
theorem wl_X5_answeredOrdersOf : Cond.selects RX5 yX5_answeredOrdersOf yX5_answeredOrdersOf ∈ gx_Ts := gx_tp (n := 9) (List.mem_append_left _ (List.mem_of_getElem? (i := 0) rfl))
theorem wl_X5_putStarts : Cond.selects RX5 yX5_putStarts yX5_putStarts ∈ gx_Ts := gx_tp (n := 9) (List.mem_append_left _ (List.mem_of_getElem? (i := 1) rfl))
theorem wl_X5_keeperOf : Cond.selects RX5 yX5_keeperOf yX5_keeperOf ∈ gx_Ts := gx_tp (n := 9) (List.mem_append_left _ (List.mem_of_getElem? (i := 2) rfl))
theorem wl_X5_deliver : Cond.selects RX5 yX5_deliver yX5_deliver ∈ gx_Ts := gx_tp (n := 9) (List.mem_append_left _ (List.mem_of_getElem? (i := 3) rfl))
theorem wl_X5_receive : Cond.selects RX5 yX5_receive yX5_receive ∈ gx_Ts := gx_tp (n := 9) (List.mem_append_left _ (List.mem_of_getElem? (i := 4) rfl))
theorem wl_X1_earliestWaiting : Cond.selects RX1 yX1_earliestWaiting yX1_earliestWaiting ∈ gx_Ts := gx_tp (n := 7) (List.mem_append_left _ (List.mem_of_getElem? (i := 5) rfl))
theorem wl_X4_leastTime : Cond.selects RX4 yX4_leastTime yX4_leastTime ∈ gx_Ts := gx_tp (n := 11) (List.mem_append_left _ (List.mem_of_getElem? (i := 6) rfl))
theorem wl_X5_workOutAll : Cond.selects RX5 yX5_workOutAll yX5_workOutAll ∈ gx_Ts := gx_tp (n := 9) (List.mem_append_left _ (List.mem_of_getElem? (i := 7) rfl))
theorem wl_X5_putValues : Cond.selects RX5 yX5_putValues yX5_putValues ∈ gx_Ts := gx_tp (n := 9) (List.mem_append_left _ (List.mem_of_getElem? (i := 8) rfl))
theorem wl_X5_workOut : Cond.selects RX5 yX5_workOut yX5_workOut ∈ gx_Ts := gx_tp (n := 9) (List.mem_append_left _ (List.mem_of_getElem? (i := 9) rfl))
theorem wl_X5_isGroup : Cond.selects RX5 yX5_isGroup yX5_isGroup ∈ gx_Ts := gx_tp (n := 9) (List.mem_append_left _ (List.mem_of_getElem? (i := 10) rfl))
theorem wl_X5_hasOrder : Cond.selects RX5 yX5_hasOrder yX5_hasOrder ∈ gx_Ts := gx_tp (n := 9) (List.mem_append_left _ (List.mem_of_getElem? (i := 11) rfl))
theorem wl_X5_groupsTookInOrder : Cond.selects RX5 yX5_groupsTookInOrder yX5_groupsTookInOrder ∈ gx_Ts := gx_tp (n := 9) (List.mem_append_left _ (List.mem_of_getElem? (i := 12) rfl))
theorem wl_X5_isBehind : Cond.selects RX5 yX5_isBehind yX5_isBehind ∈ gx_Ts := gx_tp (n := 9) (List.mem_append_left _ (List.mem_of_getElem? (i := 13) rfl))
theorem wl_X5_finalTimeOf : Cond.selects RX5 yX5_finalTimeOf yX5_finalTimeOf ∈ gx_Ts := gx_tp (n := 9) (List.mem_append_left _ (List.mem_of_getElem? (i := 14) rfl))
theorem wl_X5_clientsWereFollowed : Cond.selects RX5 yX5_clientsWereFollowed yX5_clientsWereFollowed ∈ gx_Ts := gx_tp (n := 9) (List.mem_append_left _ (List.mem_of_getElem? (i := 15) rfl))
theorem wl_X5_replayGivesTheSame : Cond.selects RX5 yX5_replayGivesTheSame yX5_replayGivesTheSame ∈ gx_Ts := gx_tp (n := 9) (List.mem_append_right _ (List.mem_append_left _ (List.mem_of_getElem? (i := 0) rfl)))
theorem wl_X5_nextAnswered : Cond.selects RX5 yX5_nextAnswered yX5_nextAnswered ∈ gx_Ts := gx_tp (n := 9) (List.mem_append_right _ (List.mem_append_left _ (List.mem_of_getElem? (i := 1) rfl)))
theorem wl_X5_replayAnswersTheSame : Cond.selects RX5 yX5_replayAnswersTheSame yX5_replayAnswersTheSame ∈ gx_Ts := gx_tp (n := 9) (List.mem_append_right _ (List.mem_append_left _ (List.mem_of_getElem? (i := 2) rfl)))
theorem wl_X5_isWorkedOutAt : Cond.selects RX5 yX5_isWorkedOutAt yX5_isWorkedOutAt ∈ gx_Ts := gx_tp (n := 9) (List.mem_append_right _ (List.mem_append_left _ (List.mem_of_getElem? (i := 3) rfl)))
theorem wl_X5_countAnswered : Cond.selects RX5 yX5_countAnswered yX5_countAnswered ∈ gx_Ts := gx_tp (n := 9) (List.mem_append_right _ (List.mem_append_left _ (List.mem_of_getElem? (i := 4) rfl)))
theorem wl_X5_countWorkedOutByAll : Cond.selects RX5 yX5_countWorkedOutByAll yX5_countWorkedOutByAll ∈ gx_Ts := gx_tp (n := 9) (List.mem_append_right _ (List.mem_append_left _ (List.mem_of_getElem? (i := 5) rfl)))
theorem wl_X6_putOthers : Cond.selects RX6 yX6_putOthers yX6_putOthers ∈ gx_Ts := gx_tp (n := 34) (List.mem_append_right _ (List.mem_append_left _ (List.mem_of_getElem? (i := 6) rfl)))
theorem wl_X6_isOf : Cond.selects RX6 yX6_isOf yX6_isOf ∈ gx_Ts := gx_tp (n := 34) (List.mem_append_right _ (List.mem_append_left _ (List.mem_of_getElem? (i := 7) rfl)))
theorem wl_X6_put : Cond.selects RX6 yX6_put yX6_put ∈ gx_Ts := gx_tp (n := 34) (List.mem_append_right _ (List.mem_append_left _ (List.mem_of_getElem? (i := 8) rfl)))
theorem wl_X6_move : Cond.selects RX6 yX6_move yX6_move ∈ gx_Ts := gx_tp (n := 34) (List.mem_append_right _ (List.mem_append_left _ (List.mem_of_getElem? (i := 9) rfl)))
theorem wl_X6_comes : Cond.selects RX6 yX6_comes yX6_comes ∈ gx_Ts := gx_tp (n := 34) (List.mem_append_right _ (List.mem_append_left _ (List.mem_of_getElem? (i := 10) rfl)))
theorem wl_X6_comesStart : Cond.selects RX6 yX6_comesStart yX6_comesStart ∈ gx_Ts := gx_tp (n := 34) (List.mem_append_right _ (List.mem_append_left _ (List.mem_of_getElem? (i := 11) rfl)))
theorem wl_X6_makesFinal : Cond.selects RX6 yX6_makesFinal yX6_makesFinal ∈ gx_Ts := gx_tp (n := 34) (List.mem_append_right _ (List.mem_append_left _ (List.mem_of_getElem? (i := 12) rfl)))
theorem wl_X6_takes : Cond.selects RX6 yX6_takes yX6_takes ∈ gx_Ts := gx_tp (n := 34) (List.mem_append_right _ (List.mem_append_left _ (List.mem_of_getElem? (i := 13) rfl)))
theorem wl_X6_works : Cond.selects RX6 yX6_works yX6_works ∈ gx_Ts := gx_tp (n := 34) (List.mem_append_right _ (List.mem_append_left _ (List.mem_of_getElem? (i := 14) rfl)))
theorem wl_X6_workOut : Cond.selects RX6 yX6_workOut yX6_workOut ∈ gx_Ts := gx_tp (n := 34) (List.mem_append_right _ (List.mem_append_left _ (List.mem_of_getElem? (i := 15) rfl)))
theorem wl_X6_doneCount : Cond.selects RX6 yX6_doneCount yX6_doneCount ∈ gx_Ts := gx_tp (n := 34) (List.mem_append_right _ (List.mem_append_right _ (List.mem_of_getElem? (i := 0) rfl)))
theorem wx_X0 : ∀ w ∈ u_ws RX0 TX0 2, w ∈ gx_Ts := by
  have h : (u_ws RX0 TX0 2).all (fun w => decide (w ∈ lw_tbl) && goodWord w) = true := by decide +kernel
  intro w hw
  have h1 := List.all_eq_true.mp h w hw
  simp only [Bool.and_eq_true, decide_eq_true_eq] at h1
  exact List.mem_filter.mpr h1
theorem wx_X1 : ∀ w ∈ u_ws RX1 TX1 7, w ∈ gx_Ts := by
  have h : (u_ws RX1 TX1 7).all (fun w => decide (w ∈ lw_tbl) && goodWord w) = true := by decide +kernel
  intro w hw
  have h1 := List.all_eq_true.mp h w hw
  simp only [Bool.and_eq_true, decide_eq_true_eq] at h1
  exact List.mem_filter.mpr h1
theorem wx_X2 : ∀ w ∈ u_ws RX2 TX2 4, w ∈ gx_Ts := by
  have h : (u_ws RX2 TX2 4).all (fun w => decide (w ∈ lw_tbl) && goodWord w) = true := by decide +kernel
  intro w hw
  have h1 := List.all_eq_true.mp h w hw
  simp only [Bool.and_eq_true, decide_eq_true_eq] at h1
  exact List.mem_filter.mpr h1
theorem wx_X3 : ∀ w ∈ u_ws RX3 TX3 10, w ∈ gx_Ts := by
  have h : (u_ws RX3 TX3 10).all (fun w => decide (w ∈ lw_tbl) && goodWord w) = true := by decide +kernel
  intro w hw
  have h1 := List.all_eq_true.mp h w hw
  simp only [Bool.and_eq_true, decide_eq_true_eq] at h1
  exact List.mem_filter.mpr h1
theorem wx_X4 : ∀ w ∈ u_ws RX4 TX4 11, w ∈ gx_Ts := by
  have h : (u_ws RX4 TX4 11).all (fun w => decide (w ∈ lw_tbl) && goodWord w) = true := by decide +kernel
  intro w hw
  have h1 := List.all_eq_true.mp h w hw
  simp only [Bool.and_eq_true, decide_eq_true_eq] at h1
  exact List.mem_filter.mpr h1
theorem wx_X5 : ∀ w ∈ u_ws RX5 TX5 9, w ∈ gx_Ts := by
  have h : (u_ws RX5 TX5 9).all (fun w => decide (w ∈ lw_tbl) && goodWord w) = true := by decide +kernel
  intro w hw
  have h1 := List.all_eq_true.mp h w hw
  simp only [Bool.and_eq_true, decide_eq_true_eq] at h1
  exact List.mem_filter.mpr h1
theorem wx_X6 : ∀ w ∈ u_ws RX6 TX6 34, w ∈ gx_Ts := by
  have h : (u_ws RX6 TX6 34).all (fun w => decide (w ∈ lw_tbl) && goodWord w) = true := by decide +kernel
  intro w hw
  have h1 := List.all_eq_true.mp h w hw
  simp only [Bool.and_eq_true, decide_eq_true_eq] at h1
  exact List.mem_filter.mpr h1
end
section
/-! the judgement: a method's walk over ONE abstract heap (next address, slots used, cells by address) -/
abbrev gx_M : Type := String × MethodName × ByteArray × Nat × Option FieldType
abbrev gx_E : Type := (Nat × vp_A) ⊕ (Nat × List Value)
abbrev gx_H : Type := Nat × Nat × (Nat → Option gx_E)
abbrev gx_Z : Type := (Nat → ClassId) × (Nat → Nat → Nat) × (Nat → ClassId)
abbrev gx_S : Type := Nat × Nat × Nat × (Nat → Int32)
def gx_e (cy : Nat → ClassId) (e : gx_E) : va_E := match e with
  | .inl a => .inl (cy a.1, a.2)
  | .inr o => .inr o
def gx_ty (t : Nat) : FieldType := match t with
  | 0 => .int
  | 1 => .boolean
  | 2 => .object RX1
  | 3 => .object RX2
  | 4 => .object RX3
  | _ => .object RX4
def gx_tys (cy : Nat → ClassId) : List (ClassId × FieldType) := [(cy 0, gx_ty 0), (cy 1, gx_ty 1), (cy 2, gx_ty 2), (cy 3, gx_ty 3), (cy 4, gx_ty 4), (cy 5, gx_ty 5)]
abbrev gx_D (Z : gx_Z) : va_G := (Z.1, Z.2.1)
def gx_nest : Cond := .methodLinkNest RX5 24 yX0_init RX5
def gx_Kn (Z : gx_Z) (U : State) : Prop := va_K (gx_D Z) vwCl (gx_tys Z.2.2) U ∧ (va_AO RX1 U ∧ va_AO RX2 U ∧ va_AO RX3 U ∧ va_AO RX4 U) ∧ va_Nw gx_nest U
theorem gx_Kn.moved {Z : gx_Z} {s U : State} (hW : s.WarmedH U.vm) (h : gx_Kn Z s) : gx_Kn Z U :=
  ⟨va_K.moved hW.alike h.1, ⟨h.2.1.1.moved hW.alike, h.2.1.2.1.moved hW.alike, h.2.1.2.2.1.moved hW.alike, h.2.1.2.2.2.moved hW.alike⟩, va_Nw.warmM hW h.2.2⟩
theorem gx_Kn.same {Z : gx_Z} {s U : State} (hW : s.vm = U.vm) (h : gx_Kn Z s) : gx_Kn Z U := by
  have ha : s.vm.Alike U.vm := hW ▸ Vm.Alike.refl s.vm
  exact ⟨va_K.moved ha h.1, ⟨h.2.1.1.moved ha, h.2.1.2.1.moved ha, h.2.1.2.2.1.moved ha, h.2.1.2.2.2.moved ha⟩, va_Nw.same rfl hW h.2.2⟩
/-- the machine's heap H holds the abstract heap h; the script lies below -/
def gx_Rel (Z : gx_Z) (S : gx_S) (h : gx_H) (U : State) (H : Heap) : Prop :=
  H.size = h.1 ∧ S.1 ≤ h.1 ∧ (∀ (a : Nat) (e : gx_E), h.2.2 a = some e → S.1 ≤ a ∧ va_at (gx_D Z) vwCl (a, gx_e Z.2.2 e) H) ∧ S.2.1 < S.1 ∧ va_X S.2.1 S.2.2.1 S.2.2.2 U H
/-- the locals by their places -/
def gx_as (L : List (Option Value)) : List (Nat × Value) := (List.range L.length).filterMap (fun i => (L[i]?.join).map (fun v => (i, v)))
theorem gx_mem {L : List (Option Value)} {i : Nat} {v : Value} : (i, v) ∈ gx_as L ↔ L[i]? = some (some v) := by
  unfold gx_as
  rw [List.mem_filterMap]
  constructor
  · rintro ⟨j, -, hj⟩
    cases hq : L[j]? with
    | none => rw [hq] at hj; cases hj
    | some q =>
      cases q with
      | none => rw [hq] at hj; cases hj
      | some w =>
        rw [hq] at hj
        have h2 : (j, w) = (i, v) := Option.some.inj hj
        cases h2
        exact hq
  · intro h
    refine ⟨i, List.mem_range.mpr (List.getElem?_eq_some_iff.mp h).1, ?_⟩
    rw [h]; rfl
def gx_Ls (ls : Array Slot) (nL : Nat) (L : List (Option Value)) : Prop := lv_has ls nL (gx_as L) ∧ L.length ≤ nL
theorem gx_Ls.at {ls : Array Slot} {nL : Nat} {L : List (Option Value)} (h : gx_Ls ls nL L) {i : Nat} {v : Value} (hv : L[i]? = some (some v)) : ls[i]? = some (.val v) := h.1.2.2 (i, v) (gx_mem.mpr hv)
def gx_ok (L : List (Option Value)) (i : Nat) : Bool := match i with
  | 0 => true
  | j + 1 => match L[j]? with
    | some (some w) => w.category == 1
    | _ => true
theorem gx_Ls.store {ls : Array Slot} {nL : Nat} {L : List (Option Value)} {i : Nat} {v : Value} (hlen : L.length ≤ nL) (hi : gx_ok L i = true) (h : lv_has ls nL ((i, v) :: (gx_as L).filter (fun q => !(q.1 == i) && !(q.1 + 1 == i && q.2.category == 2)))) : gx_Ls ls nL (L.set i (some v)) := by
  refine ⟨⟨h.1, h.2.1, fun q hq => ?_⟩, by rw [List.length_set]; exact hlen⟩
  obtain ⟨j, w⟩ := q
  rw [gx_mem] at hq
  refine h.2.2 (j, w) ?_
  by_cases hj : i = j
  · subst hj
    by_cases hl : i < L.length
    · rw [List.getElem?_set_self hl] at hq
      cases hq
      exact List.mem_cons_self
    · rw [List.getElem?_eq_none (by rw [List.length_set]; omega)] at hq
      cases hq
  · rw [List.getElem?_set_ne hj] at hq
    refine List.mem_cons_of_mem _ (List.mem_filter.mpr ⟨gx_mem.mpr hq, ?_⟩)
    have h1 : (j == i) = false := by simp; omega
    by_cases h2 : j + 1 = i
    · subst h2
      simp only [gx_ok, hq] at hi
      have h3 : w.category = 1 := by simpa using hi
      simp [h3]
    · simp [h2]; omega
/-- a method's own facts -/
def gx_Cx (M : gx_M) (Z : gx_Z) (p : Program) (s : State) (m : MethodId) (args : Array Value) (meth : Method) (c : Code) : Prop :=
  p.tables.exec = Jvm.exec ∧ c.code = M.2.2.1 ∧ c.maxLocals = M.2.2.2.1 ∧ s.vm.findClass M.1 = some m.cls ∧ (∀ w ∈ gx_Ts, w.before args s = true) ∧ (M.2.1.name = "<init>" → meth.name = "<init>") ∧ gx_Kn Z s
/-- the instruction at pc gives back r -/
def gx_ri (cc : ByteArray) (pc : Nat) (r : Option Value) : Prop := match r with
  | none => decode cc pc = .ok (.return_, 1)
  | some (.int _) => decode cc pc = .ok (.ireturn, 1)
  | some (.long _) => decode cc pc = .ok (.lreturn, 1)
  | some (.ref _) => decode cc pc = .ok (.areturn, 1)
  | some .null => decode cc pc = .ok (.areturn, 1)
  | _ => False
def gx_J (M : gx_M) (d : Nat) (r : Option Value) (h' : gx_H) (Z : gx_Z) (S : gx_S) (p : Program) (l : Launch) (e : Env) (R : Room) (s : State) (m : MethodId) (args : Array Value) (below : List Frame) (meth : Method) (c : Code) (Q : State → Prop) (k1 k2 : Nat) : Prop :=
  gx_Cx M Z p s m args meth c ∧ d ≤ R.frames ∧ 34 * d ≤ R.locals ∧ h'.1 - k1 ≤ R.cells ∧ h'.2.1 - k2 ≤ R.slots ∧
  ∀ (H' : Heap) (locs' : List Loc) (ls' : Array Slot) (pc' : Nat), gx_Rel Z S h' s H' → (∀ q ∈ locs', S.1 ≤ q.base) → gx_ri M.2.2.1 pc' r → W p l e R s m args below meth c H' locs' (h'.1 - k1) (h'.2.1 - k2) Q (F0 m pc' ls' r.toList)
/-- from pc with locals L, stack st, heap h the method comes to a return of r with heap h' -/
def gx_Evd (S : gx_S) (M : gx_M) (d pc : Nat) (L : List (Option Value)) (st : List Value) (h : gx_H) (r : Option Value) (h' : gx_H) : Prop :=
  (h.1 ≤ h'.1 ∧ h.2.1 ≤ h'.2.1) ∧ ∀ (Z : gx_Z) (p : Program) (l : Launch) (e : Env) (R : Room) (s : State) (m : MethodId) (args : Array Value) (below : List Frame) (meth : Method) (c : Code) (Q : State → Prop) (k1 k2 : Nat) (H : Heap) (locs : List Loc) (ls : Array Slot),
    gx_J M d r h' Z S p l e R s m args below meth c Q k1 k2 → (k1 ≤ h.1 ∧ k2 ≤ h.2.1) → gx_Rel Z S h s H → (∀ q ∈ locs, S.1 ≤ q.base) → gx_Ls ls M.2.2.2.1 L →
    W p l e R s m args below meth c H locs (h.1 - k1) (h.2.1 - k2) Q (F0 m pc ls st)
def gx_Ev (S : gx_S) (M : gx_M) (d pc : Nat) (L : List (Option Value)) (st : List Value) (h : gx_H) (Q : Option Value → gx_H → Prop) : Prop := ∃ (r : Option Value) (h' : gx_H), Q r h' ∧ gx_Evd S M d pc L st h r h'
theorem gx_Ev.mono {S : gx_S} {M : gx_M} {d pc : Nat} {L : List (Option Value)} {st : List Value} {h : gx_H} {Q Q' : Option Value → gx_H → Prop} (k : gx_Ev S M d pc L st h Q) (hq : ∀ r h', Q r h' → Q' r h') : gx_Ev S M d pc L st h Q' := by
  obtain ⟨r, h', h1, h2⟩ := k
  exact ⟨r, h', hq r h' h1, h2⟩
/-- a step that leaves the heap -/
theorem gx_step {S : gx_S} {M : gx_M} {d pc pc' : Nat} {L L' : List (Option Value)} {st st' : List Value} {h : gx_H} {Q : Option Value → gx_H → Prop}
    (hs : ∀ (p : Program) (l : Launch) (e : Env) (R : Room) (s : State) (m : MethodId) (args : Array Value) (below : List Frame) (meth : Method) (c : Code) (Qw : State → Prop) (cells slots : Nat) (H : Heap) (locs : List Loc) (ls : Array Slot) (Z : gx_Z), gx_Cx M Z p s m args meth c → gx_Ls ls M.2.2.2.1 L →
      (∀ ls' : Array Slot, gx_Ls ls' M.2.2.2.1 L' → W p l e R s m args below meth c H locs cells slots Qw (F0 m pc' ls' st')) → W p l e R s m args below meth c H locs cells slots Qw (F0 m pc ls st))
    (k : gx_Ev S M d pc' L' st' h Q) : gx_Ev S M d pc L st h Q := by
  obtain ⟨r, h', hq, hm, hk⟩ := k
  exact ⟨r, h', hq, hm, fun Z p l e R s m args below meth c Qw k1 k2 H locs ls J a1 a2 a3 a4 => hs p l e R s m args below meth c Qw _ _ H locs ls Z J.1 a4 (fun ls' hl' => hk Z p l e R s m args below meth c Qw k1 k2 H locs ls' J a1 a2 a3 hl')⟩
end
section
/-! one row an instruction -/
theorem gx_Ls.store2 {ls : Array Slot} {nL : Nat} {L : List (Option Value)} {i : Nat} {v : Value} (hlen : L.length ≤ nL) (hi : gx_ok L i = true) (h : lv_has ls nL ((i, v) :: (gx_as L).filter (fun q => !(q.1 == i) && (!(q.1 == i + 1) && !(q.1 + 1 == i && q.2.category == 2))))) : gx_Ls ls nL ((L.set i (some v)).set (i + 1) none) := by
  refine ⟨⟨h.1, h.2.1, fun q hq => ?_⟩, by rw [List.length_set, List.length_set]; exact hlen⟩
  obtain ⟨j, w⟩ := q
  rw [gx_mem] at hq
  refine h.2.2 (j, w) ?_
  have h5 : i + 1 ≠ j := by
    intro hj
    subst hj
    by_cases hl : i + 1 < L.length
    · rw [List.getElem?_set_self (by rw [List.length_set]; exact hl)] at hq
      cases hq
    · rw [List.getElem?_eq_none (by rw [List.length_set, List.length_set]; omega)] at hq
      cases hq
  rw [List.getElem?_set_ne h5] at hq
  by_cases hj : i = j
  · subst hj
    by_cases hl : i < L.length
    · rw [List.getElem?_set_self hl] at hq
      cases hq
      exact List.mem_cons_self
    · rw [List.getElem?_eq_none (by rw [List.length_set]; omega)] at hq
      cases hq
  · rw [List.getElem?_set_ne hj] at hq
    refine List.mem_cons_of_mem _ (List.mem_filter.mpr ⟨gx_mem.mpr hq, ?_⟩)
    by_cases h2 : j + 1 = i
    · subst h2
      simp only [gx_ok, hq] at hi
      have h3 : w.category = 1 := by simpa using hi
      simp [h3]; omega
    · simp [h2]; omega
theorem gx_iconst {S : gx_S} {M : gx_M} {d pc : Nat} {L : List (Option Value)} {st : List Value} {h : gx_H} {Q : Option Value → gx_H → Prop} {n : Int} {v : Int32} (hd : decode M.2.2.1 pc = .ok (.iconst n, 1)) (hv : Int32.ofInt n = v) (k : gx_Ev S M d (pc + 1) L (.int v :: st) h Q) : gx_Ev S M d pc L (st) h Q :=
  gx_step (fun p l e R s m args below meth c Qw cells slots H locs ls Z J hl kk => lv_iconst J.1 J.2.1 hd hv (kk ls hl)) k
theorem gx_bipush {S : gx_S} {M : gx_M} {d pc : Nat} {L : List (Option Value)} {st : List Value} {h : gx_H} {Q : Option Value → gx_H → Prop} {n : Int} {v : Int32} (hd : decode M.2.2.1 pc = .ok (.bipush n, 2)) (hv : (Int8.ofInt n).toInt32 = v) (k : gx_Ev S M d (pc + 2) L (.int v :: st) h Q) : gx_Ev S M d pc L (st) h Q :=
  gx_step (fun p l e R s m args below meth c Qw cells slots H locs ls Z J hl kk => lv_bipush J.1 J.2.1 hd hv (kk ls hl)) k
theorem gx_sipush {S : gx_S} {M : gx_M} {d pc : Nat} {L : List (Option Value)} {st : List Value} {h : gx_H} {Q : Option Value → gx_H → Prop} {n : Int} {v : Int32} (hd : decode M.2.2.1 pc = .ok (.sipush n, 3)) (hv : (Int16.ofInt n).toInt32 = v) (k : gx_Ev S M d (pc + 3) L (.int v :: st) h Q) : gx_Ev S M d pc L (st) h Q :=
  gx_step (fun p l e R s m args below meth c Qw cells slots H locs ls Z J hl kk => lv_sipush J.1 J.2.1 hd hv (kk ls hl)) k
theorem gx_lconst {S : gx_S} {M : gx_M} {d pc : Nat} {L : List (Option Value)} {st : List Value} {h : gx_H} {Q : Option Value → gx_H → Prop} {n : Fin 2} {v : Int64} (hd : decode M.2.2.1 pc = .ok (.lconst n, 1)) (hv : Int64.ofNat (n : Nat) = v) (k : gx_Ev S M d (pc + 1) L (.long v :: st) h Q) : gx_Ev S M d pc L (st) h Q :=
  gx_step (fun p l e R s m args below meth c Qw cells slots H locs ls Z J hl kk => lv_lconst J.1 J.2.1 hd hv (kk ls hl)) k
theorem gx_null {S : gx_S} {M : gx_M} {d pc : Nat} {L : List (Option Value)} {st : List Value} {h : gx_H} {Q : Option Value → gx_H → Prop}  (hd : decode M.2.2.1 pc = .ok (.aconst_null, 1))  (k : gx_Ev S M d (pc + 1) L (.null :: st) h Q) : gx_Ev S M d pc L (st) h Q :=
  gx_step (fun p l e R s m args below meth c Qw cells slots H locs ls Z J hl kk => lv_null J.1 J.2.1 hd  (kk ls hl)) k
theorem gx_iload_n {S : gx_S} {M : gx_M} {d pc : Nat} {L : List (Option Value)} {st : List Value} {h : gx_H} {Q : Option Value → gx_H → Prop} {n : Fin 4} {x : Int32} (hd : decode M.2.2.1 pc = .ok (.iload_n n, 1)) (hv : L[(n : Nat)]? = some (some (.int x))) (k : gx_Ev S M d (pc + 1) L (.int x :: st) h Q) : gx_Ev S M d pc L st h Q :=
  gx_step (fun p l e R s m args below meth c Qw cells slots H locs ls Z J hl kk => lv_iload_n J.1 J.2.1 hd rfl (hl.at hv) (kk ls hl)) k
theorem gx_iload {S : gx_S} {M : gx_M} {d pc : Nat} {L : List (Option Value)} {st : List Value} {h : gx_H} {Q : Option Value → gx_H → Prop} {n : Nat} {x : Int32} (hd : decode M.2.2.1 pc = .ok (.iload n, 2)) (hv : L[n]? = some (some (.int x))) (k : gx_Ev S M d (pc + 2) L (.int x :: st) h Q) : gx_Ev S M d pc L st h Q :=
  gx_step (fun p l e R s m args below meth c Qw cells slots H locs ls Z J hl kk => lv_iload J.1 J.2.1 hd (hl.at hv) (kk ls hl)) k
theorem gx_aload_n {S : gx_S} {M : gx_M} {d pc : Nat} {L : List (Option Value)} {st : List Value} {h : gx_H} {Q : Option Value → gx_H → Prop} {n : Fin 4} {x : Nat} (hd : decode M.2.2.1 pc = .ok (.aload_n n, 1)) (hv : L[(n : Nat)]? = some (some (.ref x))) (k : gx_Ev S M d (pc + 1) L (.ref x :: st) h Q) : gx_Ev S M d pc L st h Q :=
  gx_step (fun p l e R s m args below meth c Qw cells slots H locs ls Z J hl kk => lv_aload_n J.1 J.2.1 hd rfl (hl.at hv) (kk ls hl)) k
theorem gx_aload {S : gx_S} {M : gx_M} {d pc : Nat} {L : List (Option Value)} {st : List Value} {h : gx_H} {Q : Option Value → gx_H → Prop} {n : Nat} {x : Nat} (hd : decode M.2.2.1 pc = .ok (.aload n, 2)) (hv : L[n]? = some (some (.ref x))) (k : gx_Ev S M d (pc + 2) L (.ref x :: st) h Q) : gx_Ev S M d pc L st h Q :=
  gx_step (fun p l e R s m args below meth c Qw cells slots H locs ls Z J hl kk => lv_aload J.1 J.2.1 hd (hl.at hv) (kk ls hl)) k
theorem gx_lload_n {S : gx_S} {M : gx_M} {d pc : Nat} {L : List (Option Value)} {st : List Value} {h : gx_H} {Q : Option Value → gx_H → Prop} {n : Fin 4} {x : Int64} (hd : decode M.2.2.1 pc = .ok (.lload_n n, 1)) (hv : L[(n : Nat)]? = some (some (.long x))) (k : gx_Ev S M d (pc + 1) L (.long x :: st) h Q) : gx_Ev S M d pc L st h Q :=
  gx_step (fun p l e R s m args below meth c Qw cells slots H locs ls Z J hl kk => lv_lload_n J.1 J.2.1 hd rfl (hl.at hv) (kk ls hl)) k
theorem gx_lload {S : gx_S} {M : gx_M} {d pc : Nat} {L : List (Option Value)} {st : List Value} {h : gx_H} {Q : Option Value → gx_H → Prop} {n : Nat} {x : Int64} (hd : decode M.2.2.1 pc = .ok (.lload n, 2)) (hv : L[n]? = some (some (.long x))) (k : gx_Ev S M d (pc + 2) L (.long x :: st) h Q) : gx_Ev S M d pc L st h Q :=
  gx_step (fun p l e R s m args below meth c Qw cells slots H locs ls Z J hl kk => lv_lload J.1 J.2.1 hd (hl.at hv) (kk ls hl)) k
theorem gx_aload_nN {S : gx_S} {M : gx_M} {d pc : Nat} {L : List (Option Value)} {st : List Value} {h : gx_H} {Q : Option Value → gx_H → Prop} {n : Fin 4} (hd : decode M.2.2.1 pc = .ok (.aload_n n, 1)) (hv : L[(n : Nat)]? = some (some .null)) (k : gx_Ev S M d (pc + 1) L (.null :: st) h Q) : gx_Ev S M d pc L st h Q :=
  gx_step (fun p l e R s m args below meth c Qw cells slots H locs ls Z J hl kk => lv_aload_nN J.1 J.2.1 hd rfl (hl.at hv) (kk ls hl)) k
theorem gx_aloadN {S : gx_S} {M : gx_M} {d pc : Nat} {L : List (Option Value)} {st : List Value} {h : gx_H} {Q : Option Value → gx_H → Prop} {n : Nat} (hd : decode M.2.2.1 pc = .ok (.aload n, 2)) (hv : L[n]? = some (some .null)) (k : gx_Ev S M d (pc + 2) L (.null :: st) h Q) : gx_Ev S M d pc L st h Q :=
  gx_step (fun p l e R s m args below meth c Qw cells slots H locs ls Z J hl kk => lv_aloadN J.1 J.2.1 hd (hl.at hv) (kk ls hl)) k
theorem gx_istore_n {S : gx_S} {M : gx_M} {d pc : Nat} {L : List (Option Value)} {st : List Value} {h : gx_H} {Q : Option Value → gx_H → Prop} {L' : List (Option Value)} {n : Fin 4} {x : Int32} (hd : decode M.2.2.1 pc = .ok (.istore_n n, 1)) (hn : (n : Nat) < M.2.2.2.1) (ho : gx_ok L n = true) (hs : L.set n (some (.int x)) = L') (k : gx_Ev S M d (pc + 1) L' st h Q) : gx_Ev S M d pc L (.int x :: st) h Q :=
  gx_step (fun p l e R s m args below meth c Qw cells slots H locs ls Z J hl kk => lv_istore_n J.1 J.2.1 hd rfl hl.1 hn rfl (fun ls' h9 => kk ls' (hs ▸ gx_Ls.store hl.2 ho h9))) k
theorem gx_istore {S : gx_S} {M : gx_M} {d pc : Nat} {L : List (Option Value)} {st : List Value} {h : gx_H} {Q : Option Value → gx_H → Prop} {L' : List (Option Value)} {n : Nat} {x : Int32} (hd : decode M.2.2.1 pc = .ok (.istore n, 2)) (hn : n < M.2.2.2.1) (ho : gx_ok L n = true) (hs : L.set n (some (.int x)) = L') (k : gx_Ev S M d (pc + 2) L' st h Q) : gx_Ev S M d pc L (.int x :: st) h Q :=
  gx_step (fun p l e R s m args below meth c Qw cells slots H locs ls Z J hl kk => lv_istore J.1 J.2.1 hd hl.1 hn rfl (fun ls' h9 => kk ls' (hs ▸ gx_Ls.store hl.2 ho h9))) k
theorem gx_astore_n {S : gx_S} {M : gx_M} {d pc : Nat} {L : List (Option Value)} {st : List Value} {h : gx_H} {Q : Option Value → gx_H → Prop} {L' : List (Option Value)} {n : Fin 4} {x : Nat} (hd : decode M.2.2.1 pc = .ok (.astore_n n, 1)) (hn : (n : Nat) < M.2.2.2.1) (ho : gx_ok L n = true) (hs : L.set n (some (.ref x)) = L') (k : gx_Ev S M d (pc + 1) L' st h Q) : gx_Ev S M d pc L (.ref x :: st) h Q :=
  gx_step (fun p l e R s m args below meth c Qw cells slots H locs ls Z J hl kk => lv_astore_n J.1 J.2.1 hd rfl hl.1 hn rfl (fun ls' h9 => kk ls' (hs ▸ gx_Ls.store hl.2 ho h9))) k
theorem gx_astore {S : gx_S} {M : gx_M} {d pc : Nat} {L : List (Option Value)} {st : List Value} {h : gx_H} {Q : Option Value → gx_H → Prop} {L' : List (Option Value)} {n : Nat} {x : Nat} (hd : decode M.2.2.1 pc = .ok (.astore n, 2)) (hn : n < M.2.2.2.1) (ho : gx_ok L n = true) (hs : L.set n (some (.ref x)) = L') (k : gx_Ev S M d (pc + 2) L' st h Q) : gx_Ev S M d pc L (.ref x :: st) h Q :=
  gx_step (fun p l e R s m args below meth c Qw cells slots H locs ls Z J hl kk => lv_astore J.1 J.2.1 hd hl.1 hn rfl (fun ls' h9 => kk ls' (hs ▸ gx_Ls.store hl.2 ho h9))) k
theorem gx_astore_nN {S : gx_S} {M : gx_M} {d pc : Nat} {L : List (Option Value)} {st : List Value} {h : gx_H} {Q : Option Value → gx_H → Prop} {L' : List (Option Value)} {n : Fin 4}  (hd : decode M.2.2.1 pc = .ok (.astore_n n, 1)) (hn : (n : Nat) < M.2.2.2.1) (ho : gx_ok L n = true) (hs : L.set n (some (.null)) = L') (k : gx_Ev S M d (pc + 1) L' st h Q) : gx_Ev S M d pc L (.null :: st) h Q :=
  gx_step (fun p l e R s m args below meth c Qw cells slots H locs ls Z J hl kk => lv_astore_nN J.1 J.2.1 hd rfl hl.1 hn rfl (fun ls' h9 => kk ls' (hs ▸ gx_Ls.store hl.2 ho h9))) k
theorem gx_astoreN {S : gx_S} {M : gx_M} {d pc : Nat} {L : List (Option Value)} {st : List Value} {h : gx_H} {Q : Option Value → gx_H → Prop} {L' : List (Option Value)} {n : Nat}  (hd : decode M.2.2.1 pc = .ok (.astore n, 2)) (hn : n < M.2.2.2.1) (ho : gx_ok L n = true) (hs : L.set n (some (.null)) = L') (k : gx_Ev S M d (pc + 2) L' st h Q) : gx_Ev S M d pc L (.null :: st) h Q :=
  gx_step (fun p l e R s m args below meth c Qw cells slots H locs ls Z J hl kk => lv_astoreN J.1 J.2.1 hd hl.1 hn rfl (fun ls' h9 => kk ls' (hs ▸ gx_Ls.store hl.2 ho h9))) k
theorem gx_lstore_n {S : gx_S} {M : gx_M} {d pc : Nat} {L : List (Option Value)} {st : List Value} {h : gx_H} {Q : Option Value → gx_H → Prop} {L' : List (Option Value)} {n : Fin 4} {x : Int64} (hd : decode M.2.2.1 pc = .ok (.lstore_n n, 1)) (hn : (n : Nat) + 1 < M.2.2.2.1) (ho : gx_ok L n = true) (hs : (L.set n (some (.long x))).set ((n : Nat) + 1) none = L') (k : gx_Ev S M d (pc + 1) L' st h Q) : gx_Ev S M d pc L (.long x :: st) h Q :=
  gx_step (fun p l e R s m args below meth c Qw cells slots H locs ls Z J hl kk => lv_lstore_n J.1 J.2.1 hd rfl hl.1 hn rfl (fun ls' h9 => kk ls' (hs ▸ gx_Ls.store2 hl.2 ho h9))) k
theorem gx_iinc {S : gx_S} {M : gx_M} {d pc : Nat} {L : List (Option Value)} {st : List Value} {h : gx_H} {Q : Option Value → gx_H → Prop} {L' : List (Option Value)} {i : Nat} {n : Int} {x v : Int32} (hd : decode M.2.2.1 pc = .ok (.iinc i n, 3)) (hx : L[i]? = some (some (.int x))) (hv : x + Int32.ofInt n = v) (hn : i < M.2.2.2.1) (ho : gx_ok L i = true) (hs : L.set i (some (.int v)) = L') (k : gx_Ev S M d (pc + 3) L' st h Q) : gx_Ev S M d pc L st h Q :=
  gx_step (fun p l e R s m args below meth c Qw cells slots H locs ls Z J hl kk => by
    obtain ⟨j, hj⟩ := List.getElem?_of_mem (gx_mem.mpr hx)
    exact lv_iinc J.1 J.2.1 hd hl.1 hj hv hn rfl (fun ls' h9 => kk ls' (hs ▸ gx_Ls.store hl.2 ho h9))) k
theorem gx_iadd {S : gx_S} {M : gx_M} {d pc : Nat} {L : List (Option Value)} {st : List Value} {h : gx_H} {Q : Option Value → gx_H → Prop} {x y : Int32} (hd : decode M.2.2.1 pc = .ok (.iadd, 1))  (k : gx_Ev S M d (pc + 1) L (.int (x + y) :: st) h Q) : gx_Ev S M d pc L (.int y :: .int x :: st) h Q :=
  gx_step (fun p l e R s m args below meth c Qw cells slots H locs ls Z J hl kk => lv_iadd J.1 J.2.1 hd  (kk ls hl)) k
theorem gx_isub {S : gx_S} {M : gx_M} {d pc : Nat} {L : List (Option Value)} {st : List Value} {h : gx_H} {Q : Option Value → gx_H → Prop} {x y : Int32} (hd : decode M.2.2.1 pc = .ok (.isub, 1))  (k : gx_Ev S M d (pc + 1) L (.int (x - y) :: st) h Q) : gx_Ev S M d pc L (.int y :: .int x :: st) h Q :=
  gx_step (fun p l e R s m args below meth c Qw cells slots H locs ls Z J hl kk => lv_isub J.1 J.2.1 hd  (kk ls hl)) k
theorem gx_imul {S : gx_S} {M : gx_M} {d pc : Nat} {L : List (Option Value)} {st : List Value} {h : gx_H} {Q : Option Value → gx_H → Prop} {x y : Int32} (hd : decode M.2.2.1 pc = .ok (.imul, 1))  (k : gx_Ev S M d (pc + 1) L (.int (x * y) :: st) h Q) : gx_Ev S M d pc L (.int y :: .int x :: st) h Q :=
  gx_step (fun p l e R s m args below meth c Qw cells slots H locs ls Z J hl kk => lv_imul J.1 J.2.1 hd  (kk ls hl)) k
theorem gx_iand {S : gx_S} {M : gx_M} {d pc : Nat} {L : List (Option Value)} {st : List Value} {h : gx_H} {Q : Option Value → gx_H → Prop} {x y : Int32} (hd : decode M.2.2.1 pc = .ok (.iand, 1))  (k : gx_Ev S M d (pc + 1) L (.int (x &&& y) :: st) h Q) : gx_Ev S M d pc L (.int y :: .int x :: st) h Q :=
  gx_step (fun p l e R s m args below meth c Qw cells slots H locs ls Z J hl kk => lv_iand J.1 J.2.1 hd  (kk ls hl)) k
theorem gx_irem {S : gx_S} {M : gx_M} {d pc : Nat} {L : List (Option Value)} {st : List Value} {h : gx_H} {Q : Option Value → gx_H → Prop} {x y : Int32} (hd : decode M.2.2.1 pc = .ok (.irem, 1)) (hne : ¬ y = 0) (k : gx_Ev S M d (pc + 1) L (.int (x - x / y * y) :: st) h Q) : gx_Ev S M d pc L (.int y :: .int x :: st) h Q :=
  gx_step (fun p l e R s m args below meth c Qw cells slots H locs ls Z J hl kk => lv_irem J.1 J.2.1 hd hne (kk ls hl)) k
theorem gx_lor {S : gx_S} {M : gx_M} {d pc : Nat} {L : List (Option Value)} {st : List Value} {h : gx_H} {Q : Option Value → gx_H → Prop} {x y : Int64} (hd : decode M.2.2.1 pc = .ok (.lor, 1))  (k : gx_Ev S M d (pc + 1) L (.long (x ||| y) :: st) h Q) : gx_Ev S M d pc L (.long y :: .long x :: st) h Q :=
  gx_step (fun p l e R s m args below meth c Qw cells slots H locs ls Z J hl kk => lv_lor J.1 J.2.1 hd  (kk ls hl)) k
theorem gx_land {S : gx_S} {M : gx_M} {d pc : Nat} {L : List (Option Value)} {st : List Value} {h : gx_H} {Q : Option Value → gx_H → Prop} {x y : Int64} (hd : decode M.2.2.1 pc = .ok (.land, 1))  (k : gx_Ev S M d (pc + 1) L (.long (x &&& y) :: st) h Q) : gx_Ev S M d pc L (.long y :: .long x :: st) h Q :=
  gx_step (fun p l e R s m args below meth c Qw cells slots H locs ls Z J hl kk => lv_land J.1 J.2.1 hd  (kk ls hl)) k
theorem gx_lshl {S : gx_S} {M : gx_M} {d pc : Nat} {L : List (Option Value)} {st : List Value} {h : gx_H} {Q : Option Value → gx_H → Prop} {x v : Int64} {y : Int32} (hd : decode M.2.2.1 pc = .ok (.lshl, 1)) (hv : x <<< (y.toInt64 &&& 63) = v) (k : gx_Ev S M d (pc + 1) L (.long v :: st) h Q) : gx_Ev S M d pc L (.int y :: .long x :: st) h Q :=
  gx_step (fun p l e R s m args below meth c Qw cells slots H locs ls Z J hl kk => lv_lshl J.1 J.2.1 hd hv (kk ls hl)) k
theorem gx_lshr {S : gx_S} {M : gx_M} {d pc : Nat} {L : List (Option Value)} {st : List Value} {h : gx_H} {Q : Option Value → gx_H → Prop} {x v : Int64} {y : Int32} (hd : decode M.2.2.1 pc = .ok (.lshr, 1)) (hv : x >>> (y.toInt64 &&& 63) = v) (k : gx_Ev S M d (pc + 1) L (.long v :: st) h Q) : gx_Ev S M d pc L (.int y :: .long x :: st) h Q :=
  gx_step (fun p l e R s m args below meth c Qw cells slots H locs ls Z J hl kk => lv_lshr J.1 J.2.1 hd hv (kk ls hl)) k
theorem gx_lcmp {S : gx_S} {M : gx_M} {d pc : Nat} {L : List (Option Value)} {st : List Value} {h : gx_H} {Q : Option Value → gx_H → Prop} {x y : Int64} (hd : decode M.2.2.1 pc = .ok (.lcmp, 1))  (k : gx_Ev S M d (pc + 1) L (.int (lg_cmp x y) :: st) h Q) : gx_Ev S M d pc L (.long y :: .long x :: st) h Q :=
  gx_step (fun p l e R s m args below meth c Qw cells slots H locs ls Z J hl kk => W.lcmp J.1 J.2.1 hd  (kk ls hl)) k
theorem gx_dup {S : gx_S} {M : gx_M} {d pc : Nat} {L : List (Option Value)} {st : List Value} {h : gx_H} {Q : Option Value → gx_H → Prop} {va : Value} (hd : decode M.2.2.1 pc = .ok (.dup, 1)) (hc : va.category = 1) (k : gx_Ev S M d (pc + 1) L (va :: va :: st) h Q) : gx_Ev S M d pc L (va :: st) h Q :=
  gx_step (fun p l e R s m args below meth c Qw cells slots H locs ls Z J hl kk => lv_dup J.1 J.2.1 hd hc (kk ls hl)) k
theorem gx_dup2 {S : gx_S} {M : gx_M} {d pc : Nat} {L : List (Option Value)} {st : List Value} {h : gx_H} {Q : Option Value → gx_H → Prop} {va vb : Value} (hd : decode M.2.2.1 pc = .ok (.dup2, 1)) (hc : va.category = 1) (hc2 : vb.category = 1) (k : gx_Ev S M d (pc + 1) L (va :: vb :: va :: vb :: st) h Q) : gx_Ev S M d pc L (va :: vb :: st) h Q :=
  gx_step (fun p l e R s m args below meth c Qw cells slots H locs ls Z J hl kk => lv_dup2_11 J.1 J.2.1 hd hc hc2 (kk ls hl)) k
theorem gx_goto {S : gx_S} {M : gx_M} {d pc : Nat} {L : List (Option Value)} {st : List Value} {h : gx_H} {Q : Option Value → gx_H → Prop} {off : Int} {tgt : Nat} (hd : decode M.2.2.1 pc = .ok (.goto off, 3)) (ht : (pc : Int) + off = (tgt : Int)) (k : gx_Ev S M d tgt L st h Q) : gx_Ev S M d pc L st h Q :=
  gx_step (fun p l e R s m args below meth c Qw cells slots H locs ls Z J hl kk => lv_goto J.1 J.2.1 hd ht (kk ls hl)) k
theorem gx_if_eq {S : gx_S} {M : gx_M} {d pc : Nat} {L : List (Option Value)} {st : List Value} {h : gx_H} {Q : Option Value → gx_H → Prop} {x : Int32} {off : Int} {tgt : Nat} (hd : decode M.2.2.1 pc = .ok (.ifCond .eq off, 3)) (ht : (pc : Int) + off = (tgt : Int)) (kt : x = 0 → gx_Ev S M d tgt L st h Q) (kf : ¬ (x = 0) → gx_Ev S M d (pc + 3) L st h Q) : gx_Ev S M d pc L (.int x :: st) h Q := by
  by_cases hc : x = 0
  · exact gx_step (fun p l e R s m args below meth c Qw cells slots H locs ls Z J hl kk => lv_if_eq J.1 J.2.1 hd ht (fun _ => kk ls hl) (fun h9 => absurd hc h9)) (kt hc)
  · exact gx_step (fun p l e R s m args below meth c Qw cells slots H locs ls Z J hl kk => lv_if_eq J.1 J.2.1 hd ht (fun h9 => absurd h9 hc) (fun _ => kk ls hl)) (kf hc)
theorem gx_icmp_eq {S : gx_S} {M : gx_M} {d pc : Nat} {L : List (Option Value)} {st : List Value} {h : gx_H} {Q : Option Value → gx_H → Prop} {x y : Int32} {off : Int} {tgt : Nat} (hd : decode M.2.2.1 pc = .ok (.if_icmp .eq off, 3)) (ht : (pc : Int) + off = (tgt : Int)) (kt : x = y → gx_Ev S M d tgt L st h Q) (kf : ¬ (x = y) → gx_Ev S M d (pc + 3) L st h Q) : gx_Ev S M d pc L (.int y :: .int x :: st) h Q := by
  by_cases hc : x = y
  · exact gx_step (fun p l e R s m args below meth c Qw cells slots H locs ls Z J hl kk => lv_icmp_eq J.1 J.2.1 hd ht (fun _ => kk ls hl) (fun h9 => absurd hc h9)) (kt hc)
  · exact gx_step (fun p l e R s m args below meth c Qw cells slots H locs ls Z J hl kk => lv_icmp_eq J.1 J.2.1 hd ht (fun h9 => absurd h9 hc) (fun _ => kk ls hl)) (kf hc)
theorem gx_if_ne {S : gx_S} {M : gx_M} {d pc : Nat} {L : List (Option Value)} {st : List Value} {h : gx_H} {Q : Option Value → gx_H → Prop} {x : Int32} {off : Int} {tgt : Nat} (hd : decode M.2.2.1 pc = .ok (.ifCond .ne off, 3)) (ht : (pc : Int) + off = (tgt : Int)) (kt : ¬ x = 0 → gx_Ev S M d tgt L st h Q) (kf : x = 0 → gx_Ev S M d (pc + 3) L st h Q) : gx_Ev S M d pc L (.int x :: st) h Q := by
  by_cases hc : x = 0
  · exact gx_step (fun p l e R s m args below meth c Qw cells slots H locs ls Z J hl kk => lv_if_ne J.1 J.2.1 hd ht (fun h9 => absurd hc h9) (fun _ => kk ls hl)) (kf hc)
  · exact gx_step (fun p l e R s m args below meth c Qw cells slots H locs ls Z J hl kk => lv_if_ne J.1 J.2.1 hd ht (fun _ => kk ls hl) (fun h9 => absurd h9 hc)) (kt hc)
theorem gx_icmp_ne {S : gx_S} {M : gx_M} {d pc : Nat} {L : List (Option Value)} {st : List Value} {h : gx_H} {Q : Option Value → gx_H → Prop} {x y : Int32} {off : Int} {tgt : Nat} (hd : decode M.2.2.1 pc = .ok (.if_icmp .ne off, 3)) (ht : (pc : Int) + off = (tgt : Int)) (kt : ¬ x = y → gx_Ev S M d tgt L st h Q) (kf : x = y → gx_Ev S M d (pc + 3) L st h Q) : gx_Ev S M d pc L (.int y :: .int x :: st) h Q := by
  by_cases hc : x = y
  · exact gx_step (fun p l e R s m args below meth c Qw cells slots H locs ls Z J hl kk => lv_icmp_ne J.1 J.2.1 hd ht (fun h9 => absurd hc h9) (fun _ => kk ls hl)) (kf hc)
  · exact gx_step (fun p l e R s m args below meth c Qw cells slots H locs ls Z J hl kk => lv_icmp_ne J.1 J.2.1 hd ht (fun _ => kk ls hl) (fun h9 => absurd h9 hc)) (kt hc)
theorem gx_if_lt {S : gx_S} {M : gx_M} {d pc : Nat} {L : List (Option Value)} {st : List Value} {h : gx_H} {Q : Option Value → gx_H → Prop} {x : Int32} {off : Int} {tgt : Nat} (hd : decode M.2.2.1 pc = .ok (.ifCond .lt off, 3)) (ht : (pc : Int) + off = (tgt : Int)) (kt : x < 0 → gx_Ev S M d tgt L st h Q) (kf : ¬ (x < 0) → gx_Ev S M d (pc + 3) L st h Q) : gx_Ev S M d pc L (.int x :: st) h Q := by
  by_cases hc : x < 0
  · exact gx_step (fun p l e R s m args below meth c Qw cells slots H locs ls Z J hl kk => lv_if_lt J.1 J.2.1 hd ht (fun _ => kk ls hl) (fun h9 => absurd hc h9)) (kt hc)
  · exact gx_step (fun p l e R s m args below meth c Qw cells slots H locs ls Z J hl kk => lv_if_lt J.1 J.2.1 hd ht (fun h9 => absurd h9 hc) (fun _ => kk ls hl)) (kf hc)
theorem gx_icmp_lt {S : gx_S} {M : gx_M} {d pc : Nat} {L : List (Option Value)} {st : List Value} {h : gx_H} {Q : Option Value → gx_H → Prop} {x y : Int32} {off : Int} {tgt : Nat} (hd : decode M.2.2.1 pc = .ok (.if_icmp .lt off, 3)) (ht : (pc : Int) + off = (tgt : Int)) (kt : x < y → gx_Ev S M d tgt L st h Q) (kf : ¬ (x < y) → gx_Ev S M d (pc + 3) L st h Q) : gx_Ev S M d pc L (.int y :: .int x :: st) h Q := by
  by_cases hc : x < y
  · exact gx_step (fun p l e R s m args below meth c Qw cells slots H locs ls Z J hl kk => lv_icmp_lt J.1 J.2.1 hd ht (fun _ => kk ls hl) (fun h9 => absurd hc h9)) (kt hc)
  · exact gx_step (fun p l e R s m args below meth c Qw cells slots H locs ls Z J hl kk => lv_icmp_lt J.1 J.2.1 hd ht (fun h9 => absurd h9 hc) (fun _ => kk ls hl)) (kf hc)
theorem gx_if_ge {S : gx_S} {M : gx_M} {d pc : Nat} {L : List (Option Value)} {st : List Value} {h : gx_H} {Q : Option Value → gx_H → Prop} {x : Int32} {off : Int} {tgt : Nat} (hd : decode M.2.2.1 pc = .ok (.ifCond .ge off, 3)) (ht : (pc : Int) + off = (tgt : Int)) (kt : 0 ≤ x → gx_Ev S M d tgt L st h Q) (kf : ¬ (0 ≤ x) → gx_Ev S M d (pc + 3) L st h Q) : gx_Ev S M d pc L (.int x :: st) h Q := by
  by_cases hc : 0 ≤ x
  · exact gx_step (fun p l e R s m args below meth c Qw cells slots H locs ls Z J hl kk => lv_if_ge J.1 J.2.1 hd ht (fun _ => kk ls hl) (fun h9 => absurd hc h9)) (kt hc)
  · exact gx_step (fun p l e R s m args below meth c Qw cells slots H locs ls Z J hl kk => lv_if_ge J.1 J.2.1 hd ht (fun h9 => absurd h9 hc) (fun _ => kk ls hl)) (kf hc)
theorem gx_icmp_ge {S : gx_S} {M : gx_M} {d pc : Nat} {L : List (Option Value)} {st : List Value} {h : gx_H} {Q : Option Value → gx_H → Prop} {x y : Int32} {off : Int} {tgt : Nat} (hd : decode M.2.2.1 pc = .ok (.if_icmp .ge off, 3)) (ht : (pc : Int) + off = (tgt : Int)) (kt : y ≤ x → gx_Ev S M d tgt L st h Q) (kf : ¬ (y ≤ x) → gx_Ev S M d (pc + 3) L st h Q) : gx_Ev S M d pc L (.int y :: .int x :: st) h Q := by
  by_cases hc : y ≤ x
  · exact gx_step (fun p l e R s m args below meth c Qw cells slots H locs ls Z J hl kk => lv_icmp_ge J.1 J.2.1 hd ht (fun _ => kk ls hl) (fun h9 => absurd hc h9)) (kt hc)
  · exact gx_step (fun p l e R s m args below meth c Qw cells slots H locs ls Z J hl kk => lv_icmp_ge J.1 J.2.1 hd ht (fun h9 => absurd h9 hc) (fun _ => kk ls hl)) (kf hc)
theorem gx_if_gt {S : gx_S} {M : gx_M} {d pc : Nat} {L : List (Option Value)} {st : List Value} {h : gx_H} {Q : Option Value → gx_H → Prop} {x : Int32} {off : Int} {tgt : Nat} (hd : decode M.2.2.1 pc = .ok (.ifCond .gt off, 3)) (ht : (pc : Int) + off = (tgt : Int)) (kt : 0 < x → gx_Ev S M d tgt L st h Q) (kf : ¬ (0 < x) → gx_Ev S M d (pc + 3) L st h Q) : gx_Ev S M d pc L (.int x :: st) h Q := by
  by_cases hc : 0 < x
  · exact gx_step (fun p l e R s m args below meth c Qw cells slots H locs ls Z J hl kk => lv_if_gt J.1 J.2.1 hd ht (fun _ => kk ls hl) (fun h9 => absurd hc h9)) (kt hc)
  · exact gx_step (fun p l e R s m args below meth c Qw cells slots H locs ls Z J hl kk => lv_if_gt J.1 J.2.1 hd ht (fun h9 => absurd h9 hc) (fun _ => kk ls hl)) (kf hc)
theorem gx_icmp_gt {S : gx_S} {M : gx_M} {d pc : Nat} {L : List (Option Value)} {st : List Value} {h : gx_H} {Q : Option Value → gx_H → Prop} {x y : Int32} {off : Int} {tgt : Nat} (hd : decode M.2.2.1 pc = .ok (.if_icmp .gt off, 3)) (ht : (pc : Int) + off = (tgt : Int)) (kt : y < x → gx_Ev S M d tgt L st h Q) (kf : ¬ (y < x) → gx_Ev S M d (pc + 3) L st h Q) : gx_Ev S M d pc L (.int y :: .int x :: st) h Q := by
  by_cases hc : y < x
  · exact gx_step (fun p l e R s m args below meth c Qw cells slots H locs ls Z J hl kk => lv_icmp_gt J.1 J.2.1 hd ht (fun _ => kk ls hl) (fun h9 => absurd hc h9)) (kt hc)
  · exact gx_step (fun p l e R s m args below meth c Qw cells slots H locs ls Z J hl kk => lv_icmp_gt J.1 J.2.1 hd ht (fun h9 => absurd h9 hc) (fun _ => kk ls hl)) (kf hc)
theorem gx_if_le {S : gx_S} {M : gx_M} {d pc : Nat} {L : List (Option Value)} {st : List Value} {h : gx_H} {Q : Option Value → gx_H → Prop} {x : Int32} {off : Int} {tgt : Nat} (hd : decode M.2.2.1 pc = .ok (.ifCond .le off, 3)) (ht : (pc : Int) + off = (tgt : Int)) (kt : x ≤ 0 → gx_Ev S M d tgt L st h Q) (kf : ¬ (x ≤ 0) → gx_Ev S M d (pc + 3) L st h Q) : gx_Ev S M d pc L (.int x :: st) h Q := by
  by_cases hc : x ≤ 0
  · exact gx_step (fun p l e R s m args below meth c Qw cells slots H locs ls Z J hl kk => lv_if_le J.1 J.2.1 hd ht (fun _ => kk ls hl) (fun h9 => absurd hc h9)) (kt hc)
  · exact gx_step (fun p l e R s m args below meth c Qw cells slots H locs ls Z J hl kk => lv_if_le J.1 J.2.1 hd ht (fun h9 => absurd h9 hc) (fun _ => kk ls hl)) (kf hc)
theorem gx_icmp_le {S : gx_S} {M : gx_M} {d pc : Nat} {L : List (Option Value)} {st : List Value} {h : gx_H} {Q : Option Value → gx_H → Prop} {x y : Int32} {off : Int} {tgt : Nat} (hd : decode M.2.2.1 pc = .ok (.if_icmp .le off, 3)) (ht : (pc : Int) + off = (tgt : Int)) (kt : x ≤ y → gx_Ev S M d tgt L st h Q) (kf : ¬ (x ≤ y) → gx_Ev S M d (pc + 3) L st h Q) : gx_Ev S M d pc L (.int y :: .int x :: st) h Q := by
  by_cases hc : x ≤ y
  · exact gx_step (fun p l e R s m args below meth c Qw cells slots H locs ls Z J hl kk => lv_icmp_le J.1 J.2.1 hd ht (fun _ => kk ls hl) (fun h9 => absurd hc h9)) (kt hc)
  · exact gx_step (fun p l e R s m args below meth c Qw cells slots H locs ls Z J hl kk => lv_icmp_le J.1 J.2.1 hd ht (fun h9 => absurd h9 hc) (fun _ => kk ls hl)) (kf hc)
theorem gx_acmp_ne {S : gx_S} {M : gx_M} {d pc : Nat} {L : List (Option Value)} {st : List Value} {h : gx_H} {Q : Option Value → gx_H → Prop} {x y : Nat} {off : Int} {tgt : Nat} (hd : decode M.2.2.1 pc = .ok (.if_acmp .ne off, 3)) (ht : (pc : Int) + off = (tgt : Int)) (kt : ¬ x = y → gx_Ev S M d tgt L st h Q) (kf : x = y → gx_Ev S M d (pc + 3) L st h Q) : gx_Ev S M d pc L (.ref y :: .ref x :: st) h Q := by
  by_cases hc : x = y
  · exact gx_step (fun p l e R s m args below meth c Qw cells slots H locs ls Z J hl kk => lv_acmp_ne (rx := some x) (ry := some y) J.1 J.2.1 hd ht (fun h9 => absurd (by rw [hc]) h9) (fun _ => kk ls hl)) (kf hc)
  · exact gx_step (fun p l e R s m args below meth c Qw cells slots H locs ls Z J hl kk => lv_acmp_ne (rx := some x) (ry := some y) J.1 J.2.1 hd ht (fun _ => kk ls hl) (fun h9 => absurd (Option.some.inj h9) hc)) (kt hc)
theorem gx_ifnull {S : gx_S} {M : gx_M} {d pc : Nat} {L : List (Option Value)} {st : List Value} {h : gx_H} {Q : Option Value → gx_H → Prop} {x : Nat} {off : Int} (hd : decode M.2.2.1 pc = .ok (.ifnull off, 3)) (k : gx_Ev S M d (pc + 3) L st h Q) : gx_Ev S M d pc L (.ref x :: st) h Q :=
  gx_step (fun p l e R s m args below meth c Qw cells slots H locs ls Z J hl kk => lv_ifnull J.1 J.2.1 hd (kk ls hl)) k
theorem gx_ifnullN {S : gx_S} {M : gx_M} {d pc : Nat} {L : List (Option Value)} {st : List Value} {h : gx_H} {Q : Option Value → gx_H → Prop} {off : Int} {tgt : Nat} (hd : decode M.2.2.1 pc = .ok (.ifnull off, 3)) (ht : (pc : Int) + off = (tgt : Int)) (k : gx_Ev S M d tgt L st h Q) : gx_Ev S M d pc L (.null :: st) h Q :=
  gx_step (fun p l e R s m args below meth c Qw cells slots H locs ls Z J hl kk => lv_ifnullN J.1 J.2.1 hd ht (kk ls hl)) k
theorem gx_ifnonnull {S : gx_S} {M : gx_M} {d pc : Nat} {L : List (Option Value)} {st : List Value} {h : gx_H} {Q : Option Value → gx_H → Prop} {x : Nat} {off : Int} {tgt : Nat} (hd : decode M.2.2.1 pc = .ok (.ifnonnull off, 3)) (ht : (pc : Int) + off = (tgt : Int)) (k : gx_Ev S M d tgt L st h Q) : gx_Ev S M d pc L (.ref x :: st) h Q :=
  gx_step (fun p l e R s m args below meth c Qw cells slots H locs ls Z J hl kk => lv_ifnonnull J.1 J.2.1 hd ht (kk ls hl)) k
theorem gx_ifnonnullN {S : gx_S} {M : gx_M} {d pc : Nat} {L : List (Option Value)} {st : List Value} {h : gx_H} {Q : Option Value → gx_H → Prop} {off : Int} (hd : decode M.2.2.1 pc = .ok (.ifnonnull off, 3)) (k : gx_Ev S M d (pc + 3) L st h Q) : gx_Ev S M d pc L (.null :: st) h Q :=
  gx_step (fun p l e R s m args below meth c Qw cells slots H locs ls Z J hl kk => lv_ifnonnullN J.1 J.2.1 hd (kk ls hl)) k
theorem gx_tableIn {S : gx_S} {M : gx_M} {d pc : Nat} {L : List (Option Value)} {st : List Value} {h : gx_H} {Q : Option Value → gx_H → Prop} {dflt lo hi : Int} {offs : Array Int} {len : Nat} {x : Int32} {off : Int} {tgt : Nat} (hd : decode M.2.2.1 pc = .ok (.tableswitch dflt lo hi offs, len)) (h1 : ¬ x.toInt < lo) (h2 : ¬ hi < x.toInt) (h3 : offs[(x.toInt - lo).toNat]? = some off) (ht : (pc : Int) + off = (tgt : Int)) (k : gx_Ev S M d tgt L st h Q) : gx_Ev S M d pc L (.int x :: st) h Q :=
  gx_step (fun p l e R s m args below meth c Qw cells slots H locs ls Z J hl kk => lv_tableIn J.1 J.2.1 hd h1 h2 h3 ht (kk ls hl)) k
theorem gx_tableOut {S : gx_S} {M : gx_M} {d pc : Nat} {L : List (Option Value)} {st : List Value} {h : gx_H} {Q : Option Value → gx_H → Prop} {dflt lo hi : Int} {offs : Array Int} {len : Nat} {x : Int32} {tgt : Nat} (hd : decode M.2.2.1 pc = .ok (.tableswitch dflt lo hi offs, len)) (h1 : x.toInt < lo ∨ hi < x.toInt) (ht : (pc : Int) + dflt = (tgt : Int)) (k : gx_Ev S M d tgt L st h Q) : gx_Ev S M d pc L (.int x :: st) h Q :=
  gx_step (fun p l e R s m args below meth c Qw cells slots H locs ls Z J hl kk => lv_tableOut J.1 J.2.1 hd h1 ht (kk ls hl)) k
theorem gx_ldc {S : gx_S} {M : gx_M} {d pc : Nat} {L : List (Option Value)} {st : List Value} {h : gx_H} {Q : Option Value → gx_H → Prop} {n : Nat} {v : Int32} (hd : decode M.2.2.1 pc = .ok (.ldc n, 2)) (hc : Cond.constant M.1 n v ∈ gx_Ts) (k : gx_Ev S M d (pc + 2) L (.int v :: st) h Q) : gx_Ev S M d pc L st h Q :=
  gx_step (fun p l e R s m args below meth c Qw cells slots H locs ls Z J hl kk => lv_ldc J.1 J.2.1 J.2.2.2.1 (J.2.2.2.2.1 _ hc) hd (kk ls hl)) k
theorem gx_ireturn {S : gx_S} {M : gx_M} {d pc : Nat} {L : List (Option Value)} {h : gx_H} {Q : Option Value → gx_H → Prop} {v : Int32} (hd : decode M.2.2.1 pc = .ok (.ireturn, 1)) (hq : Q (some (.int v)) h) : gx_Ev S M d pc L [(.int v)] h Q :=
  ⟨some (.int v), h, hq, ⟨Nat.le_refl _, Nat.le_refl _⟩, fun Z p l e R s m args below meth c Qw k1 k2 H locs ls J a1 a2 a3 a4 => J.2.2.2.2.2 H locs ls pc a2 a3 hd⟩
theorem gx_lreturn {S : gx_S} {M : gx_M} {d pc : Nat} {L : List (Option Value)} {h : gx_H} {Q : Option Value → gx_H → Prop} {v : Int64} (hd : decode M.2.2.1 pc = .ok (.lreturn, 1)) (hq : Q (some (.long v)) h) : gx_Ev S M d pc L [(.long v)] h Q :=
  ⟨some (.long v), h, hq, ⟨Nat.le_refl _, Nat.le_refl _⟩, fun Z p l e R s m args below meth c Qw k1 k2 H locs ls J a1 a2 a3 a4 => J.2.2.2.2.2 H locs ls pc a2 a3 hd⟩
theorem gx_areturn {S : gx_S} {M : gx_M} {d pc : Nat} {L : List (Option Value)} {h : gx_H} {Q : Option Value → gx_H → Prop} {v : Nat} (hd : decode M.2.2.1 pc = .ok (.areturn, 1)) (hq : Q (some (.ref v)) h) : gx_Ev S M d pc L [(.ref v)] h Q :=
  ⟨some (.ref v), h, hq, ⟨Nat.le_refl _, Nat.le_refl _⟩, fun Z p l e R s m args below meth c Qw k1 k2 H locs ls J a1 a2 a3 a4 => J.2.2.2.2.2 H locs ls pc a2 a3 hd⟩
theorem gx_areturnN {S : gx_S} {M : gx_M} {d pc : Nat} {L : List (Option Value)} {h : gx_H} {Q : Option Value → gx_H → Prop}  (hd : decode M.2.2.1 pc = .ok (.areturn, 1)) (hq : Q (some .null) h) : gx_Ev S M d pc L [.null] h Q :=
  ⟨some .null, h, hq, ⟨Nat.le_refl _, Nat.le_refl _⟩, fun Z p l e R s m args below meth c Qw k1 k2 H locs ls J a1 a2 a3 a4 => J.2.2.2.2.2 H locs ls pc a2 a3 hd⟩
theorem gx_return {S : gx_S} {M : gx_M} {d pc : Nat} {L : List (Option Value)} {h : gx_H} {Q : Option Value → gx_H → Prop}  (hd : decode M.2.2.1 pc = .ok (.return_, 1)) (hq : Q (none) h) : gx_Ev S M d pc L [] h Q :=
  ⟨none, h, hq, ⟨Nat.le_refl _, Nat.le_refl _⟩, fun Z p l e R s m args below meth c Qw k1 k2 H locs ls J a1 a2 a3 a4 => J.2.2.2.2.2 H locs ls pc a2 a3 hd⟩
end
section
/-! the heap rows -/
def gx_set (h : gx_H) (a : Nat) (e : gx_E) : gx_H := (h.1, h.2.1, va_up h.2.2 a (some e))
def gx_push (h : gx_H) (n : Nat) (e : gx_E) : gx_H := (h.1 + 1, h.2.1 + n, va_up h.2.2 h.1 (some e))
abbrev gx_ob (ci : Nat) (fs : List Value) : gx_E := .inr (ci, fs)
abbrev gx_ai (t n : Nat) (f : Nat → Int32) : gx_E := .inl (t, n, .inl f)
abbrev gx_ar (t n : Nat) (f : Nat → Option Nat) : gx_E := .inl (t, n, .inr (.inr (.inr (.inr f))))
theorem gx_Rel.set {Z : gx_Z} {S : gx_S} {h : gx_H} {U : State} {H H' : Heap} (r : gx_Rel Z S h U H) {a : Nat} {e0 e : gx_E} (he : h.2.2 a = some e0) (hz : H'.size = H.size) (ho : ∀ q : Nat, q ≠ a → H'[q]? = H[q]?) (hn : va_at (gx_D Z) vwCl (a, gx_e Z.2.2 e) H') : gx_Rel Z S (gx_set h a e) U H' := by
  obtain ⟨r1, r2, r3, r4, r5⟩ := r
  have hb := (r3 a e0 he).1
  refine ⟨by rw [hz]; exact r1, r2, fun b f hf => ?_, r4, r5.kept (ho _ (by omega))⟩
  by_cases hba : b = a
  · subst hba
    have : e = f := by simpa [gx_set, va_up] using hf
    subst this
    exact ⟨hb, hn⟩
  · have hf' : h.2.2 b = some f := by simpa [gx_set, va_up, hba] using hf
    obtain ⟨g1, g2⟩ := r3 b f hf'
    exact ⟨g1, g2.kept (ho b hba)⟩
theorem gx_Rel.push {Z : gx_Z} {S : gx_S} {h : gx_H} {U : State} {H H' : Heap} (r : gx_Rel Z S h U H) {n : Nat} {e : gx_E} (hz : H'.size = H.size + 1) (ho : ∀ q : Nat, q < H.size → H'[q]? = H[q]?) (hn : va_at (gx_D Z) vwCl (h.1, gx_e Z.2.2 e) H') : gx_Rel Z S (gx_push h n e) U H' := by
  obtain ⟨r1, r2, r3, r4, r5⟩ := r
  refine ⟨by rw [hz, r1]; rfl, Nat.le_trans r2 (Nat.le_succ _), fun b f hf => ?_, r4, r5.kept (ho _ (by omega))⟩
  by_cases hba : b = h.1
  · subst hba
    have : e = f := by simpa [gx_push, va_up] using hf
    subst this
    exact ⟨r2, hn⟩
  · have hf' : h.2.2 b = some f := by simpa [gx_push, va_up, hba] using hf
    obtain ⟨g1, g2⟩ := r3 b f hf'
    exact ⟨g1, g2.kept (ho b (by have := g2.lt; exact this))⟩
/-- class number ci of the list, with its words -/
def gx_Cls (ci : Nat) (C : String) (T : u_T) (N : Nat) (ty : Nat → FieldType) : Prop := vwCl[ci]? = some (C, T, N) ∧ (∀ w ∈ u_ws C T N, w ∈ gx_Ts) ∧ (∀ k, k < N → parseFieldDescriptor (T k).2.2.1 = some (ty k)) ∧ (∀ a, a < N → ∀ b, b < N → a ≠ b → (T a).2.1 ≠ (T b).2.1)
/-- the pool's entry idx of the class own is field k of class ci -/
def gx_FL (own : String) (idx ci k : Nat) (ty : FieldType) (fin : Bool) : Prop := ∃ (C : String) (T : u_T) (N : Nat) (tyf : Nat → FieldType), gx_Cls ci C T N tyf ∧ k < N ∧ tyf k = ty ∧ (T k).1 = C ∧ (T k).2.2.2 = fin ∧ Cond.fieldLink own idx C (T k).2.1 (T k).2.2.1 ∈ gx_Ts
section HP
variable {S : gx_S} {M : gx_M} {d pc : Nat} {L : List (Option Value)} {st : List Value} {h : gx_H} {Q : Option Value → gx_H → Prop}
theorem gx_get {idx ci k a : Nat} {ty : FieldType} {fin : Bool} {fs : List Value} {v : Value} (hd : decode M.2.2.1 pc = .ok (.getfield idx, 3)) (hf : gx_FL M.1 idx ci k ty fin) (hc : h.2.2 a = some (gx_ob ci fs)) (hv : fs[k]? = some v) (kk : gx_Ev S M d (pc + 3) L (v :: st) h Q) : gx_Ev S M d pc L (.ref a :: st) h Q := by
  obtain ⟨r, h', hq, hm, hk⟩ := kk
  refine ⟨r, h', hq, hm, fun Z p l e R s m args below meth c Qw k1 k2 H locs ls J a1 a2 a3 a4 => ?_⟩
  obtain ⟨C, T, N, tyf, ⟨c1, c2, c3, c4⟩, f1, f2, f3, f4, f5⟩ := hf
  have hP : va_P (gx_D Z) vwCl [(a, .inr (ci, fs))] H := fun j q hj => by
    have h0 : j < 1 := (List.getElem?_eq_some_iff.mp hj).1
    rw [show j = 0 by omega] at hj
    cases hj
    exact (a2.2.2.1 a _ hc).2
  refine va_get (D := gx_D Z) (cl := vwCl) (ci := ci) (C := C) (T := T) (N := N) J.1.1 J.1.2.1 J.1.2.2.2.2.1 c2 J.1.2.2.2.1 J.1.2.2.2.2.2.2.1 hP 0 rfl c1 k f1 (J.1.2.2.2.2.1 _ f5) (fun x hx => by rw [f3] at hx; exact hx) hv hd ?_
  exact hk Z p l e R s m args below meth c Qw k1 k2 H locs ls J a1 a2 a3 a4
theorem gx_put {idx ci k a : Nat} {ty : FieldType} {fs : List Value} {v : Value} (hd : decode M.2.2.1 pc = .ok (.putfield idx, 3)) (hf : gx_FL M.1 idx ci k ty false) (hc : h.2.2 a = some (gx_ob ci fs)) (hl : k < fs.length) (hn : narrow ty v = v) (hfit : fits ty v = true) (kk : gx_Ev S M d (pc + 3) L st (gx_set h a (gx_ob ci (fs.set k v))) Q) : gx_Ev S M d pc L (v :: .ref a :: st) h Q := by
  obtain ⟨r, h', hq, hm, hk⟩ := kk
  refine ⟨r, h', hq, hm, fun Z p l e R s m args below meth c Qw k1 k2 H locs ls J a1 a2 a3 a4 => ?_⟩
  obtain ⟨C, T, N, tyf, ⟨c1, c2, c3, c4⟩, f1, f2, f3, f4, f5⟩ := hf
  have hts := J.1.2.2.2.2.1
  have hK := J.1.2.2.2.2.2.2.1
  have hap := va_apart (own := M.1) hts c2 tyf c3 c4 hK c1
  obtain ⟨hba, r', h1, cell, q1, q2, q3, q4⟩ := a2.2.2.1 a _ hc
  have hr : r' = (C, T, N) := Option.some.inj (h1.symm.trans c1)
  subst hr
  obtain ⟨hS, hfc, kC, hkC, hkind⟩ := hK.1 ci _ c1
  obtain ⟨cf, kf, fi, f, hi, hsl⟩ := hS k f1
  have hlay := hts _ (c2 _ (u_in_lay f1))
  unfold u_lay at hlay
  rw [if_neg (by rw [f4]; decide)] at hlay
  have hst := (u_facts hfc hkC (u_lays hts c2 f1) hi).1
  have h6 := u_store hfc hkC hkind hlay hi (by rw [c3 k f1, f2]) hn hfit
  refine W.putK J.1.1 J.1.2.1 (f := f) ⟨J.1.2.2.2.1, hts _ f5, ⟨_, _, _, by rw [f3] at hi; exact hi⟩, hst⟩ (by rw [q2]; exact h6) q1 q3 (by rw [hsl]; exact k2_hasslot (q4 k f1)) rfl rfl hd fun H' e1 e2 e3 => ?_
  rw [hsl] at e1 ⊢
  refine hk Z p l e R s m args below meth c Qw k1 k2 H' _ ls J a1 (a2.set hc e2 e3 ?_) (fun q hq => ?_) a4
  · exact ⟨_, c1, t_OB.to (V := updV (vp_V fs) k v) ⟨_, e1, q2, q3, t_set q4 hap f1 v⟩ (fun j _ => vp_updV_set hl v j)⟩
  · rcases List.mem_append.mp hq with h8 | h8
    · exact a3 q h8
    · rw [List.mem_singleton.mp h8]; exact hba
theorem gx_putF {idx ci k a : Nat} {ty : FieldType} {fs : List Value} {v : Value} (hd : decode M.2.2.1 pc = .ok (.putfield idx, 3)) (hf : gx_FL M.1 idx ci k ty true) (hi : M.2.1.name = "<init>") (hown : ∀ r, vwCl[ci]? = some r → r.1 = M.1) (hc : h.2.2 a = some (gx_ob ci fs)) (hl : k < fs.length) (hn : narrow ty v = v) (hfit : fits ty v = true) (kk : gx_Ev S M d (pc + 3) L st (gx_set h a (gx_ob ci (fs.set k v))) Q) : gx_Ev S M d pc L (v :: .ref a :: st) h Q := by
  obtain ⟨r, h', hq, hm, hk⟩ := kk
  refine ⟨r, h', hq, hm, fun Z p l e R s m args below meth c Qw k1 k2 H locs ls J a1 a2 a3 a4 => ?_⟩
  obtain ⟨C, T, N, tyf, ⟨c1, c2, c3, c4⟩, f1, f2, f3, f4, f5⟩ := hf
  have hts := J.1.2.2.2.2.1
  have hK := J.1.2.2.2.2.2.2.1
  have hap := va_apart (own := M.1) hts c2 tyf c3 c4 hK c1
  obtain ⟨hba, r', h1, cell, q1, q2, q3, q4⟩ := a2.2.2.1 a _ hc
  have hr : r' = (C, T, N) := Option.some.inj (h1.symm.trans c1)
  subst hr
  have hCo : C = M.1 := hown _ c1
  obtain ⟨hS, hfc, kC, hkC, hkind⟩ := hK.1 ci _ c1
  obtain ⟨cf, kf, fi, f, hi2, hsl⟩ := hS k f1
  have hlay := hts _ (c2 _ (u_in_lay f1))
  unfold u_lay at hlay
  rw [if_pos f4] at hlay
  have hst := (u_facts hfc hkC (u_lays hts c2 f1) hi2).1
  have hcf : m.cls = cf := by
    obtain ⟨_, _, c', _, _, _, -, -, hf', -, -, -, hown2, -⟩ := Cond.laysFinal_spec hlay
    have e1 : c' = cf := by have := hi2.symm.trans hf'; simp at this; exact this.1.symm
    rw [f3, hCo] at hown2
    rw [← e1]; exact Option.some.inj (J.1.2.2.2.1.symm.trans hown2)
  have h6 := u_fits hfc hkC hkind (Or.inr hlay) hi2 (by rw [c3 k f1, f2]) hn hfit
  refine W.putFinK J.1.1 J.1.2.1 J.1.2.2.2.1 (hts _ f5) (by rw [f3] at hi2; exact hi2) hst hcf (J.1.2.2.2.2.2.1 hi) (by rw [q2]; exact h6) q1 q3 (by rw [hsl]; exact k2_hasslot (q4 k f1)) rfl rfl hd fun H' e1 e2 e3 => ?_
  rw [hsl] at e1 ⊢
  refine hk Z p l e R s m args below meth c Qw k1 k2 H' _ ls J a1 (a2.set hc e2 e3 ?_) (fun q hq => ?_) a4
  · exact ⟨_, c1, t_OB.to (V := updV (vp_V fs) k v) ⟨_, e1, q2, q3, t_set q4 hap f1 v⟩ (fun j _ => vp_updV_set hl v j)⟩
  · rcases List.mem_append.mp hq with h8 | h8
    · exact a3 q h8
    · rw [List.mem_singleton.mp h8]; exact hba
end HP
end
section
/-! arrays, new, the script -/
theorem gx_tys_at (cy : Nat → ClassId) {t : Nat} (ht : t < 6) : (gx_tys cy)[t]? = some (cy t, gx_ty t) := by
  rcases t with _ | _ | _ | _ | _ | _ | t
  all_goals first | rfl | omega
section AR
variable {S : gx_S} {M : gx_M} {d pc : Nat} {L : List (Option Value)} {st : List Value} {h : gx_H} {Q : Option Value → gx_H → Prop}
theorem gx_one {Z : gx_Z} {U : State} {H : Heap} {a : Nat} {e : gx_E} (r : gx_Rel Z S h U H) (hc : h.2.2 a = some e) : va_P (gx_D Z) vwCl [(a, gx_e Z.2.2 e)] H := fun j q hj => by
  have h0 : j < 1 := (List.getElem?_eq_some_iff.mp hj).1
  rw [show j = 0 by omega] at hj
  cases hj
  exact (r.2.2.1 a _ hc).2
theorem gx_iald {a n : Nat} {f : Nat → Int32} {i x : Int32} (hd : decode M.2.2.1 pc = .ok (.iaload, 1)) (hc : h.2.2 a = some (gx_ai 0 n f)) (hin : vp_in i n) (hx : f i.toNatClampNeg = x) (kk : gx_Ev S M d (pc + 1) L (.int x :: st) h Q) : gx_Ev S M d pc L (.int i :: .ref a :: st) h Q := by
  subst hx
  obtain ⟨r, h', hq, hm, hk⟩ := kk
  refine ⟨r, h', hq, hm, fun Z p l e R s m args below meth c Qw k1 k2 H locs ls J a1 a2 a3 a4 => ?_⟩
  exact va_iald J.1.1 J.1.2.1 J.1.2.2.2.2.2.2.1 (gx_one a2 hc) 0 0 rfl (gx_tys_at Z.2.2 (t := 0) (by omega)) hin hd (hk Z p l e R s m args below meth c Qw k1 k2 H locs ls J a1 a2 a3 a4)
theorem gx_zald {a n : Nat} {f : Nat → Int32} {i x : Int32} (hd : decode M.2.2.1 pc = .ok (.baload, 1)) (hc : h.2.2 a = some (gx_ai 1 n f)) (hin : vp_in i n) (hx : f i.toNatClampNeg = x) (kk : gx_Ev S M d (pc + 1) L (.int x :: st) h Q) : gx_Ev S M d pc L (.int i :: .ref a :: st) h Q := by
  subst hx
  obtain ⟨r, h', hq, hm, hk⟩ := kk
  refine ⟨r, h', hq, hm, fun Z p l e R s m args below meth c Qw k1 k2 H locs ls J a1 a2 a3 a4 => ?_⟩
  exact va_zald J.1.1 J.1.2.1 J.1.2.2.2.2.2.2.1 (gx_one a2 hc) 0 1 rfl (gx_tys_at Z.2.2 (t := 1) (by omega)) hin hd (hk Z p l e R s m args below meth c Qw k1 k2 H locs ls J a1 a2 a3 a4)
theorem gx_aald {a n t : Nat} {f : Nat → Option Nat} {i : Int32} {v : Value} (hd : decode M.2.2.1 pc = .ok (.aaload, 1)) (ht : t < 6 ∧ 2 ≤ t) (hc : h.2.2 a = some (gx_ar t n f)) (hin : vp_in i n) (hv : va_rf (f i.toNatClampNeg) = v) (kk : gx_Ev S M d (pc + 1) L (v :: st) h Q) : gx_Ev S M d pc L (.int i :: .ref a :: st) h Q := by
  subst hv
  obtain ⟨r, h', hq, hm, hk⟩ := kk
  refine ⟨r, h', hq, hm, fun Z p l e R s m args below meth c Qw k1 k2 H locs ls J a1 a2 a3 a4 => ?_⟩
  have hT := gx_tys_at Z.2.2 ht.1
  have hty : ∃ C, gx_ty t = .object C := by
    rcases t with _ | _ | _ | _ | _ | _ | t
    all_goals first | (exact ⟨_, rfl⟩) | omega
  obtain ⟨C, hC⟩ := hty
  rw [hC] at hT
  exact va_aldq (C := C) J.1.1 J.1.2.1 J.1.2.2.2.2.2.2.1 (gx_one a2 hc) 0 t rfl hT hin hd (hk Z p l e R s m args below meth c Qw k1 k2 H locs ls J a1 a2 a3 a4)
theorem gx_alen {a t : Nat} {x : vp_A} {v : Int32} (hd : decode M.2.2.1 pc = .ok (.arraylength, 1)) (ht : t < 6) (hc : h.2.2 a = some (.inl (t, x))) (hv : Int32.ofNat x.1 = v) (kk : gx_Ev S M d (pc + 1) L (.int v :: st) h Q) : gx_Ev S M d pc L (.ref a :: st) h Q := by
  obtain ⟨r, h', hq, hm, hk⟩ := kk
  refine ⟨r, h', hq, hm, fun Z p l e R s m args below meth c Qw k1 k2 H locs ls J a1 a2 a3 a4 => ?_⟩
  exact va_alen J.1.1 J.1.2.1 J.1.2.2.2.2.2.2.1 (gx_one a2 hc) 0 t rfl (gx_tys_at Z.2.2 ht) hv hd (hk Z p l e R s m args below meth c Qw k1 k2 H locs ls J a1 a2 a3 a4)
theorem gx_locs {locs : List Loc} {a i : Nat} (h1 : ∀ q ∈ locs, S.1 ≤ q.base) (h2 : S.1 ≤ a) : ∀ q ∈ locs ++ [⟨a, i⟩], S.1 ≤ q.base := by
  intro q hq
  rcases List.mem_append.mp hq with h8 | h8
  · exact h1 q h8
  · rw [List.mem_singleton.mp h8]; exact h2
theorem gx_iast {a n : Nat} {f : Nat → Int32} {i x : Int32} (hd : decode M.2.2.1 pc = .ok (.iastore, 1)) (hc : h.2.2 a = some (gx_ai 0 n f)) (hin : vp_in i n) (kk : gx_Ev S M d (pc + 1) L st (gx_set h a (gx_ai 0 n (va_up f i.toNatClampNeg x))) Q) : gx_Ev S M d pc L (.int x :: .int i :: .ref a :: st) h Q := by
  obtain ⟨r, h', hq, hm, hk⟩ := kk
  refine ⟨r, h', hq, hm, fun Z p l e R s m args below meth c Qw k1 k2 H locs ls J a1 a2 a3 a4 => ?_⟩
  have hK := J.1.2.2.2.2.2.2.1
  have ha := gx_one a2 hc 0 _ rfl
  refine W.iast J.1.1 J.1.2.1 ha ((hK.2 0 _ (gx_tys_at Z.2.2 (t := 0) (by omega))).1 n (fun j => .int (f j))) (fun q => by cases q) (by show ¬ (i < 0 ∨ (arrV _ _ _).slots.size ≤ _); rw [arrV_size]; exact hin) rfl rfl hd fun H1 e1 z oq => ?_
  refine hk Z p l e R s m args below meth c Qw k1 k2 H1 _ ls J a1 (a2.set hc z oq ?_) (gx_locs a3 (a2.2.2.1 a _ hc).1) a4
  show H1[a]? = some (vp_cell _ _)
  rw [e1]
  show some ((vp_cell _ (n, .inl f)).setSlot _ _) = some (vp_cell _ (n, .inl _))
  rw [vp_cell_i, vp_cell_i, arrV_store]
  congr 2
  funext q
  by_cases hq : q = i.toNatClampNeg
  · subst hq
    simp [updV, va_up]
  · simp [updV, va_up, hq]
theorem gx_zast {a n : Nat} {f : Nat → Int32} {i x : Int32} (hd : decode M.2.2.1 pc = .ok (.bastore, 1)) (hc : h.2.2 a = some (gx_ai 1 n f)) (hin : vp_in i n) (hx : x = 0 ∨ x = 1) (kk : gx_Ev S M d (pc + 1) L st (gx_set h a (gx_ai 1 n (va_up f i.toNatClampNeg x))) Q) : gx_Ev S M d pc L (.int x :: .int i :: .ref a :: st) h Q := by
  obtain ⟨r, h', hq, hm, hk⟩ := kk
  refine ⟨r, h', hq, hm, fun Z p l e R s m args below meth c Qw k1 k2 H locs ls J a1 a2 a3 a4 => ?_⟩
  have hK := J.1.2.2.2.2.2.2.1
  have ha := gx_one a2 hc 0 _ rfl
  have hnar : narrow .boolean (.int x) = .int x := by rcases hx with rfl | rfl <;> rfl
  refine W.zast J.1.1 J.1.2.1 ha ((hK.2 1 _ (gx_tys_at Z.2.2 (t := 1) (by omega))).1 n (fun j => .int (f j))) (fun q => by cases q) (by show ¬ (i < 0 ∨ (arrV _ _ _).slots.size ≤ _); rw [arrV_size]; exact hin) rfl rfl hd fun H1 e1 z oq => ?_
  refine hk Z p l e R s m args below meth c Qw k1 k2 H1 _ ls J a1 (a2.set hc z oq ?_) (gx_locs a3 (a2.2.2.1 a _ hc).1) a4
  show H1[a]? = some (vp_cell _ _)
  rw [e1, hnar]
  show some ((vp_cell _ (n, .inl f)).setSlot _ _) = some (vp_cell _ (n, .inl _))
  rw [vp_cell_i, vp_cell_i, arrV_store]
  congr 2
  funext q
  by_cases hq : q = i.toNatClampNeg
  · subst hq
    simp [updV, va_up]
  · simp [updV, va_up, hq]
/-- array type t holds objects of class ci -/
def gx_oc (t ci : Nat) : Prop := ∃ r, vwCl[ci]? = some r ∧ gx_ty t = .object r.1 ∧ t < 6
theorem gx_aast {a n t v ci : Nat} {vs : List Value} {f : Nat → Option Nat} {i : Int32} (hd : decode M.2.2.1 pc = .ok (.aastore, 1)) (ht : gx_oc t ci) (hc : h.2.2 a = some (gx_ar t n f)) (hcv : h.2.2 v = some (gx_ob ci vs)) (hin : vp_in i n) (kk : gx_Ev S M d (pc + 1) L st (gx_set h a (gx_ar t n (va_up f i.toNatClampNeg (some v)))) Q) : gx_Ev S M d pc L (.ref v :: .int i :: .ref a :: st) h Q := by
  obtain ⟨r, h', hq, hm, hk⟩ := kk
  refine ⟨r, h', hq, hm, fun Z p l e R s m args below meth c Qw k1 k2 H locs ls J a1 a2 a3 a4 => ?_⟩
  have hK := J.1.2.2.2.2.2.2.1
  have ha := gx_one a2 hc 0 _ rfl
  obtain ⟨rc, hrc, htc, ht6⟩ := ht
  have hT := gx_tys_at Z.2.2 ht6
  rw [htc] at hT
  have hlt : i.toNatClampNeg < n := Nat.not_le.mp fun q => hin (Or.inr q)
  have h0 : ¬ i < 0 := fun q => hin (Or.inl q)
  obtain ⟨-, r', hr', cellV, g1, g2, g3, -⟩ := a2.2.2.1 v _ hcv
  have hcls := (hK.1 ci rc hrc).2
  obtain ⟨kA, comp, e1, e2, e3, -⟩ := (hK.2 t _ hT).2
  have hcomp : comp = (gx_D Z).1 ci := Option.some.inj (e3.symm.trans hcls.1)
  subst hcomp
  obtain ⟨kC, hkC, -⟩ := id hcls.2
  refine W.aast J.1.1 J.1.2.1 ha (fun q h => by cases h) (fun h => by cases h) e1 e2 rfl hkC ⟨h0, by show _ < (arrV _ _ _).slots.size; rw [arrV_size]; exact hlt⟩ g1 (fun q h => by rw [g3] at h; cases h) (by rw [g2]; exact hkC) (by rw [g2]; exact va_assign hcls) rfl rfl hd fun H1 e z oq => ?_
  refine hk Z p l _ R s m args below meth c Qw k1 k2 H1 _ ls J a1 (a2.set hc z oq ?_) (gx_locs a3 (a2.2.2.1 a _ hc).1) a4
  show H1[a]? = some (vp_cell _ _)
  rw [e]
  show some ((vp_cell _ (n, .inr (.inr (.inr (.inr f))))).setSlot _ _) = some (vp_cell _ (n, .inr (.inr (.inr (.inr _)))))
  rw [vp_cell_q, vp_cell_q, arrV_store]
  congr 2
  funext q
  by_cases hq : q = i.toNatClampNeg
  · subst hq
    simp [updV, va_up, va_rf]
  · simp [updV, va_up, hq]
theorem gx_aastN {a n t : Nat} {f : Nat → Option Nat} {i : Int32} (hd : decode M.2.2.1 pc = .ok (.aastore, 1)) (ht : t < 6 ∧ 2 ≤ t) (hc : h.2.2 a = some (gx_ar t n f)) (hin : vp_in i n) (kk : gx_Ev S M d (pc + 1) L st (gx_set h a (gx_ar t n (va_up f i.toNatClampNeg none))) Q) : gx_Ev S M d pc L (.null :: .int i :: .ref a :: st) h Q := by
  obtain ⟨r, h', hq, hm, hk⟩ := kk
  refine ⟨r, h', hq, hm, fun Z p l e R s m args below meth c Qw k1 k2 H locs ls J a1 a2 a3 a4 => ?_⟩
  have hK := J.1.2.2.2.2.2.2.1
  have ha := gx_one a2 hc 0 _ rfl
  have hT := gx_tys_at Z.2.2 ht.1
  have hty : ∃ C, gx_ty t = .object C := by
    rcases t with _ | _ | _ | _ | _ | _ | t
    all_goals first | (exact ⟨_, rfl⟩) | omega
  obtain ⟨C, hC⟩ := hty
  rw [hC] at hT
  refine va_WaastN (C := C) J.1.1 J.1.2.1 ha ((hK.2 t _ hT).1 n (fun j => va_rf (f j))) (fun h => by cases h) (by show ¬ (i < 0 ∨ (arrV _ _ _).slots.size ≤ _); rw [arrV_size]; exact hin) rfl rfl hd fun H1 e1 z oq => ?_
  refine hk Z p l e R s m args below meth c Qw k1 k2 H1 _ ls J a1 (a2.set hc z oq ?_) (gx_locs a3 (a2.2.2.1 a _ hc).1) a4
  show H1[a]? = some (vp_cell _ _)
  rw [e1]
  show some ((vp_cell _ (n, .inr (.inr (.inr (.inr f))))).setSlot _ _) = some (vp_cell _ (n, .inr (.inr (.inr (.inr _)))))
  rw [vp_cell_q, vp_cell_q, arrV_store]
  congr 2
  funext q
  by_cases hq : q = i.toNatClampNeg
  · subst hq
    simp [updV, va_up, va_rf]
  · simp [updV, va_up, hq]
theorem gx_cnt {k1 k2 n : Nat} {a b : gx_H} (h1 : k1 ≤ a.1 ∧ k2 ≤ a.2.1) (hb1 : b.1 = a.1 + 1) (hb2 : b.2.1 = a.2.1 + n) : a.1 - k1 + 1 = b.1 - k1 ∧ a.2.1 - k2 + n = b.2.1 - k2 ∧ k1 ≤ b.1 ∧ k2 ≤ b.2.1 := by omega
theorem gx_new {idx ci N : Nat} {C : String} {T : u_T} {tyf : Nat → FieldType} {fs : List Value} (hd : decode M.2.2.1 pc = .ok (.new idx, 3)) (hc : gx_Cls ci C T N tyf) (h1 : Cond.classLink M.1 idx C ∈ gx_Ts) (h2 : Cond.instantiable C N ∈ gx_Ts) (h3 : Cond.initialized C ∈ gx_Ts) (hfs : ∀ j, j < N → defaultValue (tyf j) = vp_V fs j) (kk : gx_Ev S M d (pc + 3) L (.ref h.1 :: st) (gx_push h N (gx_ob ci fs)) Q) : gx_Ev S M d pc L st h Q := by
  obtain ⟨r, h', hq, hm, hk⟩ := kk
  have m1 : h.1 + 1 ≤ h'.1 := hm.1
  have m2 : h.2.1 + N ≤ h'.2.1 := hm.2
  refine ⟨r, h', hq, ⟨by omega, by omega⟩, fun Z p l e R s m args below meth c Qw k1 k2 H locs ls J a1 a2 a3 a4 => ?_⟩
  obtain ⟨c1, c2, c3, c4⟩ := hc
  have hts := J.1.2.2.2.2.1
  have hK := J.1.2.2.2.2.2.2.1
  have hKn := hK.1 ci _ c1
  have rc := J.2.2.2.1
  have rs := J.2.2.2.2.1
  obtain ⟨n1, n2, n3, n4⟩ := gx_cnt (a := h) (b := gx_push h N (gx_ob ci fs)) a1 rfl rfl
  refine W.newcK J.1.1 J.1.2.1 J.1.2.2.2.1 (hts _ h1) (hts _ h2) (hts _ h3) rfl hd (by omega) (by omega) hKn.2.1 a2.1 fun H1 kC hkC e1 z1 o1 => ?_
  rw [n1, n2]
  refine hk Z p l e R s m args below meth c Qw k1 k2 H1 locs ls J ⟨n3, n4⟩ (a2.push (by rw [z1, a2.1]) (fun q h => o1 q (by rw [← a2.1]; exact h)) ?_) a3 a4
  exact ⟨_, c1, (u_born tyf hts c2 hKn hkC e1 c3).to hfs⟩
theorem gx_newa {t N : Nat} {atype : ArrayType} {n : Int32} (hd : decode M.2.2.1 pc = .ok (.newarray atype, 2)) (ht : (t = 0 ∧ atype = .int) ∨ (t = 1 ∧ atype = .boolean)) (hn : ¬ n < 0) (hN : n.toNatClampNeg = N) (hb : N ≤ 1000000) (kk : gx_Ev S M d (pc + 2) L (.ref h.1 :: st) (gx_push h N (gx_ai t N (fun _ => 0))) Q) : gx_Ev S M d pc L (.int n :: st) h Q := by
  obtain ⟨r, h', hq, hm, hk⟩ := kk
  have m1 : h.1 + 1 ≤ h'.1 := hm.1
  have m2 : h.2.1 + N ≤ h'.2.1 := hm.2
  refine ⟨r, h', hq, ⟨by omega, by omega⟩, fun Z p l e R s m args below meth c Qw k1 k2 H locs ls J a1 a2 a3 a4 => ?_⟩
  have hts := J.1.2.2.2.2.1
  have hK := J.1.2.2.2.2.2.2.1
  have rc := J.2.2.2.1
  have rs := J.2.2.2.2.1
  obtain ⟨n1, n2, n3, n4⟩ := gx_cnt (a := h) (b := gx_push h N (gx_ai t N (fun _ => 0))) a1 rfl rfl
  have hty : newarray.typeOf atype = gx_ty t ∧ t < 6 ∧ Cond.arrayClass (gx_ty t) ∈ gx_Ts ∧ componentBytes (gx_ty t) ≤ 8 ∧ defaultValue (gx_ty t) = .int 0 := by
    rcases ht with ⟨rfl, rfl⟩ | ⟨rfl, rfl⟩
    · exact ⟨rfl, by omega, wa_int, by decide, rfl⟩
    · exact ⟨rfl, by omega, wa_boolean, by decide, rfl⟩
  obtain ⟨t1, t2, t3, t4, t5⟩ := hty
  have hT := gx_tys_at Z.2.2 t2
  have hbytes : N * componentBytes (newarray.typeOf atype) ≤ 536870912 := by
    rw [t1]
    exact Nat.le_trans (Nat.mul_le_mul hb t4) (by omega)
  refine va_newaK J.1.1 J.1.2.1 (by rw [t1]; exact hts _ t3) rfl hd rfl hn hN hbytes (by omega) (by omega) a2.1 fun H1 cA e1 z1 o1 hAr hNm => ?_
  have hcy : cA = Z.2.2 t := by
    have h9 := (hK.2 t _ hT).2
    rw [t1] at hNm
    rcases ht with ⟨rfl, -⟩ | ⟨rfl, -⟩
    · exact Option.some.inj (hNm.symm.trans h9)
    · exact Option.some.inj (hNm.symm.trans h9)
  rw [n1, n2]
  refine hk Z p l e R s m args below meth c Qw k1 k2 H1 locs ls J ⟨n3, n4⟩ (a2.push (by rw [z1, a2.1]) (fun q h => o1 q (by rw [← a2.1]; exact h)) ?_) a3 a4
  show H1[h.1]? = some (vp_cell _ _)
  rw [e1, hcy, t1, t5]
  rfl
theorem gx_anew {t N idx : Nat} {C : String} {n : Int32} (hd : decode M.2.2.1 pc = .ok (.anewarray idx, 3)) (h1 : Cond.classLink M.1 idx C ∈ gx_Ts) (ht : gx_ty t = .object C ∧ t < 6) (hAO : ∀ (Z : gx_Z) (U : State), gx_Kn Z U → va_AO C U) (hn : ¬ n < 0) (hN : n.toNatClampNeg = N) (hb : N ≤ 1000000) (kk : gx_Ev S M d (pc + 3) L (.ref h.1 :: st) (gx_push h N (gx_ar t N (fun _ => none))) Q) : gx_Ev S M d pc L (.int n :: st) h Q := by
  obtain ⟨r, h', hq, hm, hk⟩ := kk
  have m1 : h.1 + 1 ≤ h'.1 := hm.1
  have m2 : h.2.1 + N ≤ h'.2.1 := hm.2
  refine ⟨r, h', hq, ⟨by omega, by omega⟩, fun Z p l e R s m args below meth c Qw k1 k2 H locs ls J a1 a2 a3 a4 => ?_⟩
  have hts := J.1.2.2.2.2.1
  have hK := J.1.2.2.2.2.2.2.1
  have rc := J.2.2.2.1
  have rs := J.2.2.2.2.1
  obtain ⟨n1, n2, n3, n4⟩ := gx_cnt (a := h) (b := gx_push h N (gx_ar t N (fun _ => none))) a1 rfl rfl
  have hT := gx_tys_at Z.2.2 ht.2
  rw [ht.1] at hT
  subst hN
  refine W.anew J.1.1 J.1.2.1 J.1.2.2.2.1 (hts _ h1) (va_AO.use (hAO Z s J.1.2.2.2.2.2.2)) rfl hd rfl hn (by omega) (by omega) (by omega) fun cA kA comp f1 f2 f3 f4 => ?_
  generalize hH1 : H.push ({ cls := cA, slots := Array.replicate n.toNatClampNeg .null, vm := .none } : Cell) = H1
  have z1 : H1.size = H.size + 1 := by rw [← hH1, Array.size_push]
  have e1 : H1[H.size]? = some (arrV cA n.toNatClampNeg (fun _ => .null)) := by rw [← hH1, Array.getElem?_push_size, ← arrV_new]
  have o1 : ∀ q : Nat, q < H.size → H1[q]? = H[q]? := fun q hq => by rw [← hH1, Array.getElem?_push, if_neg (Nat.ne_of_lt hq)]
  have hcy : cA = Z.2.2 t := by
    obtain ⟨kA', comp', g1, g2, g3, g4⟩ := (hK.2 t _ hT).2
    exact Option.some.inj (f1.symm.trans g4)
  rw [n1, n2]
  show W p l e R s m args below meth c H1 locs _ _ Qw (F0 m (pc + 3) ls (.ref H.size :: st))
  rw [a2.1]
  refine hk Z p l e R s m args below meth c Qw k1 k2 H1 locs ls J ⟨n3, n4⟩ (a2.push z1 o1 ?_) a3 a4
  show H1[h.1]? = some (vp_cell _ _)
  rw [← a2.1, e1, hcy]
  rfl
end AR
end
section
/-! contracts and calls -/
def gx_room (d c s : Nat) : Room := { frames := d, cells := c, slots := s, locals := 34 * d }
def gx_ws (M : gx_M) : List Cond := Cond.code M.2.1 M.2.2.1 M.2.2.2.1 M.2.2.2.2 :: gx_Ts
def gx_Pc (Z : gx_Z) (S : gx_S) (av : List Value) (h : gx_H) : Array Value → State → Prop := va_Pc av (fun U => gx_Rel Z S h U U.heap ∧ gx_Kn Z U)
def gx_Qc (Z : gx_Z) (S : gx_S) (r : Option Value) (h' : gx_H) : Array Value → State → Outcome → State → Prop := fun _ _ o t => o = .returned r ∧ gx_Rel Z S h' t t.heap
/-- M, called with av in the heap h, gives back r and leaves the heap h' -/
def gx_Ct (S : gx_S) (M : gx_M) (d : Nat) (av : List Value) (h : gx_H) (r : Option Value) (h' : gx_H) : Prop := (h.1 ≤ h'.1 ∧ h.2.1 ≤ h'.2.1) ∧ ∀ (Z : gx_Z) (l : Launch), Met l M.2.1 (gx_ws M) (gx_room d (h'.1 - h.1) (h'.2.1 - h.2.1)) (gx_Pc Z S av h) (gx_Qc Z S r h') (h'.1 - h.1) (h'.2.1 - h.2.1) (fun a => S.1 ≤ a)
def gx_Cn (S : gx_S) (M : gx_M) (d : Nat) (av : List Value) (h : gx_H) (Q : Option Value → gx_H → Prop) : Prop := ∃ (r : Option Value) (h' : gx_H), Q r h' ∧ gx_Ct S M d av h r h'
theorem gx_Cn.mono {S : gx_S} {M : gx_M} {d : Nat} {av : List Value} {h : gx_H} {Q Q' : Option Value → gx_H → Prop} (k : gx_Cn S M d av h Q) (hq : ∀ r h', Q r h' → Q' r h') : gx_Cn S M d av h Q' := by
  obtain ⟨r, h', h1, h2⟩ := k
  exact ⟨r, h', hq r h' h1, h2⟩
/-- the value fits the method's type -/
def gx_rt (ret : Option FieldType) (r : Option Value) : Prop := match r with
  | none => ret = none
  | some (.int v) => ∃ ty, ret = some ty ∧ narrow ty (.int v) = .int v
  | some (.long _) => ret = some .long
  | some (.ref _) => ∃ n, ret = some (.object n)
  | some .null => ∃ n, ret = some (.object n)
  | _ => False
/-- what is fixed of a method: its code stands in the tables -/
def gx_MT (M : gx_M) (n : Nat) : Prop := Cond.code M.2.1 M.2.2.1 M.2.2.2.1 M.2.2.2.2 ∈ gx_Ts ∧ Cond.initialized M.2.1.cls ∈ gx_Ts ∧ (M.2.1.cls ≠ "java/lang/invoke/MethodHandle" ∧ M.2.1.cls ≠ "java/lang/invoke/VarHandle" ∧ (parseMethodDescriptor M.2.1.desc).map (fun d => d.parameters.length) = some n) ∧ M.2.2.2.1 ≤ 15 ∧ plainName M.2.1.cls = true ∧ M.2.1.cls = M.1
theorem gx_good : ∀ w ∈ gx_Ts, (w.onTables && w.keeps) = true ∨ ∃ ty, w = .arrayClass ty := fun w h => good_of_word (List.mem_filter.mp h).2
theorem gx_in {ws : List Cond} (h : ∀ w ∈ ws, w ∈ gx_Ts) : GoodIn gx_Ts ws := fun w hw => ⟨h w hw, gx_good w (h w hw)⟩
theorem gx_lv (av : List Value) (hc : ∀ v ∈ av, v.category = 1) : ∀ (n : Nat) (i : Nat) (v : Value), av[i]? = some v → (n + i, v) ∈ lv_args n av := by
  induction av with
  | nil => intro n i v h; simp at h
  | cons a t ih =>
    intro n i v h
    have ha : ¬ a.category = 2 := by rw [hc a List.mem_cons_self]; decide
    unfold lv_args
    rw [if_neg ha]
    cases i with
    | zero =>
      rw [List.getElem?_cons_zero] at h
      cases h
      exact List.mem_cons_self
    | succ i =>
      rw [List.getElem?_cons_succ] at h
      have := ih (fun v hv => hc v (List.mem_cons_of_mem _ hv)) (n + 1) i v h
      rw [show n + (i + 1) = n + 1 + i by omega]
      exact List.mem_cons_of_mem _ this
theorem gx_sl (av : List Value) (hc : ∀ v ∈ av, v.category = 1) : (lg_sl av).length = av.length := by
  induction av with
  | nil => rfl
  | cons a t ih =>
    have ha : ¬ a.category = 2 := by rw [hc a List.mem_cons_self]; decide
    have := ih (fun v hv => hc v (List.mem_cons_of_mem _ hv))
    unfold lg_sl at this ⊢
    rw [List.flatMap_cons, if_neg ha, List.length_append, this]
    simp; omega
/-- a method's contract out of its walk -/
theorem gx_Cn.of {S : gx_S} {M : gx_M} {n d : Nat} {av : List Value} {h : gx_H} {Q : Option Value → gx_H → Prop} (hM : gx_MT M n) (hc : ∀ v ∈ av, v.category = 1) (hl : av.length ≤ M.2.2.2.1) (k : gx_Ev S M d 0 (av.map some ++ List.replicate (M.2.2.2.1 - av.length) none) [] h (fun r h' => gx_rt M.2.2.2.2 r ∧ Q r h')) : gx_Cn S M d av h Q := by
  obtain ⟨r, h', ⟨hrt, hq⟩, hm, hk⟩ := k
  refine ⟨r, h', hq, hm, fun Z l => ?_⟩
  obtain ⟨m1, m2, m3, m4, m5, m6⟩ := hM
  refine Met.ofW (cc := M.2.2.1) (maxL := M.2.2.2.1) (ret := M.2.2.2.2) m5 rfl ?_
  intro p e s m args below meth c s₁ B hml hv
  obtain ⟨rfl, hrel, hkn⟩ := hv
  have hts0 := atoms_spec (ws := gx_ws M) B.pre
  have hts : ∀ w ∈ gx_Ts, w.before av.toArray s = true := fun w hw => hts0 w (List.mem_cons_of_mem _ hw)
  have hown : s.vm.findClass M.1 = some m.cls := m6 ▸ findClass_of_methodNamed B.named
  have hen := lv_entry av (n := M.2.2.2.1) (by rw [gx_sl av hc]; exact hl)
  have hlocks := B.notSynchronized
  have hx := B.exec
  have hb := B.bytes
  have hr := B.returns
  rw [lg_entry_eq]
  have hzero : W p l e (headSpec (gx_ws M) (gx_room d (h'.1 - h.1) (h'.2.1 - h.2.1))).room s m av.toArray below meth c s.heap [] (h.1 - h.1) (h.2.1 - h.2.1) (MQ below (gx_Qc Z S r h') av.toArray s (h'.1 - h.1) (h'.2.1 - h.2.1) (fun a => S.1 ≤ a)) (F0 m 0 ((lg_sl av ++ List.replicate (M.2.2.2.1 - (lg_sl av).length) Slot.unset).toArray) []) := by
    refine hk Z p l e _ s m av.toArray below meth c _ h.1 h.2.1 s.heap [] _ ⟨⟨hx, hb, hml, hown, hts, fun e9 => (name_of_methodNamed B.named B.method).1.trans e9, hkn⟩, Nat.le_refl _, Nat.le_refl _, Nat.le_refl _, Nat.le_refl _, ?_⟩ ⟨Nat.le_refl _, Nat.le_refl _⟩ hrel (fun q hq => by cases hq) ⟨⟨hen.1, hen.2.1, fun q hq => ?_⟩, ?_⟩
    · intro H' locs' ls' pc' hrel' hlocs' hri
      have hQ : ∀ t : State, t.heap = H' → s.WarmedH t.vm → gx_Qc Z S r h' av.toArray s (.returned r) t := fun t ht hW => ⟨rfl, by
        rw [ht]
        exact ⟨hrel'.1, hrel'.2.1, hrel'.2.2.1, hrel'.2.2.2.1, hrel'.2.2.2.2.moved hW.alike⟩⟩
      cases r with
      | none => exact W.vret hx hb (hr.trans hrt) hQ hlocs' hri
      | some v =>
        cases v with
        | int v =>
          obtain ⟨ty, t1, t2⟩ := hrt
          exact W.zret hx hb (hr.trans t1) t2 hQ hlocs' hri
        | long v => exact W.lret hx hb (hr.trans hrt) hQ hlocs' hri
        | ref v =>
          obtain ⟨n, t1⟩ := hrt
          exact W.aret hx hb (hr.trans t1) (Or.inl ⟨n, rfl⟩) (Or.inr ⟨v, rfl⟩) hQ hlocs' hri
        | null =>
          obtain ⟨n, t1⟩ := hrt
          exact W.aret hx hb (hr.trans t1) (Or.inl ⟨n, rfl⟩) (Or.inl rfl) hQ hlocs' hri
        | float v => exact hrt.elim
        | double v => exact hrt.elim
        | retAddr v => exact hrt.elim
    · obtain ⟨i, v⟩ := q
      rw [gx_mem] at hq
      refine hen.2.2 (i, v) ?_
      by_cases hi : i < av.length
      · rw [List.getElem?_append_left (by rw [List.length_map]; exact hi), List.getElem?_map] at hq
        have h1 : av[i]? = some v := by
          cases h2 : av[i]? with
          | none => rw [h2] at hq; cases hq
          | some w => rw [h2] at hq; cases hq; rfl
        have := gx_lv av hc 0 i v h1
        rwa [Nat.zero_add] at this
      · rw [List.getElem?_append_right (by rw [List.length_map]; omega)] at hq
        have := List.eq_of_mem_replicate (List.mem_of_getElem? hq)
        cases this
    · rw [List.length_append, List.length_map, List.length_replicate]; omega
  rw [Nat.sub_self, Nat.sub_self] at hzero
  exact hzero
section CA
variable {S : gx_S} {M : gx_M} {d pc : Nat} {L : List (Option Value)} {st : List Value} {h : gx_H} {Q : Option Value → gx_H → Prop}
theorem gx_pre {Z : gx_Z} {s : State} {H : Heap} {av : List Value} (hk : gx_Kn Z s) (r : gx_Rel Z S h s H) : PreS s H (gx_Pc Z S av h) av := by
  refine ⟨fun a U g mk q => ⟨q.1, ?_, ?_⟩, fun U hU hW => ⟨rfl, ?_, hk.moved hW⟩⟩
  · obtain ⟨r1, r2, r3, r4, r5⟩ := q.2.1
    exact ⟨r1, r2, r3, r4, r5.moved (u := U) (U := U.calling g mk a) (Vm.Alike.refl U.vm)⟩
  · exact gx_Kn.same (s := U) (U := U.calling g mk a) rfl q.2.2
  · rw [hU]
    exact ⟨r.1, r.2.1, r.2.2.1, r.2.2.2.1, r.2.2.2.2.moved hW.alike⟩
/-- what a call's run gives -/
theorem gx_after {M' : gx_M} {Z : gx_Z} {p : Program} {l : Launch} {e : Env} {R : Room} {s : State} {m : MethodId} {args : Array Value} {below : List Frame} {meth : Method} {c : Code} {Qw : State → Prop} {k1 k2 : Nat} {H : Heap} {locs : List Loc} {ls : Array Slot} {st0 rest : List Value} {av : Array Value} {r r1 : Option Value} {h' h1 : gx_H}
    (J : gx_J M d r h' Z S p l e R s m args below meth c Qw k1 k2) (a1 : k1 ≤ h.1 ∧ k2 ≤ h.2.1) (hm1 : h.1 ≤ h1.1 ∧ h.2.1 ≤ h1.2.1) (a3 : ∀ q ∈ locs, S.1 ≤ q.base)
    (hr : va_Run p l e R s m args below meth c H locs (h.1 - k1) (h.2.1 - k2) (h1.1 - h.1) (h1.2.1 - h.2.1) (F0 m pc ls st0) rest (gx_Qc Z S r1 h1 av) (fun a => S.1 ≤ a))
    (kk : ∀ (H1 : Heap) (locs1 : List Loc), gx_Rel Z S h1 s H1 → (∀ q ∈ locs1, S.1 ≤ q.base) → W p l e R s m args below meth c H1 locs1 (h1.1 - k1) (h1.2.1 - k2) Qw (F0 m (pc + 3) ls (r1.toList ++ rest))) : W p l e R s m args below meth c H locs (h.1 - k1) (h.2.1 - k2) Qw (F0 m pc ls st0) := by
  intro T hT X
  obtain ⟨v, st₀, t, T', L', h0, X', hL, e1, e2, ⟨hv, hrel⟩, hst⟩ := hr T hT X
  cases hv
  rw [show h.1 - k1 + (h1.1 - h.1) = h1.1 - k1 by omega, show h.2.1 - k2 + (h1.2.1 - h.2.1) = h1.2.1 - k2 by omega] at X'
  have hal : s.vm.Alike t.vm := by rw [← e2]; exact X'.warmed.alike
  obtain ⟨t2, b1, b2⟩ := kk T'.heap (locs ++ L') (by rw [e1]; exact ⟨hrel.1, hrel.2.1, hrel.2.2.1, hrel.2.2.2.1, hrel.2.2.2.2.moved hal.symm⟩) (fun q hq => by
    rcases List.mem_append.mp hq with h8 | h8
    · exact a3 q h8
    · exact hL q h8) T' rfl X'
  exact ⟨t2, hst t2 b1, b2⟩
theorem gx_cb {M' : gx_M} {n d' idx : Nat} {Z : gx_Z} {p : Program} {l : Launch} {e : Env} {R : Room} {s : State} {m : MethodId} {args : Array Value} {below : List Frame} {meth : Method} {c : Code} {Qw : State → Prop} {k1 k2 : Nat} {r : Option Value} {h' h1 : gx_H} (J : gx_J M d r h' Z S p l e R s m args below meth c Qw k1 k2) (hM : gx_MT M' n) (hml : Cond.methodLink M.1 idx M'.2.1 ∈ gx_Ts) (hdd : d' + 1 ≤ d) :
    CallB R s args M.1 idx M'.2.1 M'.2.2.1 M'.2.2.2.1 M'.2.2.2.2 (gx_ws M') (gx_room d' (h1.1 - h.1) (h1.2.1 - h.2.1)) (h1.1 - h.1) (h1.2.1 - h.2.1) n := by
  obtain ⟨m1, m2, m3, m4, m5, m6⟩ := hM
  have hts := J.1.2.2.2.2.1
  have hf := J.2.1
  have hlo := J.2.2.1
  refine callB_of n hts (gx_in fun w hw => ?_) rfl rfl rfl (hts _ m2) (hts _ hml) m3 ⟨?_, ?_⟩
  · rcases List.mem_cons.mp hw with rfl | h9
    · exact m1
    · exact h9
  · show d' + 1 ≤ R.frames
    omega
  · show 8 + (M'.2.2.2.1 + 11) + 34 * d' ≤ R.locals
    omega
theorem gx_invS {M' : gx_M} {n d' idx : Nat} {As rest : List Value} {Q' : Option Value → gx_H → Prop} (hd : decode M.2.2.1 pc = .ok (.invokestatic idx, 3)) (hml : Cond.methodLink M.1 idx M'.2.1 ∈ gx_Ts) (hM : gx_MT M' n) (hsx : Cond.static M'.2.1 ∈ gx_Ts) (hn : As.length = n) (hst : st = As.reverse ++ rest) (hw : (rest.map fun v => v.category).sum ≤ 8) (hdd : d' + 1 ≤ d) (ct : gx_Cn S M' d' As h Q') (kk : ∀ r1 h1, Q' r1 h1 → gx_Ev S M d (pc + 3) L (r1.toList ++ rest) h1 Q) : gx_Ev S M d pc L st h Q := by
  obtain ⟨r1, h1, hq1, hm1, hC⟩ := ct
  obtain ⟨r, h', hq, hm, hk⟩ := kk r1 h1 hq1
  refine ⟨r, h', hq, ⟨by omega, by omega⟩, fun Z p l e R s m args below meth c Qw k1 k2 H locs ls J a1 a2 a3 a4 => ?_⟩
  have rc := J.2.2.2.1
  have rs := J.2.2.2.2.1
  refine gx_after (M' := M') J a1 hm1 a3 (va_runS (As := As) (rest := rest) ⟨J.1.1, J.1.2.1, J.1.2.2.1, J.1.2.2.2.1, J.1.2.2.2.2.1⟩ (hC Z l) ⟨gx_cb J hM hml hdd, J.1.2.2.2.2.1 _ hsx⟩ (gx_pre J.1.2.2.2.2.2.2 a2) rfl hn a4.1.1 hst (by show 2 * 0 + _ ≤ 8; omega) hd ⟨by omega, by omega⟩) (fun H1 locs1 g1 g2 => ?_)
  exact hk Z p l e R s m args below meth c Qw k1 k2 H1 locs1 ls J ⟨by omega, by omega⟩ g1 g2 a4
theorem gx_invI {M' : gx_M} {n d' idx b : Nat} {As rest : List Value} {Q' : Option Value → gx_H → Prop} (hd : decode M.2.2.1 pc = .ok (.invokespecial idx, 3)) (hml : Cond.methodLink M.1 idx M'.2.1 ∈ gx_Ts) (hM : gx_MT M' n) (hret : M'.2.2.2.2 = none) (hi : M'.2.1.name = "<init>") (hsx : Cond.instanceMethod M'.2.1 ∈ gx_Ts) (hn : As.length = n) (hst : st = As.reverse ++ .ref b :: rest) (hw : (rest.map fun v => v.category).sum ≤ 8) (hdd : d' + 1 ≤ d) (ct : gx_Cn S M' d' (.ref b :: As) h Q') (kk : ∀ r1 h1, Q' r1 h1 → gx_Ev S M d (pc + 3) L (r1.toList ++ rest) h1 Q) : gx_Ev S M d pc L st h Q := by
  obtain ⟨r1, h1, hq1, hm1, hC⟩ := ct
  obtain ⟨r, h', hq, hm, hk⟩ := kk r1 h1 hq1
  refine ⟨r, h', hq, ⟨by omega, by omega⟩, fun Z p l e R s m args below meth c Qw k1 k2 H locs ls J a1 a2 a3 a4 => ?_⟩
  have rc := J.2.2.2.1
  have rs := J.2.2.2.2.1
  have cb := gx_cb (h := h) (h1 := h1) J hM hml hdd
  rw [hret] at cb
  refine gx_after (M' := M') J a1 hm1 a3 (va_runI (As := As) (rest := rest) ⟨J.1.1, J.1.2.1, J.1.2.2.1, J.1.2.2.2.1, J.1.2.2.2.2.1⟩ (hC Z l) ⟨cb, hi, J.1.2.2.2.2.1 _ hsx⟩ (gx_pre J.1.2.2.2.2.2.2 a2) rfl hn a4.1.1 hst (by show 2 * 0 + _ ≤ 8; omega) hd ⟨by omega, by omega⟩) (fun H1 locs1 g1 g2 => ?_)
  exact hk Z p l e R s m args below meth c Qw k1 k2 H1 locs1 ls J ⟨by omega, by omega⟩ g1 g2 a4
theorem gx_invV {M' : gx_M} {n d' idx b ci : Nat} {fs : List Value} {rcl : vw_C} {As rest : List Value} {Q' : Option Value → gx_H → Prop} (hd : decode M.2.2.1 pc = .ok (.invokevirtual idx, 3)) (hml : Cond.methodLink M.1 idx M'.2.1 ∈ gx_Ts) (hM : gx_MT M' n) (hsx : Cond.instanceMethod M'.2.1 ∈ gx_Ts) (hse : Cond.selects M'.1 M'.2.1 M'.2.1 ∈ gx_Ts) (hcl : vwCl[ci]? = some rcl) (hcn : rcl.1 = M'.1) (hb : h.2.2 b = some (gx_ob ci fs)) (hn : As.length = n) (hst : st = As.reverse ++ .ref b :: rest) (hw : (rest.map fun v => v.category).sum ≤ 8) (hdd : d' + 1 ≤ d) (ct : gx_Cn S M' d' (.ref b :: As) h Q') (kk : ∀ r1 h1, Q' r1 h1 → gx_Ev S M d (pc + 3) L (r1.toList ++ rest) h1 Q) : gx_Ev S M d pc L st h Q := by
  obtain ⟨r1, h1, hq1, hm1, hC⟩ := ct
  obtain ⟨r, h', hq, hm, hk⟩ := kk r1 h1 hq1
  refine ⟨r, h', hq, ⟨by omega, by omega⟩, fun Z p l e R s m args below meth c Qw k1 k2 H locs ls J a1 a2 a3 a4 => ?_⟩
  have rc := J.2.2.2.1
  have rs := J.2.2.2.2.1
  have hts := J.1.2.2.2.2.1
  have pre := gx_pre (av := .ref b :: As) J.1.2.2.2.2.2.2 a2
  have hrv := va_recv J.1.2.2.2.2.2.2.1 (gx_one a2 hb) hcl (q0 := 0) rfl
  rw [hcn] at hrv
  refine gx_after (M' := M') J a1 hm1 a3 (va_runV (C := M'.1) (As := As) (rest := rest) ⟨J.1.1, J.1.2.1, J.1.2.2.1, J.1.2.2.2.1, J.1.2.2.2.2.1⟩ (hC Z l) ⟨gx_cb J hM hml hdd, hts _ hsx, hts _ hse⟩ ⟨pre.1, hrv, pre.2⟩ rfl hn a4.1.1 hst (by show 2 * 0 + _ ≤ 8; omega) hd ⟨by omega, by omega⟩) (fun H1 locs1 g1 g2 => ?_)
  exact hk Z p l e R s m args below meth c Qw k1 k2 H1 locs1 ls J ⟨by omega, by omega⟩ g1 g2 a4
/-- the one constructor that is private to a nest mate -/
theorem gx_invN {d' : Nat} {b : Nat} {rest : List Value} {Q' : Option Value → gx_H → Prop} (hMown : M.1 = RX5) (hd : decode M.2.2.1 pc = .ok (.invokespecial 24, 3)) (hM : gx_MT (RX0, yX0_init, cX0_init, 1, none) 0) (hst : st = .ref b :: rest) (hw : (rest.map fun v => v.category).sum ≤ 8) (hdd : d' + 1 ≤ d) (ct : gx_Cn S (RX0, yX0_init, cX0_init, 1, none) d' [.ref b] h Q') (kk : ∀ r1 h1, Q' r1 h1 → gx_Ev S M d (pc + 3) L (r1.toList ++ rest) h1 Q) : gx_Ev S M d pc L st h Q := by
  obtain ⟨r1, h1, hq1, hm1, hC⟩ := ct
  obtain ⟨r, h', hq, hm, hk⟩ := kk r1 h1 hq1
  refine ⟨r, h', hq, ⟨by omega, by omega⟩, fun Z p l e R s m args below meth c Qw k1 k2 H locs ls J a1 a2 a3 a4 => ?_⟩
  have rc := J.2.2.2.1
  have rs := J.2.2.2.2.1
  have hts := J.1.2.2.2.2.1
  have hf := J.2.1
  have hlo := J.2.2.1
  have hown := J.1.2.2.2.1
  rw [hMown] at hown
  obtain ⟨m1, m2, m3, m4, m5, m6⟩ := hM
  have cb : va_CN R s args RX5 24 yX0_init RX5 cX0_init 1 none (gx_ws (RX0, yX0_init, cX0_init, 1, none)) (gx_room d' (h1.1 - h.1) (h1.2.1 - h.2.1)) (h1.1 - h.1) (h1.2.1 - h.2.1) 0 := by
    refine va_cnB 0 hts (gx_in fun w hw => ?_) rfl rfl rfl J.1.2.2.2.2.2.2.2.2 (hts _ m2) m3 ⟨?_, ?_⟩
    · rcases List.mem_cons.mp hw with rfl | h9
      · exact m1
      · exact h9
    · show d' + 1 ≤ R.frames
      omega
    · show 8 + (1 + 11) + 34 * d' ≤ R.locals
      omega
  refine gx_after (M' := (RX0, yX0_init, cX0_init, 1, none)) J a1 hm1 a3 (va_runIN (As := []) (rest := rest) ⟨J.1.1, J.1.2.1, J.1.2.2.1, hown, hts⟩ (hC Z l) ⟨cb, rfl, hts _ wy_X0_init⟩ (gx_pre J.1.2.2.2.2.2.2 a2) rfl rfl a4.1.1 hst (by show 2 * 0 + _ ≤ 8; omega) hd ⟨by omega, by omega⟩) (fun H1 locs1 g1 g2 => ?_)
  exact hk Z p l e R s m args below meth c Qw k1 k2 H1 locs1 ls J ⟨by omega, by omega⟩ g1 g2 a4
theorem gx_objI {idx a : Nat} {rest : List Value} (hd : decode M.2.2.1 pc = .ok (.invokespecial idx, 3)) (hml : Cond.methodLink M.1 idx objectInit ∈ gx_Ts) (hw : (rest.map fun v => v.category).sum ≤ 8) (hdd : 1 ≤ d) (kk : gx_Ev S M d (pc + 3) L rest h Q) : gx_Ev S M d pc L (.ref a :: rest) h Q := by
  obtain ⟨r, h', hq, hm, hk⟩ := kk
  refine ⟨r, h', hq, hm, fun Z p l e R s m args below meth c Qw k1 k2 H locs ls J a1 a2 a3 a4 => ?_⟩
  have hts := J.1.2.2.2.2.1
  have hf := J.2.1
  have hlo := J.2.2.1
  exact W.objInit J.1.1 J.1.2.1 J.1.2.2.2.1 (hts _ hml) (hts _ wy_O) (hts _ wk_O) rfl (a4.1.1.trans J.1.2.2.1.symm) rfl hd (by omega) (by show 2 * 0 + _ + 12 ≤ _; omega) (hk Z p l e R s m args below meth c Qw k1 k2 H locs ls J a1 a2 a3 a4)
end CA
end
section
/-! the script -/
section SC
variable {S : gx_S} {M : gx_M} {d pc : Nat} {L : List (Option Value)} {st : List Value} {h : gx_H} {Q : Option Value → gx_H → Prop}
theorem gx_sld {i x : Int32} (hd : decode M.2.2.1 pc = .ok (.iaload, 1)) (hin : vp_in i S.2.2.1) (hx : S.2.2.2 i.toNatClampNeg = x) (kk : gx_Ev S M d (pc + 1) L (.int x :: st) h Q) : gx_Ev S M d pc L (.int i :: .ref S.2.1 :: st) h Q := by
  subst hx
  obtain ⟨r, h', hq, hm, hk⟩ := kk
  refine ⟨r, h', hq, hm, fun Z p l e R s m args below meth c Qw k1 k2 H locs ls J a1 a2 a3 a4 => ?_⟩
  obtain ⟨scr, h1, h2, h3, h4, h5⟩ := a2.2.2.2.2
  have hlt : i.toNatClampNeg < S.2.2.1 := Nat.not_le.mp fun q => hin (Or.inr q)
  exact W.iald (v := .int (S.2.2.2 i.toNatClampNeg)) J.1.1 J.1.2.1 h1 h2 h3 (by rw [h4]; exact hin) (h5 _ hlt) rfl rfl hd (hk Z p l e R s m args below meth c Qw k1 k2 H locs ls J a1 a2 a3 a4)
theorem gx_slen (hd : decode M.2.2.1 pc = .ok (.arraylength, 1)) (kk : gx_Ev S M d (pc + 1) L (.int (Int32.ofNat S.2.2.1) :: st) h Q) : gx_Ev S M d pc L (.ref S.2.1 :: st) h Q := by
  obtain ⟨r, h', hq, hm, hk⟩ := kk
  refine ⟨r, h', hq, hm, fun Z p l e R s m args below meth c Qw k1 k2 H locs ls J a1 a2 a3 a4 => ?_⟩
  obtain ⟨scr, h1, h2, h3, h4, h5⟩ := a2.2.2.2.2
  exact W.alen (n := Int32.ofNat S.2.2.1) J.1.1 J.1.2.1 h1 h2 (by rw [h4] <;> rfl) rfl rfl hd (hk Z p l e R s m args below meth c Qw k1 k2 H locs ls J a1 a2 a3 a4)
end SC
/-! Math.max, Math.min -/
theorem wk_mmax : Cond.code Lib.Math.max.name Lib.Math.max.code 2 (some .int) ∈ gx_Ts := wk_J9_max_7cf53
theorem wk_mmin : Cond.code Lib.Math.min.name Lib.Math.min.code 2 (some .int) ∈ gx_Ts := wk_J9_min_7cf53
section MX
variable {S : gx_S} {M : gx_M} {d pc : Nat} {L : List (Option Value)} {st : List Value} {h : gx_H} {Q : Option Value → gx_H → Prop}
theorem gx_mmax {idx : Nat} {x y : Int32} (hd : decode M.2.2.1 pc = .ok (.invokestatic idx, 3)) (hml : Cond.methodLink M.1 idx yJ9_max_7cf53 ∈ gx_Ts) (hw : (st.map fun v => v.category).sum ≤ 8) (hdd : 1 ≤ d) (kk : gx_Ev S M d (pc + 3) L (.int (if x < y then y else x) :: st) h Q) : gx_Ev S M d pc L (.int y :: .int x :: st) h Q := by
  obtain ⟨r, h', hq, hm, hk⟩ := kk
  refine ⟨r, h', hq, hm, fun Z p l e R s m args below meth c Qw k1 k2 H locs ls J a1 a2 a3 a4 => ?_⟩
  have hts := J.1.2.2.2.2.1
  have hf := J.2.1
  have hlo := J.2.2.1
  have rc := J.2.2.2.1
  have rs := J.2.2.2.2.1
  exact va_mmax J.1.1 J.1.2.1 (J.1.2.2.1.trans a4.1.1.symm) J.1.2.2.2.1 (hts _ hml) (hts _ ws_J9_max_7cf53) (hts _ wi_J9) (hts _ wk_mmax) (by omega) (by omega) (by omega) (by omega) hd (hk Z p l e R s m args below meth c Qw k1 k2 H locs ls J a1 a2 a3 a4)
theorem gx_mmin {idx : Nat} {x y : Int32} (hd : decode M.2.2.1 pc = .ok (.invokestatic idx, 3)) (hml : Cond.methodLink M.1 idx yJ9_min_7cf53 ∈ gx_Ts) (hw : (st.map fun v => v.category).sum ≤ 8) (hdd : 1 ≤ d) (kk : gx_Ev S M d (pc + 3) L (.int (if y < x then y else x) :: st) h Q) : gx_Ev S M d pc L (.int y :: .int x :: st) h Q := by
  obtain ⟨r, h', hq, hm, hk⟩ := kk
  refine ⟨r, h', hq, hm, fun Z p l e R s m args below meth c Qw k1 k2 H locs ls J a1 a2 a3 a4 => ?_⟩
  have hts := J.1.2.2.2.2.1
  have hf := J.2.1
  have hlo := J.2.2.1
  have rc := J.2.2.2.1
  have rs := J.2.2.2.2.1
  exact va_mmin J.1.1 J.1.2.1 (J.1.2.2.1.trans a4.1.1.symm) J.1.2.2.2.1 (hts _ hml) (hts _ ws_J9_min_7cf53) (hts _ wi_J9) (hts _ wk_mmin) (by omega) (by omega) (by omega) (by omega) hd (hk Z p l e R s m args below meth c Qw k1 k2 H locs ls J a1 a2 a3 a4)
end MX
end
section

/-! THE CLAIM OUT OF ONE WALK OF THE LAW'S BODY. Your part is whole_start (and what it stands on); all else here is the same for every law, but numbers. -/
def R_law : String := "GroupOrderLaw"
def lw_P (b : Addr) (xs : List Int32) (args : Array Value) (s : State) : Prop := args = #[.ref b] ∧ s.IntsAt b xs ∧ xs.length ≤ 3073 ∧ (Jvm.Cond.and given_1 narrow_1).before args s = true
def lw_Q (_ : Array Value) (s : State) (o : Outcome) (t : State) : Prop := o = .returned (some (.int 1)) ∧ Framed s o t [] 600000 7302250
def lw_Z (below : List Frame) (a : Array Value) (s : State) : State → Prop := fun t => ∃ o, t.status = .running ∧ Ended t below o ∧ lw_Q a s o t
/-- the law's own end, with 1 on the stack, nothing written that was there before, its room as the claim has it -/
theorem lw_ret {p : Program} {l : Launch} {e : Env} {s : State} {m : MethodId} {below : List Frame} {meth : Method} {c : Code} {b : Nat} (hx : p.tables.exec = Jvm.exec) (hb : c.code = code) (hr : meth.sig.returnType = ret) (hlocks : meth.locks = false) {pc : Nat} {H : Heap} {ls : Array Slot} (hdg : decode code pc = .ok (.ireturn, 1)) : W p l e room_1 s m #[Value.ref b] below meth c H [] 600000 7302250 (lw_Z below #[Value.ref b] s) (F0 m pc ls [.int 1]) := by
  intro T hT X
  obtain ⟨fs, hret, hrun, hended, hW, hframe⟩ := X.leave (v := some (.int 1)) (hlocks := hlocks) (fun h => by rw [hr] at h; cases h)
  have hmeth' : T.vm.method? m = some meth := X.method'
  refine ⟨T.setFrames fs, ?_, .returned (some (.int 1)), hrun, hended, rfl, ⟨_, rfl⟩, hW, hframe⟩
  jvm_step X.here [X.here.top, hx, hb, hdg, hmeth', hr, ret, narrow_b1]
  (try refine ⟨rfl, ?_⟩); (try refine ⟨rfl, ?_⟩)
  first | (intro acts; rw [hret _ acts rfl rfl rfl]) | rw [hret _ _ rfl rfl rfl]
  exact Steps.refl _
/-- what holds at the law's entry: the machine, the code, the tables' words (any of lw_tbl by 'hts w (by decide +kernel)'), the script of L ints xs at the cell b, what the Statement gives of the start (any of its parts by flat_of_before) -/
def lw_At (p : Program) (s : State) (m : MethodId) (meth : Method) (c : Code) (b L : Nat) (xs : Nat → Int32) : Prop :=
  p.tables.exec = Jvm.exec ∧ c.code = code ∧ meth.sig.returnType = ret ∧ c.maxLocals = 4 ∧ s.vm.findClass R_law = some m.cls ∧ (∀ w ∈ lw_tbl, w.before #[Value.ref b] s = true) ∧ va_X b L xs s s.heap ∧ b < s.heap.size ∧ meth.locks = false ∧ (Jvm.Cond.and given_1 narrow_1).before #[Value.ref b] s = true

abbrev gm_L_law : gx_M := (RL, yL_law, cL_law, 4, some .boolean)
def gl_h0 (base : Nat) : gx_H := (base, 0, fun _ => none)
/-- what the walk of the law owes -/
def gl_Law : Prop := ∀ (S : gx_S), S.2.2.1 ≤ 3073 → gx_Ev S gm_L_law 9 0 [some (.ref S.2.1), none, none, none] [] (gl_h0 S.1) (fun r h' => r = some (.int 1) ∧ h'.1 ≤ S.1 + 600000 ∧ h'.2.1 ≤ 7302250)
theorem gl_class {s : State} {args : Array Value} (hts : ∀ w ∈ gx_Ts, w.before args s = true) : ∀ c : Nat, ∃ x : ClassId × (Nat → Nat), ∀ q, vwCl[c]? = some q → u_Kn s q.1 q.2.1 q.2.2 x.1 x.2 := by
  intro c
  have key : ∀ {C : String} {T : u_T} {N n : Nat}, vwCl[c]? = some (C, T, N) → (∀ w ∈ u_ws C T N, w ∈ gx_Ts) → Cond.instantiable C n ∈ gx_Ts → ∃ x : ClassId × (Nat → Nat), ∀ q, vwCl[c]? = some q → u_Kn s q.1 q.2.1 q.2.2 x.1 x.2 := by
    intro C T N n h1 h2 h3
    obtain ⟨cC, iS, h⟩ := u_known hts h2 (hts _ h3)
    refine ⟨(cC, iS), fun q hq => ?_⟩
    cases h1.symm.trans hq
    exact h
  rcases c with _ | _ | _ | _ | _ | _ | _ | c
  · exact key rfl wx_X0 wn_X0
  · exact key rfl wx_X1 wn_X1
  · exact key rfl wx_X2 wn_X2
  · exact key rfl wx_X3 wn_X3
  · exact key rfl wx_X4 wn_X4
  · exact key rfl wx_X5 wn_X5
  · exact key rfl wx_X6 wn_X6
  · exact ⟨(0, fun _ => 0), fun q hq => by cases hq⟩
theorem gl_arr {s : State} {args : Array Value} {ty : FieldType} (hp : ty = .int ∨ ty = .boolean) (h : (Cond.arrayClass ty).before args s = true) : ∃ cA : ClassId, ArrOfT s cA ty ∧ va_RA s cA ty := by
  obtain ⟨c, k, comp, h1, h2, h3⟩ := Cond.arrayClass_spec h
  refine ⟨c, fun n z => ⟨fun k h => (by cases h), k, h2, comp, h3⟩, ?_⟩
  rcases hp with rfl | rfl
  · exact h1
  · exact h1
theorem gl_arrO {s : State} {args : Array Value} {C : String} (h : (Cond.arrayOver (.object C)).before args s = true) : ∃ cA : ClassId, ArrOfT s cA (.object C) ∧ va_RA s cA (.object C) := by
  obtain ⟨comp, c, k, h1, h2, h3, h4, h5⟩ := Cond.arrayOver_spec h
  exact ⟨c, fun n z => ⟨fun k h => (by cases h), k, h3, comp, h4⟩, k, comp, h3, h4, h1, h5⟩
theorem gl_known {s : State} {args : Array Value} (ht : ∀ w ∈ lw_tbl, w.before args s = true) : ∃ Z : gx_Z, gx_Kn Z s := by
  have hts : ∀ w ∈ gx_Ts, w.before args s = true := fun w hw => ht w (List.mem_filter.mp hw).1
  obtain ⟨f, hf⟩ := Classical.axiomOfChoice (gl_class hts)
  obtain ⟨c0, a0⟩ := gl_arr (Or.inl rfl) (hts _ wa_int)
  obtain ⟨c1, a1⟩ := gl_arr (Or.inr rfl) (hts _ wa_boolean)
  obtain ⟨c2, a2⟩ := gl_arrO (ht _ wo_X1)
  obtain ⟨c3, a3⟩ := gl_arrO (ht _ wo_X2)
  obtain ⟨c4, a4⟩ := gl_arrO (ht _ wo_X3)
  obtain ⟨c5, a5⟩ := gl_arrO (ht _ wo_X4)
  refine ⟨(fun c => (f c).1, fun c => (f c).2, fun t => match t with | 0 => c0 | 1 => c1 | 2 => c2 | 3 => c3 | 4 => c4 | _ => c5), ⟨fun c q hq => hf c q hq, fun k q hk => ?_⟩, ⟨va_AO.of (ht _ wo_X1), va_AO.of (ht _ wo_X2), va_AO.of (ht _ wo_X3), va_AO.of (ht _ wo_X4)⟩, va_Nw.of rfl (ht _ wq_nest)⟩
  rcases k with _ | _ | _ | _ | _ | _ | k
  · cases hk; exact a0
  · cases hk; exact a1
  · cases hk; exact a2
  · cases hk; exact a3
  · cases hk; exact a4
  · cases hk; exact a5
  · cases hk
theorem gl_start (law : gl_Law) {p : Program} {e : Env} {s : State} {m : MethodId} {below : List Frame} {meth : Method} {c : Code} (l : Launch) {b L : Nat} {xs : Nat → Int32} (hL : L ≤ 3073) (C0 : lw_At p s m meth c b L xs) : W p l e room_1 s m #[Value.ref b] below meth c s.heap [] 0 0 (lw_Z below #[Value.ref b] s) (entryFrame m ([Value.ref b] : List Value).toArray 4) := by
  obtain ⟨hx, hb, hr, hml, hown, ht, hX, hbl, hlocks, -⟩ := C0
  have hts : ∀ w ∈ gx_Ts, w.before #[Value.ref b] s = true := fun w hw => ht w (List.mem_filter.mp hw).1
  obtain ⟨Z, hZ⟩ := gl_known ht
  obtain ⟨r, h', ⟨rfl, hc1, hc2⟩, hm, hk⟩ := law (s.heap.size, b, L, xs) hL
  have hen := lv_entry ([.ref b]) (n := 4) (Nat.le_of_ble_eq_true rfl)
  rw [lg_entry_eq]
  have hW := hk Z p l e room_1 s m #[Value.ref b] below meth c (lw_Z below #[Value.ref b] s) s.heap.size 0 s.heap [] _ ⟨⟨hx, hb, hml, hown, hts, fun e9 => absurd e9 (by decide), hZ⟩, Nat.le_refl _, by decide, by show h'.1 - s.heap.size ≤ 600000; have : h'.1 ≤ s.heap.size + 600000 := hc1; omega, by show h'.2.1 - 0 ≤ 7302250; omega, ?_⟩ ⟨Nat.le_refl _, Nat.le_refl _⟩ ⟨rfl, Nat.le_refl _, (fun a e9 h9 => nomatch h9), hbl, hX⟩ (fun q hq => by cases hq) ⟨⟨hen.1, hen.2.1, fun q hq => ?_⟩, Nat.le_refl 4⟩
  · rw [show (gl_h0 s.heap.size).1 - s.heap.size = 0 from Nat.sub_self _, show (gl_h0 s.heap.size).2.1 - 0 = 0 from rfl] at hW
    exact hW
  · intro H' locs' ls' pc' hrel hlocs hri
    refine va_forget (fun q hq => hlocs q hq) ?_
    refine W.widen (k := 600000) (n := 7302250) (by have : h'.1 ≤ s.heap.size + 600000 := hc1; omega) (by omega) ?_
    exact lw_ret hx hb hr hlocks hri
  · obtain ⟨i, v⟩ := q
    rw [gx_mem] at hq
    rcases i with _ | _ | _ | _ | i
    · cases hq
      exact hen.2.2 (0, .ref b) List.mem_cons_self
    · cases hq
    · cases hq
    · cases hq
    · cases hq
end
section
/-! classes, fields, methods -/
theorem gk_X0 : gx_Cls 0 RX0 TX0 2 tyX0 := ⟨rfl, wx_X0, tyX0_ok, nmX0⟩
theorem gk_X1 : gx_Cls 1 RX1 TX1 7 tyX1 := ⟨rfl, wx_X1, tyX1_ok, nmX1⟩
theorem gk_X2 : gx_Cls 2 RX2 TX2 4 tyX2 := ⟨rfl, wx_X2, tyX2_ok, nmX2⟩
theorem gk_X3 : gx_Cls 3 RX3 TX3 10 tyX3 := ⟨rfl, wx_X3, tyX3_ok, nmX3⟩
theorem gk_X4 : gx_Cls 4 RX4 TX4 11 tyX4 := ⟨rfl, wx_X4, tyX4_ok, nmX4⟩
theorem gk_X5 : gx_Cls 5 RX5 TX5 9 tyX5 := ⟨rfl, wx_X5, tyX5_ok, nmX5⟩
theorem gk_X6 : gx_Cls 6 RX6 TX6 34 tyX6 := ⟨rfl, wx_X6, tyX6_ok, nmX6⟩
theorem gf_X0_11 : gx_FL RX0 11 0 0 (.array (.object "GroupOrder$Message")) true := ⟨RX0, TX0, 2, tyX0, gk_X0, by decide, rfl, rfl, rfl, wf_X0_11⟩
theorem gf_X5_103 : gx_FL RX5 103 0 0 (.array (.object "GroupOrder$Message")) true := ⟨RX0, TX0, 2, tyX0, gk_X0, by decide, rfl, rfl, rfl, wf_X5_103⟩
theorem gf_X0_17 : gx_FL RX0 17 0 1 (.int) false := ⟨RX0, TX0, 2, tyX0, gk_X0, by decide, rfl, rfl, rfl, wf_X0_17⟩
theorem gf_X5_131 : gx_FL RX5 131 0 1 (.int) false := ⟨RX0, TX0, 2, tyX0, gk_X0, by decide, rfl, rfl, rfl, wf_X5_131⟩
theorem gf_X1_24 : gx_FL RX1 24 1 0 (.int) true := ⟨RX1, TX1, 7, tyX1, gk_X1, by decide, rfl, rfl, rfl, wf_X1_24⟩
theorem gf_X5_208 : gx_FL RX5 208 1 0 (.int) true := ⟨RX1, TX1, 7, tyX1, gk_X1, by decide, rfl, rfl, rfl, wf_X5_208⟩
theorem gf_X1_9 : gx_FL RX1 9 1 1 (.boolean) false := ⟨RX1, TX1, 7, tyX1, gk_X1, by decide, rfl, rfl, rfl, wf_X1_9⟩
theorem gf_X5_96 : gx_FL RX5 96 1 1 (.boolean) false := ⟨RX1, TX1, 7, tyX1, gk_X1, by decide, rfl, rfl, rfl, wf_X5_96⟩
theorem gf_X1_34 : gx_FL RX1 34 1 2 (.int) false := ⟨RX1, TX1, 7, tyX1, gk_X1, by decide, rfl, rfl, rfl, wf_X1_34⟩
theorem gf_X5_168 : gx_FL RX5 168 1 2 (.int) false := ⟨RX1, TX1, 7, tyX1, gk_X1, by decide, rfl, rfl, rfl, wf_X5_168⟩
theorem gf_X1_17 : gx_FL RX1 17 1 3 (.array (.object "GroupOrder$Part")) true := ⟨RX1, TX1, 7, tyX1, gk_X1, by decide, rfl, rfl, rfl, wf_X1_17⟩
theorem gf_X5_153 : gx_FL RX5 153 1 3 (.array (.object "GroupOrder$Part")) true := ⟨RX1, TX1, 7, tyX1, gk_X1, by decide, rfl, rfl, rfl, wf_X5_153⟩
theorem gf_X1_21 : gx_FL RX1 21 1 4 (.array (.object "GroupOrder$Part")) true := ⟨RX1, TX1, 7, tyX1, gk_X1, by decide, rfl, rfl, rfl, wf_X1_21⟩
theorem gf_X5_137 : gx_FL RX5 137 1 4 (.array (.object "GroupOrder$Part")) true := ⟨RX1, TX1, 7, tyX1, gk_X1, by decide, rfl, rfl, rfl, wf_X5_137⟩
theorem gf_X1_63 : gx_FL RX1 63 1 5 (.int) false := ⟨RX1, TX1, 7, tyX1, gk_X1, by decide, rfl, rfl, rfl, wf_X1_63⟩
theorem gf_X5_134 : gx_FL RX5 134 1 5 (.int) false := ⟨RX1, TX1, 7, tyX1, gk_X1, by decide, rfl, rfl, rfl, wf_X5_134⟩
theorem gf_X5_253 : gx_FL RX5 253 1 6 (.int) false := ⟨RX1, TX1, 7, tyX1, gk_X1, by decide, rfl, rfl, rfl, wf_X5_253⟩
theorem gf_X5_46 : gx_FL RX5 46 5 0 (.array (.object "GroupOrder$Group")) true := ⟨RX5, TX5, 9, tyX5, gk_X5, by decide, rfl, rfl, rfl, wf_X5_46⟩
theorem gf_X5_9 : gx_FL RX5 9 5 1 (.array (.int)) true := ⟨RX5, TX5, 9, tyX5, gk_X5, by decide, rfl, rfl, rfl, wf_X5_9⟩
theorem gf_X5_13 : gx_FL RX5 13 5 2 (.array (.int)) true := ⟨RX5, TX5, 9, tyX5, gk_X5, by decide, rfl, rfl, rfl, wf_X5_13⟩
theorem gf_X5_18 : gx_FL RX5 18 5 3 (.array (.object "GroupOrder$Order")) true := ⟨RX5, TX5, 9, tyX5, gk_X5, by decide, rfl, rfl, rfl, wf_X5_18⟩
theorem gf_X5_25 : gx_FL RX5 25 5 4 (.object "GroupOrder$Flights") true := ⟨RX5, TX5, 9, tyX5, gk_X5, by decide, rfl, rfl, rfl, wf_X5_25⟩
theorem gf_X5_59 : gx_FL RX5 59 5 5 (.int) false := ⟨RX5, TX5, 9, tyX5, gk_X5, by decide, rfl, rfl, rfl, wf_X5_59⟩
theorem gf_X5_184 : gx_FL RX5 184 5 6 (.int) false := ⟨RX5, TX5, 9, tyX5, gk_X5, by decide, rfl, rfl, rfl, wf_X5_184⟩
theorem gf_X5_29 : gx_FL RX5 29 5 7 (.array (.int)) true := ⟨RX5, TX5, 9, tyX5, gk_X5, by decide, rfl, rfl, rfl, wf_X5_29⟩
theorem gf_X5_32 : gx_FL RX5 32 5 8 (.array (.int)) true := ⟨RX5, TX5, 9, tyX5, gk_X5, by decide, rfl, rfl, rfl, wf_X5_32⟩
theorem gf_X3_9 : gx_FL RX3 9 3 0 (.int) true := ⟨RX3, TX3, 10, tyX3, gk_X3, by decide, rfl, rfl, rfl, wf_X3_9⟩
theorem gf_X1_31 : gx_FL RX1 31 3 0 (.int) true := ⟨RX3, TX3, 10, tyX3, gk_X3, by decide, rfl, rfl, rfl, wf_X1_31⟩
theorem gf_X5_85 : gx_FL RX5 85 3 0 (.int) true := ⟨RX3, TX3, 10, tyX3, gk_X3, by decide, rfl, rfl, rfl, wf_X5_85⟩
theorem gf_X4_46 : gx_FL RX4 46 3 0 (.int) true := ⟨RX3, TX3, 10, tyX3, gk_X3, by decide, rfl, rfl, rfl, wf_X4_46⟩
theorem gf_X3_15 : gx_FL RX3 15 3 1 (.int) true := ⟨RX3, TX3, 10, tyX3, gk_X3, by decide, rfl, rfl, rfl, wf_X3_15⟩
theorem gf_X5_195 : gx_FL RX5 195 3 1 (.int) true := ⟨RX3, TX3, 10, tyX3, gk_X3, by decide, rfl, rfl, rfl, wf_X5_195⟩
theorem gf_X3_18 : gx_FL RX3 18 3 2 (.int) true := ⟨RX3, TX3, 10, tyX3, gk_X3, by decide, rfl, rfl, rfl, wf_X3_18⟩
theorem gf_X3_21 : gx_FL RX3 21 3 3 (.int) true := ⟨RX3, TX3, 10, tyX3, gk_X3, by decide, rfl, rfl, rfl, wf_X3_21⟩
theorem gf_X5_198 : gx_FL RX5 198 3 3 (.int) true := ⟨RX3, TX3, 10, tyX3, gk_X3, by decide, rfl, rfl, rfl, wf_X5_198⟩
theorem gf_X3_24 : gx_FL RX3 24 3 4 (.int) true := ⟨RX3, TX3, 10, tyX3, gk_X3, by decide, rfl, rfl, rfl, wf_X3_24⟩
theorem gf_X5_205 : gx_FL RX5 205 3 4 (.int) true := ⟨RX3, TX3, 10, tyX3, gk_X3, by decide, rfl, rfl, rfl, wf_X5_205⟩
theorem gf_X3_27 : gx_FL RX3 27 3 5 (.int) true := ⟨RX3, TX3, 10, tyX3, gk_X3, by decide, rfl, rfl, rfl, wf_X3_27⟩
theorem gf_X5_70 : gx_FL RX5 70 3 6 (.int) false := ⟨RX3, TX3, 10, tyX3, gk_X3, by decide, rfl, rfl, rfl, wf_X5_70⟩
theorem gf_X1_41 : gx_FL RX1 41 3 6 (.int) false := ⟨RX3, TX3, 10, tyX3, gk_X3, by decide, rfl, rfl, rfl, wf_X1_41⟩
theorem gf_X5_77 : gx_FL RX5 77 3 7 (.long) false := ⟨RX3, TX3, 10, tyX3, gk_X3, by decide, rfl, rfl, rfl, wf_X5_77⟩
theorem gf_X5_150 : gx_FL RX5 150 3 8 (.boolean) false := ⟨RX3, TX3, 10, tyX3, gk_X3, by decide, rfl, rfl, rfl, wf_X5_150⟩
theorem gf_X5_144 : gx_FL RX5 144 3 9 (.int) false := ⟨RX3, TX3, 10, tyX3, gk_X3, by decide, rfl, rfl, rfl, wf_X5_144⟩
theorem gf_X4_21 : gx_FL RX4 21 4 0 (.object "GroupOrder$Order") true := ⟨RX4, TX4, 11, tyX4, gk_X4, by decide, rfl, rfl, rfl, wf_X4_21⟩
theorem gf_X1_37 : gx_FL RX1 37 4 0 (.object "GroupOrder$Order") true := ⟨RX4, TX4, 11, tyX4, gk_X4, by decide, rfl, rfl, rfl, wf_X1_37⟩
theorem gf_X5_116 : gx_FL RX5 116 4 0 (.object "GroupOrder$Order") true := ⟨RX4, TX4, 11, tyX4, gk_X4, by decide, rfl, rfl, rfl, wf_X5_116⟩
theorem gf_X4_25 : gx_FL RX4 25 4 1 (.int) true := ⟨RX4, TX4, 11, tyX4, gk_X4, by decide, rfl, rfl, rfl, wf_X4_25⟩
theorem gf_X5_125 : gx_FL RX5 125 4 1 (.int) true := ⟨RX4, TX4, 11, tyX4, gk_X4, by decide, rfl, rfl, rfl, wf_X5_125⟩
theorem gf_X4_28 : gx_FL RX4 28 4 2 (.object "GroupOrder$Part") false := ⟨RX4, TX4, 11, tyX4, gk_X4, by decide, rfl, rfl, rfl, wf_X4_28⟩
theorem gf_X5_220 : gx_FL RX5 220 4 2 (.object "GroupOrder$Part") false := ⟨RX4, TX4, 11, tyX4, gk_X4, by decide, rfl, rfl, rfl, wf_X5_220⟩
theorem gf_X4_9 : gx_FL RX4 9 4 3 (.int) false := ⟨RX4, TX4, 11, tyX4, gk_X4, by decide, rfl, rfl, rfl, wf_X4_9⟩
theorem gf_X1_50 : gx_FL RX1 50 4 3 (.int) false := ⟨RX4, TX4, 11, tyX4, gk_X4, by decide, rfl, rfl, rfl, wf_X1_50⟩
theorem gf_X5_156 : gx_FL RX5 156 4 3 (.int) false := ⟨RX4, TX4, 11, tyX4, gk_X4, by decide, rfl, rfl, rfl, wf_X5_156⟩
theorem gf_X4_15 : gx_FL RX4 15 4 4 (.int) false := ⟨RX4, TX4, 11, tyX4, gk_X4, by decide, rfl, rfl, rfl, wf_X4_15⟩
theorem gf_X1_60 : gx_FL RX1 60 4 4 (.int) false := ⟨RX4, TX4, 11, tyX4, gk_X4, by decide, rfl, rfl, rfl, wf_X1_60⟩
theorem gf_X5_240 : gx_FL RX5 240 4 4 (.int) false := ⟨RX4, TX4, 11, tyX4, gk_X4, by decide, rfl, rfl, rfl, wf_X5_240⟩
theorem gf_X4_18 : gx_FL RX4 18 4 5 (.int) false := ⟨RX4, TX4, 11, tyX4, gk_X4, by decide, rfl, rfl, rfl, wf_X4_18⟩
theorem gf_X1_53 : gx_FL RX1 53 4 5 (.int) false := ⟨RX4, TX4, 11, tyX4, gk_X4, by decide, rfl, rfl, rfl, wf_X1_53⟩
theorem gf_X5_159 : gx_FL RX5 159 4 5 (.int) false := ⟨RX4, TX4, 11, tyX4, gk_X4, by decide, rfl, rfl, rfl, wf_X5_159⟩
theorem gf_X4_32 : gx_FL RX4 32 4 6 (.boolean) false := ⟨RX4, TX4, 11, tyX4, gk_X4, by decide, rfl, rfl, rfl, wf_X4_32⟩
theorem gf_X1_70 : gx_FL RX1 70 4 6 (.boolean) false := ⟨RX4, TX4, 11, tyX4, gk_X4, by decide, rfl, rfl, rfl, wf_X1_70⟩
theorem gf_X5_262 : gx_FL RX5 262 4 7 (.boolean) false := ⟨RX4, TX4, 11, tyX4, gk_X4, by decide, rfl, rfl, rfl, wf_X5_262⟩
theorem gf_X5_246 : gx_FL RX5 246 4 8 (.boolean) false := ⟨RX4, TX4, 11, tyX4, gk_X4, by decide, rfl, rfl, rfl, wf_X5_246⟩
theorem gf_X5_243 : gx_FL RX5 243 4 9 (.int) false := ⟨RX4, TX4, 11, tyX4, gk_X4, by decide, rfl, rfl, rfl, wf_X5_243⟩
theorem gf_X5_162 : gx_FL RX5 162 4 10 (.boolean) false := ⟨RX4, TX4, 11, tyX4, gk_X4, by decide, rfl, rfl, rfl, wf_X5_162⟩
theorem gf_X2_7 : gx_FL RX2 7 2 0 (.int) true := ⟨RX2, TX2, 4, tyX2, gk_X2, by decide, rfl, rfl, rfl, wf_X2_7⟩
theorem gf_X5_107 : gx_FL RX5 107 2 0 (.int) true := ⟨RX2, TX2, 4, tyX2, gk_X2, by decide, rfl, rfl, rfl, wf_X5_107⟩
theorem gf_X2_13 : gx_FL RX2 13 2 1 (.int) true := ⟨RX2, TX2, 4, tyX2, gk_X2, by decide, rfl, rfl, rfl, wf_X2_13⟩
theorem gf_X5_122 : gx_FL RX5 122 2 1 (.int) true := ⟨RX2, TX2, 4, tyX2, gk_X2, by decide, rfl, rfl, rfl, wf_X5_122⟩
theorem gf_X2_16 : gx_FL RX2 16 2 2 (.object "GroupOrder$Part") true := ⟨RX2, TX2, 4, tyX2, gk_X2, by decide, rfl, rfl, rfl, wf_X2_16⟩
theorem gf_X5_112 : gx_FL RX5 112 2 2 (.object "GroupOrder$Part") true := ⟨RX2, TX2, 4, tyX2, gk_X2, by decide, rfl, rfl, rfl, wf_X5_112⟩
theorem gf_X2_20 : gx_FL RX2 20 2 3 (.int) true := ⟨RX2, TX2, 4, tyX2, gk_X2, by decide, rfl, rfl, rfl, wf_X2_20⟩
theorem gf_X5_128 : gx_FL RX5 128 2 3 (.int) true := ⟨RX2, TX2, 4, tyX2, gk_X2, by decide, rfl, rfl, rfl, wf_X5_128⟩
theorem gf_X6_101 : gx_FL RX6 101 6 0 (.int) true := ⟨RX6, TX6, 34, tyX6, gk_X6, by decide, rfl, rfl, rfl, wf_X6_101⟩
theorem gf_X6_7 : gx_FL RX6 7 6 1 (.array (.int)) true := ⟨RX6, TX6, 34, tyX6, gk_X6, by decide, rfl, rfl, rfl, wf_X6_7⟩
theorem gf_X6_13 : gx_FL RX6 13 6 2 (.array (.boolean)) true := ⟨RX6, TX6, 34, tyX6, gk_X6, by decide, rfl, rfl, rfl, wf_X6_13⟩
theorem gf_X6_17 : gx_FL RX6 17 6 3 (.array (.int)) true := ⟨RX6, TX6, 34, tyX6, gk_X6, by decide, rfl, rfl, rfl, wf_X6_17⟩
theorem gf_X6_124 : gx_FL RX6 124 6 4 (.int) false := ⟨RX6, TX6, 34, tyX6, gk_X6, by decide, rfl, rfl, rfl, wf_X6_124⟩
theorem gf_X6_20 : gx_FL RX6 20 6 5 (.array (.int)) true := ⟨RX6, TX6, 34, tyX6, gk_X6, by decide, rfl, rfl, rfl, wf_X6_20⟩
theorem gf_X6_23 : gx_FL RX6 23 6 6 (.array (.int)) true := ⟨RX6, TX6, 34, tyX6, gk_X6, by decide, rfl, rfl, rfl, wf_X6_23⟩
theorem gf_X6_26 : gx_FL RX6 26 6 7 (.array (.int)) true := ⟨RX6, TX6, 34, tyX6, gk_X6, by decide, rfl, rfl, rfl, wf_X6_26⟩
theorem gf_X6_29 : gx_FL RX6 29 6 8 (.array (.int)) true := ⟨RX6, TX6, 34, tyX6, gk_X6, by decide, rfl, rfl, rfl, wf_X6_29⟩
theorem gf_X6_32 : gx_FL RX6 32 6 9 (.array (.int)) true := ⟨RX6, TX6, 34, tyX6, gk_X6, by decide, rfl, rfl, rfl, wf_X6_32⟩
theorem gf_X6_35 : gx_FL RX6 35 6 10 (.array (.int)) true := ⟨RX6, TX6, 34, tyX6, gk_X6, by decide, rfl, rfl, rfl, wf_X6_35⟩
theorem gf_X6_38 : gx_FL RX6 38 6 11 (.array (.boolean)) true := ⟨RX6, TX6, 34, tyX6, gk_X6, by decide, rfl, rfl, rfl, wf_X6_38⟩
theorem gf_X6_41 : gx_FL RX6 41 6 12 (.array (.int)) true := ⟨RX6, TX6, 34, tyX6, gk_X6, by decide, rfl, rfl, rfl, wf_X6_41⟩
theorem gf_X6_44 : gx_FL RX6 44 6 13 (.array (.int)) true := ⟨RX6, TX6, 34, tyX6, gk_X6, by decide, rfl, rfl, rfl, wf_X6_44⟩
theorem gf_X6_47 : gx_FL RX6 47 6 14 (.array (.boolean)) true := ⟨RX6, TX6, 34, tyX6, gk_X6, by decide, rfl, rfl, rfl, wf_X6_47⟩
theorem gf_X6_50 : gx_FL RX6 50 6 15 (.array (.int)) true := ⟨RX6, TX6, 34, tyX6, gk_X6, by decide, rfl, rfl, rfl, wf_X6_50⟩
theorem gf_X6_53 : gx_FL RX6 53 6 16 (.array (.boolean)) true := ⟨RX6, TX6, 34, tyX6, gk_X6, by decide, rfl, rfl, rfl, wf_X6_53⟩
theorem gf_X6_56 : gx_FL RX6 56 6 17 (.array (.boolean)) true := ⟨RX6, TX6, 34, tyX6, gk_X6, by decide, rfl, rfl, rfl, wf_X6_56⟩
theorem gf_X6_59 : gx_FL RX6 59 6 18 (.array (.boolean)) true := ⟨RX6, TX6, 34, tyX6, gk_X6, by decide, rfl, rfl, rfl, wf_X6_59⟩
theorem gf_X6_62 : gx_FL RX6 62 6 19 (.array (.int)) true := ⟨RX6, TX6, 34, tyX6, gk_X6, by decide, rfl, rfl, rfl, wf_X6_62⟩
theorem gf_X6_65 : gx_FL RX6 65 6 20 (.array (.boolean)) true := ⟨RX6, TX6, 34, tyX6, gk_X6, by decide, rfl, rfl, rfl, wf_X6_65⟩
theorem gf_X6_68 : gx_FL RX6 68 6 21 (.array (.int)) true := ⟨RX6, TX6, 34, tyX6, gk_X6, by decide, rfl, rfl, rfl, wf_X6_68⟩
theorem gf_X6_71 : gx_FL RX6 71 6 22 (.array (.int)) true := ⟨RX6, TX6, 34, tyX6, gk_X6, by decide, rfl, rfl, rfl, wf_X6_71⟩
theorem gf_X6_74 : gx_FL RX6 74 6 23 (.array (.int)) true := ⟨RX6, TX6, 34, tyX6, gk_X6, by decide, rfl, rfl, rfl, wf_X6_74⟩
theorem gf_X6_77 : gx_FL RX6 77 6 24 (.array (.int)) true := ⟨RX6, TX6, 34, tyX6, gk_X6, by decide, rfl, rfl, rfl, wf_X6_77⟩
theorem gf_X6_109 : gx_FL RX6 109 6 25 (.int) false := ⟨RX6, TX6, 34, tyX6, gk_X6, by decide, rfl, rfl, rfl, wf_X6_109⟩
theorem gf_X6_80 : gx_FL RX6 80 6 26 (.array (.int)) true := ⟨RX6, TX6, 34, tyX6, gk_X6, by decide, rfl, rfl, rfl, wf_X6_80⟩
theorem gf_X6_83 : gx_FL RX6 83 6 27 (.array (.int)) true := ⟨RX6, TX6, 34, tyX6, gk_X6, by decide, rfl, rfl, rfl, wf_X6_83⟩
theorem gf_X6_86 : gx_FL RX6 86 6 28 (.array (.int)) true := ⟨RX6, TX6, 34, tyX6, gk_X6, by decide, rfl, rfl, rfl, wf_X6_86⟩
theorem gf_X6_89 : gx_FL RX6 89 6 29 (.array (.int)) true := ⟨RX6, TX6, 34, tyX6, gk_X6, by decide, rfl, rfl, rfl, wf_X6_89⟩
theorem gf_X6_92 : gx_FL RX6 92 6 30 (.array (.int)) true := ⟨RX6, TX6, 34, tyX6, gk_X6, by decide, rfl, rfl, rfl, wf_X6_92⟩
theorem gf_X6_95 : gx_FL RX6 95 6 31 (.array (.int)) true := ⟨RX6, TX6, 34, tyX6, gk_X6, by decide, rfl, rfl, rfl, wf_X6_95⟩
theorem gf_X6_98 : gx_FL RX6 98 6 32 (.array (.int)) true := ⟨RX6, TX6, 34, tyX6, gk_X6, by decide, rfl, rfl, rfl, wf_X6_98⟩
theorem gf_X6_139 : gx_FL RX6 139 6 33 (.int) false := ⟨RX6, TX6, 34, tyX6, gk_X6, by decide, rfl, rfl, rfl, wf_X6_139⟩
abbrev gm_X0_init : gx_M := (RX0, yX0_init, cX0_init, 1, (Option.none : Option Jvm.ClassFile.FieldType))
theorem gt_X0_init : gx_MT gm_X0_init 0 := ⟨wk_X0_init, wi_X0, ⟨by decide, by decide, by decide +kernel⟩, by decide, by decide, rfl⟩
abbrev gm_X0_has : gx_M := (RX0, yX0_has, cX0_has, 2, (Option.some Jvm.ClassFile.FieldType.boolean))
theorem gt_X0_has : gx_MT gm_X0_has 1 := ⟨wk_X0_has, wi_X0, ⟨by decide, by decide, by decide +kernel⟩, by decide, by decide, rfl⟩
abbrev gm_X0_put : gx_M := (RX0, yX0_put, cX0_put, 2, (Option.none : Option Jvm.ClassFile.FieldType))
theorem gt_X0_put : gx_MT gm_X0_put 1 := ⟨wk_X0_put, wi_X0, ⟨by decide, by decide, by decide +kernel⟩, by decide, by decide, rfl⟩
abbrev gm_X0_drop : gx_M := (RX0, yX0_drop, cX0_drop, 3, (Option.none : Option Jvm.ClassFile.FieldType))
theorem gt_X0_drop : gx_MT gm_X0_drop 1 := ⟨wk_X0_drop, wi_X0, ⟨by decide, by decide, by decide +kernel⟩, by decide, by decide, rfl⟩
abbrev gm_X1_init : gx_M := (RX1, yX1_init, cX1_init, 2, (Option.none : Option Jvm.ClassFile.FieldType))
theorem gt_X1_init : gx_MT gm_X1_init 1 := ⟨wk_X1_init, wi_X1, ⟨by decide, by decide, by decide +kernel⟩, by decide, by decide, rfl⟩
abbrev gm_X1_partFor : gx_M := (RX1, yX1_partFor, cX1_partFor, 3, (Option.some (Jvm.ClassFile.FieldType.object "GroupOrder$Part")))
theorem gt_X1_partFor : gx_MT gm_X1_partFor 1 := ⟨wk_X1_partFor, wi_X1, ⟨by decide, by decide, by decide +kernel⟩, by decide, by decide, rfl⟩
abbrev gm_X1_start : gx_M := (RX1, yX1_start, cX1_start, 2, (Option.none : Option Jvm.ClassFile.FieldType))
theorem gt_X1_start : gx_MT gm_X1_start 1 := ⟨wk_X1_start, wi_X1, ⟨by decide, by decide, by decide +kernel⟩, by decide, by decide, rfl⟩
abbrev gm_X1_makeFinal : gx_M := (RX1, yX1_makeFinal, cX1_makeFinal, 3, (Option.none : Option Jvm.ClassFile.FieldType))
theorem gt_X1_makeFinal : gx_MT gm_X1_makeFinal 0 := ⟨wk_X1_makeFinal, wi_X1, ⟨by decide, by decide, by decide +kernel⟩, by decide, by decide, rfl⟩
abbrev gm_X1_takeAll : gx_M := (RX1, yX1_takeAll, cX1_takeAll, 3, (Option.none : Option Jvm.ClassFile.FieldType))
theorem gt_X1_takeAll : gx_MT gm_X1_takeAll 0 := ⟨wk_X1_takeAll, wi_X1, ⟨by decide, by decide, by decide +kernel⟩, by decide, by decide, rfl⟩
abbrev gm_X1_earliestWaiting : gx_M := (RX1, yX1_earliestWaiting, cX1_earliestWaiting, 5, (Option.some (Jvm.ClassFile.FieldType.object "GroupOrder$Part")))
theorem gt_X1_earliestWaiting : gx_MT gm_X1_earliestWaiting 0 := ⟨wk_X1_earliestWaiting, wi_X1, ⟨by decide, by decide, by decide +kernel⟩, by decide, by decide, rfl⟩
abbrev gm_X2_init : gx_M := (RX2, yX2_init, cX2_init, 5, (Option.none : Option Jvm.ClassFile.FieldType))
theorem gt_X2_init : gx_MT gm_X2_init 4 := ⟨wk_X2_init, wi_X2, ⟨by decide, by decide, by decide +kernel⟩, by decide, by decide, rfl⟩
abbrev gm_X3_init : gx_M := (RX3, yX3_init, cX3_init, 7, (Option.none : Option Jvm.ClassFile.FieldType))
theorem gt_X3_init : gx_MT gm_X3_init 6 := ⟨wk_X3_init, wi_X3, ⟨by decide, by decide, by decide +kernel⟩, by decide, by decide, rfl⟩
abbrev gm_X3_isMoved : gx_M := (RX3, yX3_isMoved, cX3_isMoved, 2, (Option.some Jvm.ClassFile.FieldType.boolean))
theorem gt_X3_isMoved : gx_MT gm_X3_isMoved 1 := ⟨wk_X3_isMoved, wi_X3, ⟨by decide, by decide, by decide +kernel⟩, by decide, by decide, rfl⟩
abbrev gm_X3_behindA : gx_M := (RX3, yX3_behindA, cX3_behindA, 3, (Option.some Jvm.ClassFile.FieldType.int))
theorem gt_X3_behindA : gx_MT gm_X3_behindA 2 := ⟨wk_X3_behindA, wi_X3, ⟨by decide, by decide, by decide +kernel⟩, by decide, by decide, rfl⟩
abbrev gm_X3_behindB : gx_M := (RX3, yX3_behindB, cX3_behindB, 3, (Option.some Jvm.ClassFile.FieldType.int))
theorem gt_X3_behindB : gx_MT gm_X3_behindB 2 := ⟨wk_X3_behindB, wi_X3, ⟨by decide, by decide, by decide +kernel⟩, by decide, by decide, rfl⟩
abbrev gm_X3_reply : gx_M := (RX3, yX3_reply, cX3_reply, 3, (Option.some Jvm.ClassFile.FieldType.int))
theorem gt_X3_reply : gx_MT gm_X3_reply 2 := ⟨wk_X3_reply, wi_X3, ⟨by decide, by decide, by decide +kernel⟩, by decide, by decide, rfl⟩
abbrev gm_X4_init : gx_M := (RX4, yX4_init, cX4_init, 3, (Option.none : Option Jvm.ClassFile.FieldType))
theorem gt_X4_init : gx_MT gm_X4_init 2 := ⟨wk_X4_init, wi_X4, ⟨by decide, by decide, by decide +kernel⟩, by decide, by decide, rfl⟩
abbrev gm_X4_hasAllLocalTimes : gx_M := (RX4, yX4_hasAllLocalTimes, cX4_hasAllLocalTimes, 1, (Option.some Jvm.ClassFile.FieldType.boolean))
theorem gt_X4_hasAllLocalTimes : gx_MT gm_X4_hasAllLocalTimes 0 := ⟨wk_X4_hasAllLocalTimes, wi_X4, ⟨by decide, by decide, by decide +kernel⟩, by decide, by decide, rfl⟩
abbrev gm_X4_waits : gx_M := (RX4, yX4_waits, cX4_waits, 1, (Option.some Jvm.ClassFile.FieldType.boolean))
theorem gt_X4_waits : gx_MT gm_X4_waits 0 := ⟨wk_X4_waits, wi_X4, ⟨by decide, by decide, by decide +kernel⟩, by decide, by decide, rfl⟩
abbrev gm_X4_isEarlierThan : gx_M := (RX4, yX4_isEarlierThan, cX4_isEarlierThan, 3, (Option.some Jvm.ClassFile.FieldType.boolean))
theorem gt_X4_isEarlierThan : gx_MT gm_X4_isEarlierThan 1 := ⟨wk_X4_isEarlierThan, wi_X4, ⟨by decide, by decide, by decide +kernel⟩, by decide, by decide, rfl⟩
abbrev gm_X4_leastTime : gx_M := (RX4, yX4_leastTime, cX4_leastTime, 1, (Option.some Jvm.ClassFile.FieldType.int))
theorem gt_X4_leastTime : gx_MT gm_X4_leastTime 0 := ⟨wk_X4_leastTime, wi_X4, ⟨by decide, by decide, by decide +kernel⟩, by decide, by decide, rfl⟩
abbrev gm_X5_init : gx_M := (RX5, yX5_init, cX5_init, 4, (Option.none : Option Jvm.ClassFile.FieldType))
theorem gt_X5_init : gx_MT gm_X5_init 1 := ⟨wk_X5_init, wi_X5, ⟨by decide, by decide, by decide +kernel⟩, by decide, by decide, rfl⟩
abbrev gm_X5_send : gx_M := (RX5, yX5_send, cX5_send, 7, (Option.some Jvm.ClassFile.FieldType.int))
theorem gt_X5_send : gx_MT gm_X5_send 5 := ⟨wk_X5_send, wi_X5, ⟨by decide, by decide, by decide +kernel⟩, by decide, by decide, rfl⟩
abbrev gm_X5_bring : gx_M := (RX5, yX5_bring, cX5_bring, 2, (Option.some Jvm.ClassFile.FieldType.int))
theorem gt_X5_bring : gx_MT gm_X5_bring 1 := ⟨wk_X5_bring, wi_X5, ⟨by decide, by decide, by decide +kernel⟩, by decide, by decide, rfl⟩
abbrev gm_X5_twice : gx_M := (RX5, yX5_twice, cX5_twice, 2, (Option.some Jvm.ClassFile.FieldType.int))
theorem gt_X5_twice : gx_MT gm_X5_twice 1 := ⟨wk_X5_twice, wi_X5, ⟨by decide, by decide, by decide +kernel⟩, by decide, by decide, rfl⟩
abbrev gm_X5_up : gx_M := (RX5, yX5_up, cX5_up, 3, (Option.some Jvm.ClassFile.FieldType.boolean))
theorem gt_X5_up : gx_MT gm_X5_up 2 := ⟨wk_X5_up, wi_X5, ⟨by decide, by decide, by decide +kernel⟩, by decide, by decide, rfl⟩
abbrev gm_X5_flight : gx_M := (RX5, yX5_flight, cX5_flight, 4, (Option.some Jvm.ClassFile.FieldType.int))
theorem gt_X5_flight : gx_MT gm_X5_flight 2 := ⟨wk_X5_flight, wi_X5, ⟨by decide, by decide, by decide +kernel⟩, by decide, by decide, rfl⟩
abbrev gm_X5_flying : gx_M := (RX5, yX5_flying, cX5_flying, 1, (Option.some Jvm.ClassFile.FieldType.int))
theorem gt_X5_flying : gx_MT gm_X5_flying 0 := ⟨wk_X5_flying, wi_X5, ⟨by decide, by decide, by decide +kernel⟩, by decide, by decide, rfl⟩
abbrev gm_X5_taken : gx_M := (RX5, yX5_taken, cX5_taken, 3, (Option.some Jvm.ClassFile.FieldType.int))
theorem gt_X5_taken : gx_MT gm_X5_taken 2 := ⟨wk_X5_taken, wi_X5, ⟨by decide, by decide, by decide +kernel⟩, by decide, by decide, rfl⟩
abbrev gm_X5_answer : gx_M := (RX5, yX5_answer, cX5_answer, 2, (Option.some Jvm.ClassFile.FieldType.int))
theorem gt_X5_answer : gx_MT gm_X5_answer 1 := ⟨wk_X5_answer, wi_X5, ⟨by decide, by decide, by decide +kernel⟩, by decide, by decide, rfl⟩
abbrev gm_X5_answered : gx_M := (RX5, yX5_answered, cX5_answered, 2, (Option.some Jvm.ClassFile.FieldType.boolean))
theorem gt_X5_answered : gx_MT gm_X5_answered 1 := ⟨wk_X5_answered, wi_X5, ⟨by decide, by decide, by decide +kernel⟩, by decide, by decide, rfl⟩
abbrev gm_X5_time : gx_M := (RX5, yX5_time, cX5_time, 5, (Option.some Jvm.ClassFile.FieldType.int))
theorem gt_X5_time : gx_MT gm_X5_time 3 := ⟨wk_X5_time, wi_X5, ⟨by decide, by decide, by decide +kernel⟩, by decide, by decide, rfl⟩
abbrev gm_X5_value : gx_M := (RX5, yX5_value, cX5_value, 2, (Option.some Jvm.ClassFile.FieldType.int))
theorem gt_X5_value : gx_MT gm_X5_value 1 := ⟨wk_X5_value, wi_X5, ⟨by decide, by decide, by decide +kernel⟩, by decide, by decide, rfl⟩
abbrev gm_X5_clock : gx_M := (RX5, yX5_clock, cX5_clock, 2, (Option.some Jvm.ClassFile.FieldType.int))
theorem gt_X5_clock : gx_MT gm_X5_clock 1 := ⟨wk_X5_clock, wi_X5, ⟨by decide, by decide, by decide +kernel⟩, by decide, by decide, rfl⟩
abbrev gm_X5_seen : gx_M := (RX5, yX5_seen, cX5_seen, 2, (Option.some Jvm.ClassFile.FieldType.int))
theorem gt_X5_seen : gx_MT gm_X5_seen 1 := ⟨wk_X5_seen, wi_X5, ⟨by decide, by decide, by decide +kernel⟩, by decide, by decide, rfl⟩
abbrev gm_X5_agree : gx_M := (RX5, yX5_agree, cX5_agree, 1, (Option.some Jvm.ClassFile.FieldType.boolean))
theorem gt_X5_agree : gx_MT gm_X5_agree 0 := ⟨wk_X5_agree, wi_X5, ⟨by decide, by decide, by decide +kernel⟩, by decide, by decide, rfl⟩
abbrev gm_X5_count : gx_M := (RX5, yX5_count, cX5_count, 2, (Option.some Jvm.ClassFile.FieldType.int))
theorem gt_X5_count : gx_MT gm_X5_count 1 := ⟨wk_X5_count, wi_X5, ⟨by decide, by decide, by decide +kernel⟩, by decide, by decide, rfl⟩
abbrev gm_X5_isGroup : gx_M := (RX5, yX5_isGroup, cX5_isGroup, 2, (Option.some Jvm.ClassFile.FieldType.boolean))
theorem gt_X5_isGroup : gx_MT gm_X5_isGroup 1 := ⟨wk_X5_isGroup, wi_X5, ⟨by decide, by decide, by decide +kernel⟩, by decide, by decide, rfl⟩
abbrev gm_X5_hasOrder : gx_M := (RX5, yX5_hasOrder, cX5_hasOrder, 2, (Option.some Jvm.ClassFile.FieldType.boolean))
theorem gt_X5_hasOrder : gx_MT gm_X5_hasOrder 1 := ⟨wk_X5_hasOrder, wi_X5, ⟨by decide, by decide, by decide +kernel⟩, by decide, by decide, rfl⟩
abbrev gm_X5_isClient : gx_M := (RX5, yX5_isClient, cX5_isClient, 1, (Option.some Jvm.ClassFile.FieldType.boolean))
theorem gt_X5_isClient : gx_MT gm_X5_isClient 1 := ⟨wk_X5_isClient, wi_X5, ⟨by decide, by decide, by decide +kernel⟩, by decide, by decide, rfl⟩
abbrev gm_X5_isKey : gx_M := (RX5, yX5_isKey, cX5_isKey, 1, (Option.some Jvm.ClassFile.FieldType.boolean))
theorem gt_X5_isKey : gx_MT gm_X5_isKey 1 := ⟨wk_X5_isKey, wi_X5, ⟨by decide, by decide, by decide +kernel⟩, by decide, by decide, rfl⟩
abbrev gm_X5_isOrder : gx_M := (RX5, yX5_isOrder, cX5_isOrder, 5, (Option.some Jvm.ClassFile.FieldType.boolean))
theorem gt_X5_isOrder : gx_MT gm_X5_isOrder 5 := ⟨wk_X5_isOrder, wi_X5, ⟨by decide, by decide, by decide +kernel⟩, by decide, by decide, rfl⟩
abbrev gm_X5_keeperOf : gx_M := (RX5, yX5_keeperOf, cX5_keeperOf, 2, (Option.some (Jvm.ClassFile.FieldType.object "GroupOrder$Group")))
theorem gt_X5_keeperOf : gx_MT gm_X5_keeperOf 1 := ⟨wk_X5_keeperOf, wi_X5, ⟨by decide, by decide, by decide +kernel⟩, by decide, by decide, rfl⟩
abbrev gm_X5_answeredOrdersOf : gx_M := (RX5, yX5_answeredOrdersOf, cX5_answeredOrdersOf, 5, (Option.some Jvm.ClassFile.FieldType.long))
theorem gt_X5_answeredOrdersOf : gx_MT gm_X5_answeredOrdersOf 1 := ⟨wk_X5_answeredOrdersOf, wi_X5, ⟨by decide, by decide, by decide +kernel⟩, by decide, by decide, rfl⟩
abbrev gm_X5_putStarts : gx_M := (RX5, yX5_putStarts, cX5_putStarts, 7, (Option.none : Option Jvm.ClassFile.FieldType))
theorem gt_X5_putStarts : gx_MT gm_X5_putStarts 1 := ⟨wk_X5_putStarts, wi_X5, ⟨by decide, by decide, by decide +kernel⟩, by decide, by decide, rfl⟩
abbrev gm_X5_deliver : gx_M := (RX5, yX5_deliver, cX5_deliver, 5, (Option.some Jvm.ClassFile.FieldType.int))
theorem gt_X5_deliver : gx_MT gm_X5_deliver 2 := ⟨wk_X5_deliver, wi_X5, ⟨by decide, by decide, by decide +kernel⟩, by decide, by decide, rfl⟩
abbrev gm_X5_receive : gx_M := (RX5, yX5_receive, cX5_receive, 4, (Option.none : Option Jvm.ClassFile.FieldType))
theorem gt_X5_receive : gx_MT gm_X5_receive 2 := ⟨wk_X5_receive, wi_X5, ⟨by decide, by decide, by decide +kernel⟩, by decide, by decide, rfl⟩
abbrev gm_X5_workOutAll : gx_M := (RX5, yX5_workOutAll, cX5_workOutAll, 4, (Option.none : Option Jvm.ClassFile.FieldType))
theorem gt_X5_workOutAll : gx_MT gm_X5_workOutAll 1 := ⟨wk_X5_workOutAll, wi_X5, ⟨by decide, by decide, by decide +kernel⟩, by decide, by decide, rfl⟩
abbrev gm_X5_putValues : gx_M := (RX5, yX5_putValues, cX5_putValues, 4, (Option.none : Option Jvm.ClassFile.FieldType))
theorem gt_X5_putValues : gx_MT gm_X5_putValues 1 := ⟨wk_X5_putValues, wi_X5, ⟨by decide, by decide, by decide +kernel⟩, by decide, by decide, rfl⟩
abbrev gm_X5_workOut : gx_M := (RX5, yX5_workOut, cX5_workOut, 7, (Option.none : Option Jvm.ClassFile.FieldType))
theorem gt_X5_workOut : gx_MT gm_X5_workOut 1 := ⟨wk_X5_workOut, wi_X5, ⟨by decide, by decide, by decide +kernel⟩, by decide, by decide, rfl⟩
abbrev gm_X5_countAnswered : gx_M := (RX5, yX5_countAnswered, cX5_countAnswered, 3, (Option.some Jvm.ClassFile.FieldType.int))
theorem gt_X5_countAnswered : gx_MT gm_X5_countAnswered 0 := ⟨wk_X5_countAnswered, wi_X5, ⟨by decide, by decide, by decide +kernel⟩, by decide, by decide, rfl⟩
abbrev gm_X5_countWorkedOutByAll : gx_M := (RX5, yX5_countWorkedOutByAll, cX5_countWorkedOutByAll, 3, (Option.some Jvm.ClassFile.FieldType.int))
theorem gt_X5_countWorkedOutByAll : gx_MT gm_X5_countWorkedOutByAll 0 := ⟨wk_X5_countWorkedOutByAll, wi_X5, ⟨by decide, by decide, by decide +kernel⟩, by decide, by decide, rfl⟩
abbrev gm_X5_isWorkedOutAt : gx_M := (RX5, yX5_isWorkedOutAt, cX5_isWorkedOutAt, 4, (Option.some Jvm.ClassFile.FieldType.boolean))
theorem gt_X5_isWorkedOutAt : gx_MT gm_X5_isWorkedOutAt 2 := ⟨wk_X5_isWorkedOutAt, wi_X5, ⟨by decide, by decide, by decide +kernel⟩, by decide, by decide, rfl⟩
abbrev gm_X5_groupsTookInOrder : gx_M := (RX5, yX5_groupsTookInOrder, cX5_groupsTookInOrder, 4, (Option.some Jvm.ClassFile.FieldType.boolean))
theorem gt_X5_groupsTookInOrder : gx_MT gm_X5_groupsTookInOrder 0 := ⟨wk_X5_groupsTookInOrder, wi_X5, ⟨by decide, by decide, by decide +kernel⟩, by decide, by decide, rfl⟩
abbrev gm_X5_clientsWereFollowed : gx_M := (RX5, yX5_clientsWereFollowed, cX5_clientsWereFollowed, 4, (Option.some Jvm.ClassFile.FieldType.boolean))
theorem gt_X5_clientsWereFollowed : gx_MT gm_X5_clientsWereFollowed 0 := ⟨wk_X5_clientsWereFollowed, wi_X5, ⟨by decide, by decide, by decide +kernel⟩, by decide, by decide, rfl⟩
abbrev gm_X5_replayGivesTheSame : gx_M := (RX5, yX5_replayGivesTheSame, cX5_replayGivesTheSame, 3, (Option.some Jvm.ClassFile.FieldType.boolean))
theorem gt_X5_replayGivesTheSame : gx_MT gm_X5_replayGivesTheSame 0 := ⟨wk_X5_replayGivesTheSame, wi_X5, ⟨by decide, by decide, by decide +kernel⟩, by decide, by decide, rfl⟩
abbrev gm_X5_replayAnswersTheSame : gx_M := (RX5, yX5_replayAnswersTheSame, cX5_replayAnswersTheSame, 4, (Option.some Jvm.ClassFile.FieldType.boolean))
theorem gt_X5_replayAnswersTheSame : gx_MT gm_X5_replayAnswersTheSame 1 := ⟨wk_X5_replayAnswersTheSame, wi_X5, ⟨by decide, by decide, by decide +kernel⟩, by decide, by decide, rfl⟩
abbrev gm_X5_nextAnswered : gx_M := (RX5, yX5_nextAnswered, cX5_nextAnswered, 6, (Option.some (Jvm.ClassFile.FieldType.object "GroupOrder$Order")))
theorem gt_X5_nextAnswered : gx_MT gm_X5_nextAnswered 1 := ⟨wk_X5_nextAnswered, wi_X5, ⟨by decide, by decide, by decide +kernel⟩, by decide, by decide, rfl⟩
abbrev gm_X5_isBehind : gx_M := (RX5, yX5_isBehind, cX5_isBehind, 4, (Option.some Jvm.ClassFile.FieldType.boolean))
theorem gt_X5_isBehind : gx_MT gm_X5_isBehind 2 := ⟨wk_X5_isBehind, wi_X5, ⟨by decide, by decide, by decide +kernel⟩, by decide, by decide, rfl⟩
abbrev gm_X5_finalTimeOf : gx_M := (RX5, yX5_finalTimeOf, cX5_finalTimeOf, 4, (Option.some Jvm.ClassFile.FieldType.int))
theorem gt_X5_finalTimeOf : gx_MT gm_X5_finalTimeOf 1 := ⟨wk_X5_finalTimeOf, wi_X5, ⟨by decide, by decide, by decide +kernel⟩, by decide, by decide, rfl⟩
abbrev gm_X6_init : gx_M := (RX6, yX6_init, cX6_init, 3, (Option.none : Option Jvm.ClassFile.FieldType))
theorem gt_X6_init : gx_MT gm_X6_init 1 := ⟨wk_X6_init, wi_X6, ⟨by decide, by decide, by decide +kernel⟩, by decide, by decide, rfl⟩
abbrev gm_X6_isIn : gx_M := (RX6, yX6_isIn, cX6_isIn, 2, (Option.some Jvm.ClassFile.FieldType.boolean))
theorem gt_X6_isIn : gx_MT gm_X6_isIn 2 := ⟨wk_X6_isIn, wi_X6, ⟨by decide, by decide, by decide +kernel⟩, by decide, by decide, rfl⟩
abbrev gm_X6_isOf : gx_M := (RX6, yX6_isOf, cX6_isOf, 3, (Option.some Jvm.ClassFile.FieldType.boolean))
theorem gt_X6_isOf : gx_MT gm_X6_isOf 2 := ⟨wk_X6_isOf, wi_X6, ⟨by decide, by decide, by decide +kernel⟩, by decide, by decide, rfl⟩
abbrev gm_X6_at : gx_M := (RX6, yX6_at, cX6_at, 2, (Option.some Jvm.ClassFile.FieldType.int))
theorem gt_X6_at : gx_MT gm_X6_at 2 := ⟨wk_X6_at, wi_X6, ⟨by decide, by decide, by decide +kernel⟩, by decide, by decide, rfl⟩
abbrev gm_X6_of : gx_M := (RX6, yX6_of, cX6_of, 3, (Option.some Jvm.ClassFile.FieldType.int))
theorem gt_X6_of : gx_MT gm_X6_of 3 := ⟨wk_X6_of, wi_X6, ⟨by decide, by decide, by decide +kernel⟩, by decide, by decide, rfl⟩
abbrev gm_X6_put : gx_M := (RX6, yX6_put, cX6_put, 6, (Option.none : Option Jvm.ClassFile.FieldType))
theorem gt_X6_put : gx_MT gm_X6_put 5 := ⟨wk_X6_put, wi_X6, ⟨by decide, by decide, by decide +kernel⟩, by decide, by decide, rfl⟩
abbrev gm_X6_putOthers : gx_M := (RX6, yX6_putOthers, cX6_putOthers, 6, (Option.none : Option Jvm.ClassFile.FieldType))
theorem gt_X6_putOthers : gx_MT gm_X6_putOthers 4 := ⟨wk_X6_putOthers, wi_X6, ⟨by decide, by decide, by decide +kernel⟩, by decide, by decide, rfl⟩
abbrev gm_X6_send : gx_M := (RX6, yX6_send, cX6_send, 7, (Option.some Jvm.ClassFile.FieldType.int))
theorem gt_X6_send : gx_MT gm_X6_send 5 := ⟨wk_X6_send, wi_X6, ⟨by decide, by decide, by decide +kernel⟩, by decide, by decide, rfl⟩
abbrev gm_X6_comesStart : gx_M := (RX6, yX6_comesStart, cX6_comesStart, 3, (Option.none : Option Jvm.ClassFile.FieldType))
theorem gt_X6_comesStart : gx_MT gm_X6_comesStart 2 := ⟨wk_X6_comesStart, wi_X6, ⟨by decide, by decide, by decide +kernel⟩, by decide, by decide, rfl⟩
abbrev gm_X6_comes : gx_M := (RX6, yX6_comes, cX6_comes, 5, (Option.none : Option Jvm.ClassFile.FieldType))
theorem gt_X6_comes : gx_MT gm_X6_comes 1 := ⟨wk_X6_comes, wi_X6, ⟨by decide, by decide, by decide +kernel⟩, by decide, by decide, rfl⟩
abbrev gm_X6_makesFinal : gx_M := (RX6, yX6_makesFinal, cX6_makesFinal, 7, (Option.some Jvm.ClassFile.FieldType.boolean))
theorem gt_X6_makesFinal : gx_MT gm_X6_makesFinal 1 := ⟨wk_X6_makesFinal, wi_X6, ⟨by decide, by decide, by decide +kernel⟩, by decide, by decide, rfl⟩
abbrev gm_X6_takes : gx_M := (RX6, yX6_takes, cX6_takes, 6, (Option.some Jvm.ClassFile.FieldType.boolean))
theorem gt_X6_takes : gx_MT gm_X6_takes 1 := ⟨wk_X6_takes, wi_X6, ⟨by decide, by decide, by decide +kernel⟩, by decide, by decide, rfl⟩
abbrev gm_X6_works : gx_M := (RX6, yX6_works, cX6_works, 5, (Option.some Jvm.ClassFile.FieldType.boolean))
theorem gt_X6_works : gx_MT gm_X6_works 1 := ⟨wk_X6_works, wi_X6, ⟨by decide, by decide, by decide +kernel⟩, by decide, by decide, rfl⟩
abbrev gm_X6_workOut : gx_M := (RX6, yX6_workOut, cX6_workOut, 9, (Option.none : Option Jvm.ClassFile.FieldType))
theorem gt_X6_workOut : gx_MT gm_X6_workOut 2 := ⟨wk_X6_workOut, wi_X6, ⟨by decide, by decide, by decide +kernel⟩, by decide, by decide, rfl⟩
abbrev gm_X6_bring : gx_M := (RX6, yX6_bring, cX6_bring, 3, (Option.some Jvm.ClassFile.FieldType.int))
theorem gt_X6_bring : gx_MT gm_X6_bring 1 := ⟨wk_X6_bring, wi_X6, ⟨by decide, by decide, by decide +kernel⟩, by decide, by decide, rfl⟩
abbrev gm_X6_move : gx_M := (RX6, yX6_move, cX6_move, 3, (Option.none : Option Jvm.ClassFile.FieldType))
theorem gt_X6_move : gx_MT gm_X6_move 2 := ⟨wk_X6_move, wi_X6, ⟨by decide, by decide, by decide +kernel⟩, by decide, by decide, rfl⟩
abbrev gm_X6_twice : gx_M := (RX6, yX6_twice, cX6_twice, 2, (Option.some Jvm.ClassFile.FieldType.int))
theorem gt_X6_twice : gx_MT gm_X6_twice 1 := ⟨wk_X6_twice, wi_X6, ⟨by decide, by decide, by decide +kernel⟩, by decide, by decide, rfl⟩
abbrev gm_X6_up : gx_M := (RX6, yX6_up, cX6_up, 3, (Option.some Jvm.ClassFile.FieldType.boolean))
theorem gt_X6_up : gx_MT gm_X6_up 2 := ⟨wk_X6_up, wi_X6, ⟨by decide, by decide, by decide +kernel⟩, by decide, by decide, rfl⟩
abbrev gm_X6_flight : gx_M := (RX6, yX6_flight, cX6_flight, 3, (Option.some Jvm.ClassFile.FieldType.int))
theorem gt_X6_flight : gx_MT gm_X6_flight 2 := ⟨wk_X6_flight, wi_X6, ⟨by decide, by decide, by decide +kernel⟩, by decide, by decide, rfl⟩
abbrev gm_X6_flying : gx_M := (RX6, yX6_flying, cX6_flying, 1, (Option.some Jvm.ClassFile.FieldType.int))
theorem gt_X6_flying : gx_MT gm_X6_flying 0 := ⟨wk_X6_flying, wi_X6, ⟨by decide, by decide, by decide +kernel⟩, by decide, by decide, rfl⟩
abbrev gm_X6_taken : gx_M := (RX6, yX6_taken, cX6_taken, 3, (Option.some Jvm.ClassFile.FieldType.int))
theorem gt_X6_taken : gx_MT gm_X6_taken 2 := ⟨wk_X6_taken, wi_X6, ⟨by decide, by decide, by decide +kernel⟩, by decide, by decide, rfl⟩
abbrev gm_X6_answer : gx_M := (RX6, yX6_answer, cX6_answer, 2, (Option.some Jvm.ClassFile.FieldType.int))
theorem gt_X6_answer : gx_MT gm_X6_answer 1 := ⟨wk_X6_answer, wi_X6, ⟨by decide, by decide, by decide +kernel⟩, by decide, by decide, rfl⟩
abbrev gm_X6_answered : gx_M := (RX6, yX6_answered, cX6_answered, 2, (Option.some Jvm.ClassFile.FieldType.boolean))
theorem gt_X6_answered : gx_MT gm_X6_answered 1 := ⟨wk_X6_answered, wi_X6, ⟨by decide, by decide, by decide +kernel⟩, by decide, by decide, rfl⟩
abbrev gm_X6_time : gx_M := (RX6, yX6_time, cX6_time, 5, (Option.some Jvm.ClassFile.FieldType.int))
theorem gt_X6_time : gx_MT gm_X6_time 3 := ⟨wk_X6_time, wi_X6, ⟨by decide, by decide, by decide +kernel⟩, by decide, by decide, rfl⟩
abbrev gm_X6_value : gx_M := (RX6, yX6_value, cX6_value, 2, (Option.some Jvm.ClassFile.FieldType.int))
theorem gt_X6_value : gx_MT gm_X6_value 1 := ⟨wk_X6_value, wi_X6, ⟨by decide, by decide, by decide +kernel⟩, by decide, by decide, rfl⟩
abbrev gm_X6_clock : gx_M := (RX6, yX6_clock, cX6_clock, 2, (Option.some Jvm.ClassFile.FieldType.int))
theorem gt_X6_clock : gx_MT gm_X6_clock 1 := ⟨wk_X6_clock, wi_X6, ⟨by decide, by decide, by decide +kernel⟩, by decide, by decide, rfl⟩
abbrev gm_X6_seen : gx_M := (RX6, yX6_seen, cX6_seen, 2, (Option.some Jvm.ClassFile.FieldType.int))
theorem gt_X6_seen : gx_MT gm_X6_seen 1 := ⟨wk_X6_seen, wi_X6, ⟨by decide, by decide, by decide +kernel⟩, by decide, by decide, rfl⟩
abbrev gm_X6_agree : gx_M := (RX6, yX6_agree, cX6_agree, 6, (Option.some Jvm.ClassFile.FieldType.boolean))
theorem gt_X6_agree : gx_MT gm_X6_agree 0 := ⟨wk_X6_agree, wi_X6, ⟨by decide, by decide, by decide +kernel⟩, by decide, by decide, rfl⟩
abbrev gm_X6_doneCount : gx_M := (RX6, yX6_doneCount, cX6_doneCount, 5, (Option.some Jvm.ClassFile.FieldType.int))
theorem gt_X6_doneCount : gx_MT gm_X6_doneCount 0 := ⟨wk_X6_doneCount, wi_X6, ⟨by decide, by decide, by decide +kernel⟩, by decide, by decide, rfl⟩
abbrev gm_X6_count : gx_M := (RX6, yX6_count, cX6_count, 4, (Option.some Jvm.ClassFile.FieldType.int))
theorem gt_X6_count : gx_MT gm_X6_count 1 := ⟨wk_X6_count, wi_X6, ⟨by decide, by decide, by decide +kernel⟩, by decide, by decide, rfl⟩
abbrev gm_J6_compare_7cf53 : gx_M := (RJ6, yJ6_compare_7cf53, cJ6_compare_7cf53, 2, (Option.some Jvm.ClassFile.FieldType.int))
theorem gt_J6_compare_7cf53 : gx_MT gm_J6_compare_7cf53 2 := ⟨wk_J6_compare_7cf53, wi_J6, ⟨by decide, by decide, by decide +kernel⟩, by decide, by decide, rfl⟩
abbrev gm_J7_fill_53178 : gx_M := (RJ7, yJ7_fill_53178, cJ7_fill_53178, 4, (Option.none : Option Jvm.ClassFile.FieldType))
theorem gt_J7_fill_53178 : gx_MT gm_J7_fill_53178 2 := ⟨wk_J7_fill_53178, wi_J7, ⟨by decide, by decide, by decide +kernel⟩, by decide, by decide, rfl⟩
abbrev gm_L_cell : gx_M := (RL, yL_cell, cL_cell, 2, (Option.some Jvm.ClassFile.FieldType.int))
theorem gt_L_cell : gx_MT gm_L_cell 2 := ⟨wk_L_cell, wi_L, ⟨by decide, by decide, by decide +kernel⟩, by decide, by decide, rfl⟩
end
section
theorem dX0_init_0 : decode cX0_init 0 = .ok (.aload_n 0, 1) := by decide +kernel
theorem dX0_init_1 : decode cX0_init 1 = .ok (.invokespecial 3, 3) := by decide +kernel
theorem dX0_init_4 : decode cX0_init 4 = .ok (.aload_n 0, 1) := by decide +kernel
theorem dX0_init_5 : decode cX0_init 5 = .ok (.sipush 240, 3) := by decide +kernel
theorem dX0_init_8 : decode cX0_init 8 = .ok (.anewarray 9, 3) := by decide +kernel
theorem dX0_init_11 : decode cX0_init 11 = .ok (.putfield 11, 3) := by decide +kernel
theorem dX0_init_14 : decode cX0_init 14 = .ok (.return_, 1) := by decide +kernel
theorem dX0_has_0 : decode cX0_has 0 = .ok (.iload_n 1, 1) := by decide +kernel
theorem dX0_has_1 : decode cX0_has 1 = .ok (.ifCond .lt 15, 3) := by decide +kernel
theorem dX0_has_4 : decode cX0_has 4 = .ok (.iload_n 1, 1) := by decide +kernel
theorem dX0_has_5 : decode cX0_has 5 = .ok (.aload_n 0, 1) := by decide +kernel
theorem dX0_has_6 : decode cX0_has 6 = .ok (.getfield 17, 3) := by decide +kernel
theorem dX0_has_9 : decode cX0_has 9 = .ok (.if_icmp .ge 7, 3) := by decide +kernel
theorem dX0_has_12 : decode cX0_has 12 = .ok (.iconst 1, 1) := by decide +kernel
theorem dX0_has_13 : decode cX0_has 13 = .ok (.goto 4, 3) := by decide +kernel
theorem dX0_has_16 : decode cX0_has 16 = .ok (.iconst 0, 1) := by decide +kernel
theorem dX0_has_17 : decode cX0_has 17 = .ok (.ireturn, 1) := by decide +kernel
theorem dX0_put_0 : decode cX0_put 0 = .ok (.aload_n 0, 1) := by decide +kernel
theorem dX0_put_1 : decode cX0_put 1 = .ok (.getfield 17, 3) := by decide +kernel
theorem dX0_put_4 : decode cX0_put 4 = .ok (.sipush 240, 3) := by decide +kernel
theorem dX0_put_7 : decode cX0_put 7 = .ok (.if_icmp .ge 23, 3) := by decide +kernel
theorem dX0_put_10 : decode cX0_put 10 = .ok (.aload_n 0, 1) := by decide +kernel
theorem dX0_put_11 : decode cX0_put 11 = .ok (.getfield 11, 3) := by decide +kernel
theorem dX0_put_14 : decode cX0_put 14 = .ok (.aload_n 0, 1) := by decide +kernel
theorem dX0_put_15 : decode cX0_put 15 = .ok (.getfield 17, 3) := by decide +kernel
theorem dX0_put_18 : decode cX0_put 18 = .ok (.aload_n 1, 1) := by decide +kernel
theorem dX0_put_19 : decode cX0_put 19 = .ok (.aastore, 1) := by decide +kernel
theorem dX0_put_20 : decode cX0_put 20 = .ok (.aload_n 0, 1) := by decide +kernel
theorem dX0_put_21 : decode cX0_put 21 = .ok (.dup, 1) := by decide +kernel
theorem dX0_put_22 : decode cX0_put 22 = .ok (.getfield 17, 3) := by decide +kernel
theorem dX0_put_25 : decode cX0_put 25 = .ok (.iconst 1, 1) := by decide +kernel
theorem dX0_put_26 : decode cX0_put 26 = .ok (.iadd, 1) := by decide +kernel
theorem dX0_put_27 : decode cX0_put 27 = .ok (.putfield 17, 3) := by decide +kernel
theorem dX0_put_30 : decode cX0_put 30 = .ok (.return_, 1) := by decide +kernel
theorem dX0_drop_0 : decode cX0_drop 0 = .ok (.iload_n 1, 1) := by decide +kernel
theorem dX0_drop_1 : decode cX0_drop 1 = .ok (.iconst 1, 1) := by decide +kernel
theorem dX0_drop_2 : decode cX0_drop 2 = .ok (.iadd, 1) := by decide +kernel
theorem dX0_drop_3 : decode cX0_drop 3 = .ok (.istore_n 2, 1) := by decide +kernel
theorem dX0_drop_4 : decode cX0_drop 4 = .ok (.iload_n 2, 1) := by decide +kernel
theorem dX0_drop_5 : decode cX0_drop 5 = .ok (.aload_n 0, 1) := by decide +kernel
theorem dX0_drop_6 : decode cX0_drop 6 = .ok (.getfield 17, 3) := by decide +kernel
theorem dX0_drop_9 : decode cX0_drop 9 = .ok (.if_icmp .ge 23, 3) := by decide +kernel
theorem dX0_drop_12 : decode cX0_drop 12 = .ok (.aload_n 0, 1) := by decide +kernel
theorem dX0_drop_13 : decode cX0_drop 13 = .ok (.getfield 11, 3) := by decide +kernel
theorem dX0_drop_16 : decode cX0_drop 16 = .ok (.iload_n 2, 1) := by decide +kernel
theorem dX0_drop_17 : decode cX0_drop 17 = .ok (.iconst 1, 1) := by decide +kernel
theorem dX0_drop_18 : decode cX0_drop 18 = .ok (.isub, 1) := by decide +kernel
theorem dX0_drop_19 : decode cX0_drop 19 = .ok (.aload_n 0, 1) := by decide +kernel
theorem dX0_drop_20 : decode cX0_drop 20 = .ok (.getfield 11, 3) := by decide +kernel
theorem dX0_drop_23 : decode cX0_drop 23 = .ok (.iload_n 2, 1) := by decide +kernel
theorem dX0_drop_24 : decode cX0_drop 24 = .ok (.aaload, 1) := by decide +kernel
theorem dX0_drop_25 : decode cX0_drop 25 = .ok (.aastore, 1) := by decide +kernel
theorem dX0_drop_26 : decode cX0_drop 26 = .ok (.iinc 2 1, 3) := by decide +kernel
theorem dX0_drop_29 : decode cX0_drop 29 = .ok (.goto (-25), 3) := by decide +kernel
theorem dX0_drop_32 : decode cX0_drop 32 = .ok (.aload_n 0, 1) := by decide +kernel
theorem dX0_drop_33 : decode cX0_drop 33 = .ok (.dup, 1) := by decide +kernel
theorem dX0_drop_34 : decode cX0_drop 34 = .ok (.getfield 17, 3) := by decide +kernel
theorem dX0_drop_37 : decode cX0_drop 37 = .ok (.iconst 1, 1) := by decide +kernel
theorem dX0_drop_38 : decode cX0_drop 38 = .ok (.isub, 1) := by decide +kernel
theorem dX0_drop_39 : decode cX0_drop 39 = .ok (.putfield 17, 3) := by decide +kernel
theorem dX0_drop_42 : decode cX0_drop 42 = .ok (.aload_n 0, 1) := by decide +kernel
theorem dX0_drop_43 : decode cX0_drop 43 = .ok (.getfield 11, 3) := by decide +kernel
theorem dX0_drop_46 : decode cX0_drop 46 = .ok (.aload_n 0, 1) := by decide +kernel
theorem dX0_drop_47 : decode cX0_drop 47 = .ok (.getfield 17, 3) := by decide +kernel
theorem dX0_drop_50 : decode cX0_drop 50 = .ok (.aconst_null, 1) := by decide +kernel
theorem dX0_drop_51 : decode cX0_drop 51 = .ok (.aastore, 1) := by decide +kernel
theorem dX0_drop_52 : decode cX0_drop 52 = .ok (.return_, 1) := by decide +kernel
theorem dX1_init_0 : decode cX1_init 0 = .ok (.aload_n 0, 1) := by decide +kernel
theorem dX1_init_1 : decode cX1_init 1 = .ok (.invokespecial 3, 3) := by decide +kernel
theorem dX1_init_4 : decode cX1_init 4 = .ok (.aload_n 0, 1) := by decide +kernel
theorem dX1_init_5 : decode cX1_init 5 = .ok (.iconst 1, 1) := by decide +kernel
theorem dX1_init_6 : decode cX1_init 6 = .ok (.putfield 9, 3) := by decide +kernel
theorem dX1_init_9 : decode cX1_init 9 = .ok (.aload_n 0, 1) := by decide +kernel
theorem dX1_init_10 : decode cX1_init 10 = .ok (.bipush 40, 2) := by decide +kernel
theorem dX1_init_12 : decode cX1_init 12 = .ok (.anewarray 15, 3) := by decide +kernel
theorem dX1_init_15 : decode cX1_init 15 = .ok (.putfield 17, 3) := by decide +kernel
theorem dX1_init_18 : decode cX1_init 18 = .ok (.aload_n 0, 1) := by decide +kernel
theorem dX1_init_19 : decode cX1_init 19 = .ok (.bipush 40, 2) := by decide +kernel
theorem dX1_init_21 : decode cX1_init 21 = .ok (.anewarray 15, 3) := by decide +kernel
theorem dX1_init_24 : decode cX1_init 24 = .ok (.putfield 21, 3) := by decide +kernel
theorem dX1_init_27 : decode cX1_init 27 = .ok (.aload_n 0, 1) := by decide +kernel
theorem dX1_init_28 : decode cX1_init 28 = .ok (.iload_n 1, 1) := by decide +kernel
theorem dX1_init_29 : decode cX1_init 29 = .ok (.putfield 24, 3) := by decide +kernel
theorem dX1_init_32 : decode cX1_init 32 = .ok (.return_, 1) := by decide +kernel
theorem dX1_partFor_0 : decode cX1_partFor 0 = .ok (.new 15, 3) := by decide +kernel
theorem dX1_partFor_3 : decode cX1_partFor 3 = .ok (.dup, 1) := by decide +kernel
theorem dX1_partFor_4 : decode cX1_partFor 4 = .ok (.aload_n 1, 1) := by decide +kernel
theorem dX1_partFor_5 : decode cX1_partFor 5 = .ok (.aload_n 0, 1) := by decide +kernel
theorem dX1_partFor_6 : decode cX1_partFor 6 = .ok (.getfield 24, 3) := by decide +kernel
theorem dX1_partFor_9 : decode cX1_partFor 9 = .ok (.invokespecial 28, 3) := by decide +kernel
theorem dX1_partFor_12 : decode cX1_partFor 12 = .ok (.astore_n 2, 1) := by decide +kernel
theorem dX1_partFor_13 : decode cX1_partFor 13 = .ok (.aload_n 0, 1) := by decide +kernel
theorem dX1_partFor_14 : decode cX1_partFor 14 = .ok (.getfield 17, 3) := by decide +kernel
theorem dX1_partFor_17 : decode cX1_partFor 17 = .ok (.aload_n 1, 1) := by decide +kernel
theorem dX1_partFor_18 : decode cX1_partFor 18 = .ok (.getfield 31, 3) := by decide +kernel
theorem dX1_partFor_21 : decode cX1_partFor 21 = .ok (.aload_n 2, 1) := by decide +kernel
theorem dX1_partFor_22 : decode cX1_partFor 22 = .ok (.aastore, 1) := by decide +kernel
theorem dX1_partFor_23 : decode cX1_partFor 23 = .ok (.aload_n 2, 1) := by decide +kernel
theorem dX1_partFor_24 : decode cX1_partFor 24 = .ok (.areturn, 1) := by decide +kernel
theorem dX1_start_0 : decode cX1_start 0 = .ok (.aload_n 0, 1) := by decide +kernel
theorem dX1_start_1 : decode cX1_start 1 = .ok (.aload_n 0, 1) := by decide +kernel
theorem dX1_start_2 : decode cX1_start 2 = .ok (.getfield 34, 3) := by decide +kernel
theorem dX1_start_5 : decode cX1_start 5 = .ok (.aload_n 1, 1) := by decide +kernel
theorem dX1_start_6 : decode cX1_start 6 = .ok (.getfield 37, 3) := by decide +kernel
theorem dX1_start_9 : decode cX1_start 9 = .ok (.getfield 41, 3) := by decide +kernel
theorem dX1_start_12 : decode cX1_start 12 = .ok (.invokestatic 44, 3) := by decide +kernel
theorem dX1_start_15 : decode cX1_start 15 = .ok (.iconst 1, 1) := by decide +kernel
theorem dX1_start_16 : decode cX1_start 16 = .ok (.iadd, 1) := by decide +kernel
theorem dX1_start_17 : decode cX1_start 17 = .ok (.putfield 34, 3) := by decide +kernel
theorem dX1_start_20 : decode cX1_start 20 = .ok (.aload_n 1, 1) := by decide +kernel
theorem dX1_start_21 : decode cX1_start 21 = .ok (.aload_n 0, 1) := by decide +kernel
theorem dX1_start_22 : decode cX1_start 22 = .ok (.getfield 34, 3) := by decide +kernel
theorem dX1_start_25 : decode cX1_start 25 = .ok (.putfield 50, 3) := by decide +kernel
theorem dX1_start_28 : decode cX1_start 28 = .ok (.return_, 1) := by decide +kernel
theorem dX1_makeFinal_0 : decode cX1_makeFinal 0 = .ok (.iconst 0, 1) := by decide +kernel
theorem dX1_makeFinal_1 : decode cX1_makeFinal 1 = .ok (.istore_n 1, 1) := by decide +kernel
theorem dX1_makeFinal_2 : decode cX1_makeFinal 2 = .ok (.iload_n 1, 1) := by decide +kernel
theorem dX1_makeFinal_3 : decode cX1_makeFinal 3 = .ok (.bipush 40, 2) := by decide +kernel
theorem dX1_makeFinal_5 : decode cX1_makeFinal 5 = .ok (.if_icmp .ge 65, 3) := by decide +kernel
theorem dX1_makeFinal_8 : decode cX1_makeFinal 8 = .ok (.aload_n 0, 1) := by decide +kernel
theorem dX1_makeFinal_9 : decode cX1_makeFinal 9 = .ok (.getfield 17, 3) := by decide +kernel
theorem dX1_makeFinal_12 : decode cX1_makeFinal 12 = .ok (.iload_n 1, 1) := by decide +kernel
theorem dX1_makeFinal_13 : decode cX1_makeFinal 13 = .ok (.aaload, 1) := by decide +kernel
theorem dX1_makeFinal_14 : decode cX1_makeFinal 14 = .ok (.astore_n 2, 1) := by decide +kernel
theorem dX1_makeFinal_15 : decode cX1_makeFinal 15 = .ok (.aload_n 2, 1) := by decide +kernel
theorem dX1_makeFinal_16 : decode cX1_makeFinal 16 = .ok (.ifnull 48, 3) := by decide +kernel
theorem dX1_makeFinal_19 : decode cX1_makeFinal 19 = .ok (.aload_n 2, 1) := by decide +kernel
theorem dX1_makeFinal_20 : decode cX1_makeFinal 20 = .ok (.getfield 53, 3) := by decide +kernel
theorem dX1_makeFinal_23 : decode cX1_makeFinal 23 = .ok (.iconst (-1), 1) := by decide +kernel
theorem dX1_makeFinal_24 : decode cX1_makeFinal 24 = .ok (.if_icmp .ne 40, 3) := by decide +kernel
theorem dX1_makeFinal_27 : decode cX1_makeFinal 27 = .ok (.aload_n 2, 1) := by decide +kernel
theorem dX1_makeFinal_28 : decode cX1_makeFinal 28 = .ok (.invokevirtual 56, 3) := by decide +kernel
theorem dX1_makeFinal_31 : decode cX1_makeFinal 31 = .ok (.ifCond .eq 33, 3) := by decide +kernel
theorem dX1_makeFinal_34 : decode cX1_makeFinal 34 = .ok (.aload_n 2, 1) := by decide +kernel
theorem dX1_makeFinal_35 : decode cX1_makeFinal 35 = .ok (.aload_n 2, 1) := by decide +kernel
theorem dX1_makeFinal_36 : decode cX1_makeFinal 36 = .ok (.getfield 50, 3) := by decide +kernel
theorem dX1_makeFinal_39 : decode cX1_makeFinal 39 = .ok (.aload_n 2, 1) := by decide +kernel
theorem dX1_makeFinal_40 : decode cX1_makeFinal 40 = .ok (.getfield 60, 3) := by decide +kernel
theorem dX1_makeFinal_43 : decode cX1_makeFinal 43 = .ok (.invokestatic 44, 3) := by decide +kernel
theorem dX1_makeFinal_46 : decode cX1_makeFinal 46 = .ok (.putfield 53, 3) := by decide +kernel
theorem dX1_makeFinal_49 : decode cX1_makeFinal 49 = .ok (.aload_n 0, 1) := by decide +kernel
theorem dX1_makeFinal_50 : decode cX1_makeFinal 50 = .ok (.aload_n 0, 1) := by decide +kernel
theorem dX1_makeFinal_51 : decode cX1_makeFinal 51 = .ok (.getfield 34, 3) := by decide +kernel
theorem dX1_makeFinal_54 : decode cX1_makeFinal 54 = .ok (.aload_n 2, 1) := by decide +kernel
theorem dX1_makeFinal_55 : decode cX1_makeFinal 55 = .ok (.getfield 53, 3) := by decide +kernel
theorem dX1_makeFinal_58 : decode cX1_makeFinal 58 = .ok (.invokestatic 44, 3) := by decide +kernel
theorem dX1_makeFinal_61 : decode cX1_makeFinal 61 = .ok (.putfield 34, 3) := by decide +kernel
theorem dX1_makeFinal_64 : decode cX1_makeFinal 64 = .ok (.iinc 1 1, 3) := by decide +kernel
theorem dX1_makeFinal_67 : decode cX1_makeFinal 67 = .ok (.goto (-65), 3) := by decide +kernel
theorem dX1_makeFinal_70 : decode cX1_makeFinal 70 = .ok (.return_, 1) := by decide +kernel
theorem dX1_takeAll_0 : decode cX1_takeAll 0 = .ok (.aload_n 0, 1) := by decide +kernel
theorem dX1_takeAll_1 : decode cX1_takeAll 1 = .ok (.getfield 63, 3) := by decide +kernel
theorem dX1_takeAll_4 : decode cX1_takeAll 4 = .ok (.istore_n 1, 1) := by decide +kernel
theorem dX1_takeAll_5 : decode cX1_takeAll 5 = .ok (.iload_n 1, 1) := by decide +kernel
theorem dX1_takeAll_6 : decode cX1_takeAll 6 = .ok (.bipush 40, 2) := by decide +kernel
theorem dX1_takeAll_8 : decode cX1_takeAll 8 = .ok (.if_icmp .ge 46, 3) := by decide +kernel
theorem dX1_takeAll_11 : decode cX1_takeAll 11 = .ok (.aload_n 0, 1) := by decide +kernel
theorem dX1_takeAll_12 : decode cX1_takeAll 12 = .ok (.invokevirtual 66, 3) := by decide +kernel
theorem dX1_takeAll_15 : decode cX1_takeAll 15 = .ok (.astore_n 2, 1) := by decide +kernel
theorem dX1_takeAll_16 : decode cX1_takeAll 16 = .ok (.aload_n 2, 1) := by decide +kernel
theorem dX1_takeAll_17 : decode cX1_takeAll 17 = .ok (.ifnull 11, 3) := by decide +kernel
theorem dX1_takeAll_20 : decode cX1_takeAll 20 = .ok (.aload_n 2, 1) := by decide +kernel
theorem dX1_takeAll_21 : decode cX1_takeAll 21 = .ok (.getfield 53, 3) := by decide +kernel
theorem dX1_takeAll_24 : decode cX1_takeAll 24 = .ok (.iconst (-1), 1) := by decide +kernel
theorem dX1_takeAll_25 : decode cX1_takeAll 25 = .ok (.if_icmp .ne 4, 3) := by decide +kernel
theorem dX1_takeAll_28 : decode cX1_takeAll 28 = .ok (.return_, 1) := by decide +kernel
theorem dX1_takeAll_29 : decode cX1_takeAll 29 = .ok (.aload_n 2, 1) := by decide +kernel
theorem dX1_takeAll_30 : decode cX1_takeAll 30 = .ok (.iconst 1, 1) := by decide +kernel
theorem dX1_takeAll_31 : decode cX1_takeAll 31 = .ok (.putfield 70, 3) := by decide +kernel
theorem dX1_takeAll_34 : decode cX1_takeAll 34 = .ok (.aload_n 0, 1) := by decide +kernel
theorem dX1_takeAll_35 : decode cX1_takeAll 35 = .ok (.getfield 21, 3) := by decide +kernel
theorem dX1_takeAll_38 : decode cX1_takeAll 38 = .ok (.iload_n 1, 1) := by decide +kernel
theorem dX1_takeAll_39 : decode cX1_takeAll 39 = .ok (.aload_n 2, 1) := by decide +kernel
theorem dX1_takeAll_40 : decode cX1_takeAll 40 = .ok (.aastore, 1) := by decide +kernel
theorem dX1_takeAll_41 : decode cX1_takeAll 41 = .ok (.aload_n 0, 1) := by decide +kernel
theorem dX1_takeAll_42 : decode cX1_takeAll 42 = .ok (.iload_n 1, 1) := by decide +kernel
theorem dX1_takeAll_43 : decode cX1_takeAll 43 = .ok (.iconst 1, 1) := by decide +kernel
theorem dX1_takeAll_44 : decode cX1_takeAll 44 = .ok (.iadd, 1) := by decide +kernel
theorem dX1_takeAll_45 : decode cX1_takeAll 45 = .ok (.putfield 63, 3) := by decide +kernel
theorem dX1_takeAll_48 : decode cX1_takeAll 48 = .ok (.iinc 1 1, 3) := by decide +kernel
theorem dX1_takeAll_51 : decode cX1_takeAll 51 = .ok (.goto (-46), 3) := by decide +kernel
theorem dX1_takeAll_54 : decode cX1_takeAll 54 = .ok (.return_, 1) := by decide +kernel
theorem dX1_earliestWaiting_0 : decode cX1_earliestWaiting 0 = .ok (.aconst_null, 1) := by decide +kernel
theorem dX1_earliestWaiting_1 : decode cX1_earliestWaiting 1 = .ok (.astore_n 1, 1) := by decide +kernel
theorem dX1_earliestWaiting_2 : decode cX1_earliestWaiting 2 = .ok (.iconst 0, 1) := by decide +kernel
theorem dX1_earliestWaiting_3 : decode cX1_earliestWaiting 3 = .ok (.istore_n 2, 1) := by decide +kernel
theorem dX1_earliestWaiting_4 : decode cX1_earliestWaiting 4 = .ok (.iload_n 2, 1) := by decide +kernel
theorem dX1_earliestWaiting_5 : decode cX1_earliestWaiting 5 = .ok (.bipush 40, 2) := by decide +kernel
theorem dX1_earliestWaiting_7 : decode cX1_earliestWaiting 7 = .ok (.if_icmp .ge 53, 3) := by decide +kernel
theorem dX1_earliestWaiting_10 : decode cX1_earliestWaiting 10 = .ok (.aload_n 0, 1) := by decide +kernel
theorem dX1_earliestWaiting_11 : decode cX1_earliestWaiting 11 = .ok (.getfield 17, 3) := by decide +kernel
theorem dX1_earliestWaiting_14 : decode cX1_earliestWaiting 14 = .ok (.iload_n 2, 1) := by decide +kernel
theorem dX1_earliestWaiting_15 : decode cX1_earliestWaiting 15 = .ok (.aaload, 1) := by decide +kernel
theorem dX1_earliestWaiting_16 : decode cX1_earliestWaiting 16 = .ok (.astore_n 3, 1) := by decide +kernel
theorem dX1_earliestWaiting_17 : decode cX1_earliestWaiting 17 = .ok (.aload_n 3, 1) := by decide +kernel
theorem dX1_earliestWaiting_18 : decode cX1_earliestWaiting 18 = .ok (.ifnull 14, 3) := by decide +kernel
theorem dX1_earliestWaiting_21 : decode cX1_earliestWaiting 21 = .ok (.aload_n 3, 1) := by decide +kernel
theorem dX1_earliestWaiting_22 : decode cX1_earliestWaiting 22 = .ok (.invokevirtual 73, 3) := by decide +kernel
theorem dX1_earliestWaiting_25 : decode cX1_earliestWaiting 25 = .ok (.ifCond .eq 7, 3) := by decide +kernel
theorem dX1_earliestWaiting_28 : decode cX1_earliestWaiting 28 = .ok (.iconst 1, 1) := by decide +kernel
theorem dX1_earliestWaiting_29 : decode cX1_earliestWaiting 29 = .ok (.goto 4, 3) := by decide +kernel
theorem dX1_earliestWaiting_32 : decode cX1_earliestWaiting 32 = .ok (.iconst 0, 1) := by decide +kernel
theorem dX1_earliestWaiting_33 : decode cX1_earliestWaiting 33 = .ok (.istore 4, 2) := by decide +kernel
theorem dX1_earliestWaiting_35 : decode cX1_earliestWaiting 35 = .ok (.iload 4, 2) := by decide +kernel
theorem dX1_earliestWaiting_37 : decode cX1_earliestWaiting 37 = .ok (.ifCond .eq 17, 3) := by decide +kernel
theorem dX1_earliestWaiting_40 : decode cX1_earliestWaiting 40 = .ok (.aload_n 1, 1) := by decide +kernel
theorem dX1_earliestWaiting_41 : decode cX1_earliestWaiting 41 = .ok (.ifnull 11, 3) := by decide +kernel
theorem dX1_earliestWaiting_44 : decode cX1_earliestWaiting 44 = .ok (.aload_n 3, 1) := by decide +kernel
theorem dX1_earliestWaiting_45 : decode cX1_earliestWaiting 45 = .ok (.aload_n 1, 1) := by decide +kernel
theorem dX1_earliestWaiting_46 : decode cX1_earliestWaiting 46 = .ok (.invokevirtual 76, 3) := by decide +kernel
theorem dX1_earliestWaiting_49 : decode cX1_earliestWaiting 49 = .ok (.ifCond .eq 5, 3) := by decide +kernel
theorem dX1_earliestWaiting_52 : decode cX1_earliestWaiting 52 = .ok (.aload_n 3, 1) := by decide +kernel
theorem dX1_earliestWaiting_53 : decode cX1_earliestWaiting 53 = .ok (.astore_n 1, 1) := by decide +kernel
theorem dX1_earliestWaiting_54 : decode cX1_earliestWaiting 54 = .ok (.iinc 2 1, 3) := by decide +kernel
theorem dX1_earliestWaiting_57 : decode cX1_earliestWaiting 57 = .ok (.goto (-53), 3) := by decide +kernel
theorem dX1_earliestWaiting_60 : decode cX1_earliestWaiting 60 = .ok (.aload_n 1, 1) := by decide +kernel
theorem dX1_earliestWaiting_61 : decode cX1_earliestWaiting 61 = .ok (.areturn, 1) := by decide +kernel
theorem dX2_init_0 : decode cX2_init 0 = .ok (.aload_n 0, 1) := by decide +kernel
theorem dX2_init_1 : decode cX2_init 1 = .ok (.invokespecial 1, 3) := by decide +kernel
theorem dX2_init_4 : decode cX2_init 4 = .ok (.aload_n 0, 1) := by decide +kernel
theorem dX2_init_5 : decode cX2_init 5 = .ok (.iload_n 1, 1) := by decide +kernel
theorem dX2_init_6 : decode cX2_init 6 = .ok (.putfield 7, 3) := by decide +kernel
theorem dX2_init_9 : decode cX2_init 9 = .ok (.aload_n 0, 1) := by decide +kernel
theorem dX2_init_10 : decode cX2_init 10 = .ok (.iload_n 2, 1) := by decide +kernel
theorem dX2_init_11 : decode cX2_init 11 = .ok (.putfield 13, 3) := by decide +kernel
theorem dX2_init_14 : decode cX2_init 14 = .ok (.aload_n 0, 1) := by decide +kernel
theorem dX2_init_15 : decode cX2_init 15 = .ok (.aload_n 3, 1) := by decide +kernel
theorem dX2_init_16 : decode cX2_init 16 = .ok (.putfield 16, 3) := by decide +kernel
theorem dX2_init_19 : decode cX2_init 19 = .ok (.aload_n 0, 1) := by decide +kernel
theorem dX2_init_20 : decode cX2_init 20 = .ok (.iload 4, 2) := by decide +kernel
theorem dX2_init_22 : decode cX2_init 22 = .ok (.putfield 20, 3) := by decide +kernel
theorem dX2_init_25 : decode cX2_init 25 = .ok (.return_, 1) := by decide +kernel
theorem dX3_init_0 : decode cX3_init 0 = .ok (.aload_n 0, 1) := by decide +kernel
theorem dX3_init_1 : decode cX3_init 1 = .ok (.invokespecial 3, 3) := by decide +kernel
theorem dX3_init_4 : decode cX3_init 4 = .ok (.aload_n 0, 1) := by decide +kernel
theorem dX3_init_5 : decode cX3_init 5 = .ok (.iload_n 1, 1) := by decide +kernel
theorem dX3_init_6 : decode cX3_init 6 = .ok (.putfield 9, 3) := by decide +kernel
theorem dX3_init_9 : decode cX3_init 9 = .ok (.aload_n 0, 1) := by decide +kernel
theorem dX3_init_10 : decode cX3_init 10 = .ok (.iload_n 2, 1) := by decide +kernel
theorem dX3_init_11 : decode cX3_init 11 = .ok (.putfield 15, 3) := by decide +kernel
theorem dX3_init_14 : decode cX3_init 14 = .ok (.aload_n 0, 1) := by decide +kernel
theorem dX3_init_15 : decode cX3_init 15 = .ok (.iload_n 3, 1) := by decide +kernel
theorem dX3_init_16 : decode cX3_init 16 = .ok (.putfield 18, 3) := by decide +kernel
theorem dX3_init_19 : decode cX3_init 19 = .ok (.aload_n 0, 1) := by decide +kernel
theorem dX3_init_20 : decode cX3_init 20 = .ok (.iload 4, 2) := by decide +kernel
theorem dX3_init_22 : decode cX3_init 22 = .ok (.putfield 21, 3) := by decide +kernel
theorem dX3_init_25 : decode cX3_init 25 = .ok (.aload_n 0, 1) := by decide +kernel
theorem dX3_init_26 : decode cX3_init 26 = .ok (.iload_n 3, 1) := by decide +kernel
theorem dX3_init_27 : decode cX3_init 27 = .ok (.ifCond .ne 8, 3) := by decide +kernel
theorem dX3_init_30 : decode cX3_init 30 = .ok (.iload 4, 2) := by decide +kernel
theorem dX3_init_32 : decode cX3_init 32 = .ok (.goto 5, 3) := by decide +kernel
theorem dX3_init_35 : decode cX3_init 35 = .ok (.iload 5, 2) := by decide +kernel
theorem dX3_init_37 : decode cX3_init 37 = .ok (.putfield 24, 3) := by decide +kernel
theorem dX3_init_40 : decode cX3_init 40 = .ok (.aload_n 0, 1) := by decide +kernel
theorem dX3_init_41 : decode cX3_init 41 = .ok (.iload 6, 2) := by decide +kernel
theorem dX3_init_43 : decode cX3_init 43 = .ok (.putfield 27, 3) := by decide +kernel
theorem dX3_init_46 : decode cX3_init 46 = .ok (.return_, 1) := by decide +kernel
theorem dX3_isMoved_0 : decode cX3_isMoved 0 = .ok (.aload_n 0, 1) := by decide +kernel
theorem dX3_isMoved_1 : decode cX3_isMoved 1 = .ok (.getfield 18, 3) := by decide +kernel
theorem dX3_isMoved_4 : decode cX3_isMoved 4 = .ok (.iconst 1, 1) := by decide +kernel
theorem dX3_isMoved_5 : decode cX3_isMoved 5 = .ok (.if_icmp .ne 26, 3) := by decide +kernel
theorem dX3_isMoved_8 : decode cX3_isMoved 8 = .ok (.aload_n 0, 1) := by decide +kernel
theorem dX3_isMoved_9 : decode cX3_isMoved 9 = .ok (.getfield 21, 3) := by decide +kernel
theorem dX3_isMoved_12 : decode cX3_isMoved 12 = .ok (.aload_n 0, 1) := by decide +kernel
theorem dX3_isMoved_13 : decode cX3_isMoved 13 = .ok (.getfield 24, 3) := by decide +kernel
theorem dX3_isMoved_16 : decode cX3_isMoved 16 = .ok (.if_icmp .eq 15, 3) := by decide +kernel
theorem dX3_isMoved_19 : decode cX3_isMoved 19 = .ok (.iload_n 1, 1) := by decide +kernel
theorem dX3_isMoved_20 : decode cX3_isMoved 20 = .ok (.aload_n 0, 1) := by decide +kernel
theorem dX3_isMoved_21 : decode cX3_isMoved 21 = .ok (.getfield 27, 3) := by decide +kernel
theorem dX3_isMoved_24 : decode cX3_isMoved 24 = .ok (.if_icmp .lt 7, 3) := by decide +kernel
theorem dX3_isMoved_27 : decode cX3_isMoved 27 = .ok (.iconst 1, 1) := by decide +kernel
theorem dX3_isMoved_28 : decode cX3_isMoved 28 = .ok (.goto 4, 3) := by decide +kernel
theorem dX3_isMoved_31 : decode cX3_isMoved 31 = .ok (.iconst 0, 1) := by decide +kernel
theorem dX3_isMoved_32 : decode cX3_isMoved 32 = .ok (.ireturn, 1) := by decide +kernel
theorem dX3_behindA_0 : decode cX3_behindA 0 = .ok (.aload_n 0, 1) := by decide +kernel
theorem dX3_behindA_1 : decode cX3_behindA 1 = .ok (.getfield 18, 3) := by decide +kernel
theorem dX3_behindA_4 : decode cX3_behindA 4 = .ok (.ifCond .ne 10, 3) := by decide +kernel
theorem dX3_behindA_7 : decode cX3_behindA 7 = .ok (.iload_n 1, 1) := by decide +kernel
theorem dX3_behindA_8 : decode cX3_behindA 8 = .ok (.aload_n 0, 1) := by decide +kernel
theorem dX3_behindA_9 : decode cX3_behindA 9 = .ok (.getfield 27, 3) := by decide +kernel
theorem dX3_behindA_12 : decode cX3_behindA 12 = .ok (.iadd, 1) := by decide +kernel
theorem dX3_behindA_13 : decode cX3_behindA 13 = .ok (.ireturn, 1) := by decide +kernel
theorem dX3_behindA_14 : decode cX3_behindA 14 = .ok (.aload_n 0, 1) := by decide +kernel
theorem dX3_behindA_15 : decode cX3_behindA 15 = .ok (.getfield 18, 3) := by decide +kernel
theorem dX3_behindA_18 : decode cX3_behindA 18 = .ok (.iconst 3, 1) := by decide +kernel
theorem dX3_behindA_19 : decode cX3_behindA 19 = .ok (.if_icmp .ne 5, 3) := by decide +kernel
theorem dX3_behindA_22 : decode cX3_behindA 22 = .ok (.iload_n 2, 1) := by decide +kernel
theorem dX3_behindA_23 : decode cX3_behindA 23 = .ok (.ireturn, 1) := by decide +kernel
theorem dX3_behindA_24 : decode cX3_behindA 24 = .ok (.aload_n 0, 1) := by decide +kernel
theorem dX3_behindA_25 : decode cX3_behindA 25 = .ok (.iload_n 1, 1) := by decide +kernel
theorem dX3_behindA_26 : decode cX3_behindA 26 = .ok (.invokevirtual 30, 3) := by decide +kernel
theorem dX3_behindA_29 : decode cX3_behindA 29 = .ok (.ifCond .eq 12, 3) := by decide +kernel
theorem dX3_behindA_32 : decode cX3_behindA 32 = .ok (.iload_n 1, 1) := by decide +kernel
theorem dX3_behindA_33 : decode cX3_behindA 33 = .ok (.aload_n 0, 1) := by decide +kernel
theorem dX3_behindA_34 : decode cX3_behindA 34 = .ok (.getfield 27, 3) := by decide +kernel
theorem dX3_behindA_37 : decode cX3_behindA 37 = .ok (.isub, 1) := by decide +kernel
theorem dX3_behindA_38 : decode cX3_behindA 38 = .ok (.goto 4, 3) := by decide +kernel
theorem dX3_behindA_41 : decode cX3_behindA 41 = .ok (.iload_n 1, 1) := by decide +kernel
theorem dX3_behindA_42 : decode cX3_behindA 42 = .ok (.ireturn, 1) := by decide +kernel
theorem dX3_behindB_0 : decode cX3_behindB 0 = .ok (.aload_n 0, 1) := by decide +kernel
theorem dX3_behindB_1 : decode cX3_behindB 1 = .ok (.getfield 18, 3) := by decide +kernel
theorem dX3_behindB_4 : decode cX3_behindB 4 = .ok (.iconst 3, 1) := by decide +kernel
theorem dX3_behindB_5 : decode cX3_behindB 5 = .ok (.if_icmp .ne 5, 3) := by decide +kernel
theorem dX3_behindB_8 : decode cX3_behindB 8 = .ok (.iload_n 1, 1) := by decide +kernel
theorem dX3_behindB_9 : decode cX3_behindB 9 = .ok (.ireturn, 1) := by decide +kernel
theorem dX3_behindB_10 : decode cX3_behindB 10 = .ok (.aload_n 0, 1) := by decide +kernel
theorem dX3_behindB_11 : decode cX3_behindB 11 = .ok (.iload_n 1, 1) := by decide +kernel
theorem dX3_behindB_12 : decode cX3_behindB 12 = .ok (.invokevirtual 30, 3) := by decide +kernel
theorem dX3_behindB_15 : decode cX3_behindB 15 = .ok (.ifCond .eq 12, 3) := by decide +kernel
theorem dX3_behindB_18 : decode cX3_behindB 18 = .ok (.iload_n 2, 1) := by decide +kernel
theorem dX3_behindB_19 : decode cX3_behindB 19 = .ok (.aload_n 0, 1) := by decide +kernel
theorem dX3_behindB_20 : decode cX3_behindB 20 = .ok (.getfield 27, 3) := by decide +kernel
theorem dX3_behindB_23 : decode cX3_behindB 23 = .ok (.iadd, 1) := by decide +kernel
theorem dX3_behindB_24 : decode cX3_behindB 24 = .ok (.goto 4, 3) := by decide +kernel
theorem dX3_behindB_27 : decode cX3_behindB 27 = .ok (.iload_n 2, 1) := by decide +kernel
theorem dX3_behindB_28 : decode cX3_behindB 28 = .ok (.ireturn, 1) := by decide +kernel
theorem dX3_reply_0 : decode cX3_reply 0 = .ok (.aload_n 0, 1) := by decide +kernel
theorem dX3_reply_1 : decode cX3_reply 1 = .ok (.getfield 18, 3) := by decide +kernel
theorem dX3_reply_4 : decode cX3_reply 4 = .ok (.iconst 1, 1) := by decide +kernel
theorem dX3_reply_5 : decode cX3_reply 5 = .ok (.if_icmp .ne 17, 3) := by decide +kernel
theorem dX3_reply_8 : decode cX3_reply 8 = .ok (.iload_n 1, 1) := by decide +kernel
theorem dX3_reply_9 : decode cX3_reply 9 = .ok (.aload_n 0, 1) := by decide +kernel
theorem dX3_reply_10 : decode cX3_reply 10 = .ok (.getfield 27, 3) := by decide +kernel
theorem dX3_reply_13 : decode cX3_reply 13 = .ok (.if_icmp .lt 7, 3) := by decide +kernel
theorem dX3_reply_16 : decode cX3_reply 16 = .ok (.iconst 1, 1) := by decide +kernel
theorem dX3_reply_17 : decode cX3_reply 17 = .ok (.goto 4, 3) := by decide +kernel
theorem dX3_reply_20 : decode cX3_reply 20 = .ok (.iconst 0, 1) := by decide +kernel
theorem dX3_reply_21 : decode cX3_reply 21 = .ok (.ireturn, 1) := by decide +kernel
theorem dX3_reply_22 : decode cX3_reply 22 = .ok (.aload_n 0, 1) := by decide +kernel
theorem dX3_reply_23 : decode cX3_reply 23 = .ok (.getfield 18, 3) := by decide +kernel
theorem dX3_reply_26 : decode cX3_reply 26 = .ok (.iconst 2, 1) := by decide +kernel
theorem dX3_reply_27 : decode cX3_reply 27 = .ok (.if_icmp .ne 9, 3) := by decide +kernel
theorem dX3_reply_30 : decode cX3_reply 30 = .ok (.iload_n 1, 1) := by decide +kernel
theorem dX3_reply_31 : decode cX3_reply 31 = .ok (.iload_n 2, 1) := by decide +kernel
theorem dX3_reply_32 : decode cX3_reply 32 = .ok (.iadd, 1) := by decide +kernel
theorem dX3_reply_33 : decode cX3_reply 33 = .ok (.goto 9, 3) := by decide +kernel
theorem dX3_reply_36 : decode cX3_reply 36 = .ok (.aload_n 0, 1) := by decide +kernel
theorem dX3_reply_37 : decode cX3_reply 37 = .ok (.iload_n 1, 1) := by decide +kernel
theorem dX3_reply_38 : decode cX3_reply 38 = .ok (.iload_n 2, 1) := by decide +kernel
theorem dX3_reply_39 : decode cX3_reply 39 = .ok (.invokevirtual 34, 3) := by decide +kernel
theorem dX3_reply_42 : decode cX3_reply 42 = .ok (.ireturn, 1) := by decide +kernel
theorem dX4_init_0 : decode cX4_init 0 = .ok (.aload_n 0, 1) := by decide +kernel
theorem dX4_init_1 : decode cX4_init 1 = .ok (.invokespecial 3, 3) := by decide +kernel
theorem dX4_init_4 : decode cX4_init 4 = .ok (.aload_n 0, 1) := by decide +kernel
theorem dX4_init_5 : decode cX4_init 5 = .ok (.iconst (-1), 1) := by decide +kernel
theorem dX4_init_6 : decode cX4_init 6 = .ok (.putfield 9, 3) := by decide +kernel
theorem dX4_init_9 : decode cX4_init 9 = .ok (.aload_n 0, 1) := by decide +kernel
theorem dX4_init_10 : decode cX4_init 10 = .ok (.iconst (-1), 1) := by decide +kernel
theorem dX4_init_11 : decode cX4_init 11 = .ok (.putfield 15, 3) := by decide +kernel
theorem dX4_init_14 : decode cX4_init 14 = .ok (.aload_n 0, 1) := by decide +kernel
theorem dX4_init_15 : decode cX4_init 15 = .ok (.iconst (-1), 1) := by decide +kernel
theorem dX4_init_16 : decode cX4_init 16 = .ok (.putfield 18, 3) := by decide +kernel
theorem dX4_init_19 : decode cX4_init 19 = .ok (.aload_n 0, 1) := by decide +kernel
theorem dX4_init_20 : decode cX4_init 20 = .ok (.aload_n 1, 1) := by decide +kernel
theorem dX4_init_21 : decode cX4_init 21 = .ok (.putfield 21, 3) := by decide +kernel
theorem dX4_init_24 : decode cX4_init 24 = .ok (.aload_n 0, 1) := by decide +kernel
theorem dX4_init_25 : decode cX4_init 25 = .ok (.iload_n 2, 1) := by decide +kernel
theorem dX4_init_26 : decode cX4_init 26 = .ok (.putfield 25, 3) := by decide +kernel
theorem dX4_init_29 : decode cX4_init 29 = .ok (.return_, 1) := by decide +kernel
theorem dX4_hasAllLocalTimes_0 : decode cX4_hasAllLocalTimes 0 = .ok (.aload_n 0, 1) := by decide +kernel
theorem dX4_hasAllLocalTimes_1 : decode cX4_hasAllLocalTimes 1 = .ok (.getfield 9, 3) := by decide +kernel
theorem dX4_hasAllLocalTimes_4 : decode cX4_hasAllLocalTimes 4 = .ok (.iconst (-1), 1) := by decide +kernel
theorem dX4_hasAllLocalTimes_5 : decode cX4_hasAllLocalTimes 5 = .ok (.if_icmp .eq 22, 3) := by decide +kernel
theorem dX4_hasAllLocalTimes_8 : decode cX4_hasAllLocalTimes 8 = .ok (.aload_n 0, 1) := by decide +kernel
theorem dX4_hasAllLocalTimes_9 : decode cX4_hasAllLocalTimes 9 = .ok (.getfield 28, 3) := by decide +kernel
theorem dX4_hasAllLocalTimes_12 : decode cX4_hasAllLocalTimes 12 = .ok (.ifnull 11, 3) := by decide +kernel
theorem dX4_hasAllLocalTimes_15 : decode cX4_hasAllLocalTimes 15 = .ok (.aload_n 0, 1) := by decide +kernel
theorem dX4_hasAllLocalTimes_16 : decode cX4_hasAllLocalTimes 16 = .ok (.getfield 15, 3) := by decide +kernel
theorem dX4_hasAllLocalTimes_19 : decode cX4_hasAllLocalTimes 19 = .ok (.iconst (-1), 1) := by decide +kernel
theorem dX4_hasAllLocalTimes_20 : decode cX4_hasAllLocalTimes 20 = .ok (.if_icmp .eq 7, 3) := by decide +kernel
theorem dX4_hasAllLocalTimes_23 : decode cX4_hasAllLocalTimes 23 = .ok (.iconst 1, 1) := by decide +kernel
theorem dX4_hasAllLocalTimes_24 : decode cX4_hasAllLocalTimes 24 = .ok (.goto 4, 3) := by decide +kernel
theorem dX4_hasAllLocalTimes_27 : decode cX4_hasAllLocalTimes 27 = .ok (.iconst 0, 1) := by decide +kernel
theorem dX4_hasAllLocalTimes_28 : decode cX4_hasAllLocalTimes 28 = .ok (.ireturn, 1) := by decide +kernel
theorem dX4_waits_0 : decode cX4_waits 0 = .ok (.aload_n 0, 1) := by decide +kernel
theorem dX4_waits_1 : decode cX4_waits 1 = .ok (.getfield 9, 3) := by decide +kernel
theorem dX4_waits_4 : decode cX4_waits 4 = .ok (.iconst (-1), 1) := by decide +kernel
theorem dX4_waits_5 : decode cX4_waits 5 = .ok (.if_icmp .eq 14, 3) := by decide +kernel
theorem dX4_waits_8 : decode cX4_waits 8 = .ok (.aload_n 0, 1) := by decide +kernel
theorem dX4_waits_9 : decode cX4_waits 9 = .ok (.getfield 32, 3) := by decide +kernel
theorem dX4_waits_12 : decode cX4_waits 12 = .ok (.ifCond .ne 7, 3) := by decide +kernel
theorem dX4_waits_15 : decode cX4_waits 15 = .ok (.iconst 1, 1) := by decide +kernel
theorem dX4_waits_16 : decode cX4_waits 16 = .ok (.goto 4, 3) := by decide +kernel
theorem dX4_waits_19 : decode cX4_waits 19 = .ok (.iconst 0, 1) := by decide +kernel
theorem dX4_waits_20 : decode cX4_waits 20 = .ok (.ireturn, 1) := by decide +kernel
theorem dX4_isEarlierThan_0 : decode cX4_isEarlierThan 0 = .ok (.aload_n 0, 1) := by decide +kernel
theorem dX4_isEarlierThan_1 : decode cX4_isEarlierThan 1 = .ok (.invokevirtual 36, 3) := by decide +kernel
theorem dX4_isEarlierThan_4 : decode cX4_isEarlierThan 4 = .ok (.aload_n 1, 1) := by decide +kernel
theorem dX4_isEarlierThan_5 : decode cX4_isEarlierThan 5 = .ok (.invokevirtual 36, 3) := by decide +kernel
theorem dX4_isEarlierThan_8 : decode cX4_isEarlierThan 8 = .ok (.invokestatic 40, 3) := by decide +kernel
theorem dX4_isEarlierThan_11 : decode cX4_isEarlierThan 11 = .ok (.istore_n 2, 1) := by decide +kernel
theorem dX4_isEarlierThan_12 : decode cX4_isEarlierThan 12 = .ok (.iload_n 2, 1) := by decide +kernel
theorem dX4_isEarlierThan_13 : decode cX4_isEarlierThan 13 = .ok (.ifCond .lt 24, 3) := by decide +kernel
theorem dX4_isEarlierThan_16 : decode cX4_isEarlierThan 16 = .ok (.iload_n 2, 1) := by decide +kernel
theorem dX4_isEarlierThan_17 : decode cX4_isEarlierThan 17 = .ok (.ifCond .ne 24, 3) := by decide +kernel
theorem dX4_isEarlierThan_20 : decode cX4_isEarlierThan 20 = .ok (.aload_n 0, 1) := by decide +kernel
theorem dX4_isEarlierThan_21 : decode cX4_isEarlierThan 21 = .ok (.getfield 21, 3) := by decide +kernel
theorem dX4_isEarlierThan_24 : decode cX4_isEarlierThan 24 = .ok (.getfield 46, 3) := by decide +kernel
theorem dX4_isEarlierThan_27 : decode cX4_isEarlierThan 27 = .ok (.aload_n 1, 1) := by decide +kernel
theorem dX4_isEarlierThan_28 : decode cX4_isEarlierThan 28 = .ok (.getfield 21, 3) := by decide +kernel
theorem dX4_isEarlierThan_31 : decode cX4_isEarlierThan 31 = .ok (.getfield 46, 3) := by decide +kernel
theorem dX4_isEarlierThan_34 : decode cX4_isEarlierThan 34 = .ok (.if_icmp .ge 7, 3) := by decide +kernel
theorem dX4_isEarlierThan_37 : decode cX4_isEarlierThan 37 = .ok (.iconst 1, 1) := by decide +kernel
theorem dX4_isEarlierThan_38 : decode cX4_isEarlierThan 38 = .ok (.goto 4, 3) := by decide +kernel
theorem dX4_isEarlierThan_41 : decode cX4_isEarlierThan 41 = .ok (.iconst 0, 1) := by decide +kernel
theorem dX4_isEarlierThan_42 : decode cX4_isEarlierThan 42 = .ok (.ireturn, 1) := by decide +kernel
theorem dX4_leastTime_0 : decode cX4_leastTime 0 = .ok (.aload_n 0, 1) := by decide +kernel
theorem dX4_leastTime_1 : decode cX4_leastTime 1 = .ok (.getfield 18, 3) := by decide +kernel
theorem dX4_leastTime_4 : decode cX4_leastTime 4 = .ok (.iconst (-1), 1) := by decide +kernel
theorem dX4_leastTime_5 : decode cX4_leastTime 5 = .ok (.if_icmp .eq 10, 3) := by decide +kernel
theorem dX4_leastTime_8 : decode cX4_leastTime 8 = .ok (.aload_n 0, 1) := by decide +kernel
theorem dX4_leastTime_9 : decode cX4_leastTime 9 = .ok (.getfield 18, 3) := by decide +kernel
theorem dX4_leastTime_12 : decode cX4_leastTime 12 = .ok (.goto 7, 3) := by decide +kernel
theorem dX4_leastTime_15 : decode cX4_leastTime 15 = .ok (.aload_n 0, 1) := by decide +kernel
theorem dX4_leastTime_16 : decode cX4_leastTime 16 = .ok (.getfield 9, 3) := by decide +kernel
theorem dX4_leastTime_19 : decode cX4_leastTime 19 = .ok (.ireturn, 1) := by decide +kernel
theorem dX5_init_0 : decode cX5_init 0 = .ok (.aload_n 0, 1) := by decide +kernel
theorem dX5_init_1 : decode cX5_init 1 = .ok (.invokespecial 3, 3) := by decide +kernel
theorem dX5_init_4 : decode cX5_init 4 = .ok (.aload_n 0, 1) := by decide +kernel
theorem dX5_init_5 : decode cX5_init 5 = .ok (.bipush 16, 2) := by decide +kernel
theorem dX5_init_7 : decode cX5_init 7 = .ok (.newarray .int, 2) := by decide +kernel
theorem dX5_init_9 : decode cX5_init 9 = .ok (.putfield 9, 3) := by decide +kernel
theorem dX5_init_12 : decode cX5_init 12 = .ok (.aload_n 0, 1) := by decide +kernel
theorem dX5_init_13 : decode cX5_init 13 = .ok (.iconst 4, 1) := by decide +kernel
theorem dX5_init_14 : decode cX5_init 14 = .ok (.newarray .int, 2) := by decide +kernel
theorem dX5_init_16 : decode cX5_init 16 = .ok (.putfield 13, 3) := by decide +kernel
theorem dX5_init_19 : decode cX5_init 19 = .ok (.aload_n 0, 1) := by decide +kernel
theorem dX5_init_20 : decode cX5_init 20 = .ok (.bipush 40, 2) := by decide +kernel
theorem dX5_init_22 : decode cX5_init 22 = .ok (.anewarray 16, 3) := by decide +kernel
theorem dX5_init_25 : decode cX5_init 25 = .ok (.putfield 18, 3) := by decide +kernel
theorem dX5_init_28 : decode cX5_init 28 = .ok (.aload_n 0, 1) := by decide +kernel
theorem dX5_init_29 : decode cX5_init 29 = .ok (.new 22, 3) := by decide +kernel
theorem dX5_init_32 : decode cX5_init 32 = .ok (.dup, 1) := by decide +kernel
theorem dX5_init_33 : decode cX5_init 33 = .ok (.invokespecial 24, 3) := by decide +kernel
theorem dX5_init_36 : decode cX5_init 36 = .ok (.putfield 25, 3) := by decide +kernel
theorem dX5_init_39 : decode cX5_init 39 = .ok (.aload_n 0, 1) := by decide +kernel
theorem dX5_init_40 : decode cX5_init 40 = .ok (.bipush 16, 2) := by decide +kernel
theorem dX5_init_42 : decode cX5_init 42 = .ok (.newarray .int, 2) := by decide +kernel
theorem dX5_init_44 : decode cX5_init 44 = .ok (.putfield 29, 3) := by decide +kernel
theorem dX5_init_47 : decode cX5_init 47 = .ok (.aload_n 0, 1) := by decide +kernel
theorem dX5_init_48 : decode cX5_init 48 = .ok (.bipush 16, 2) := by decide +kernel
theorem dX5_init_50 : decode cX5_init 50 = .ok (.newarray .int, 2) := by decide +kernel
theorem dX5_init_52 : decode cX5_init 52 = .ok (.putfield 32, 3) := by decide +kernel
theorem dX5_init_55 : decode cX5_init 55 = .ok (.iconst 2, 1) := by decide +kernel
theorem dX5_init_56 : decode cX5_init 56 = .ok (.iconst 4, 1) := by decide +kernel
theorem dX5_init_57 : decode cX5_init 57 = .ok (.iload_n 1, 1) := by decide +kernel
theorem dX5_init_58 : decode cX5_init 58 = .ok (.invokestatic 35, 3) := by decide +kernel
theorem dX5_init_61 : decode cX5_init 61 = .ok (.invokestatic 41, 3) := by decide +kernel
theorem dX5_init_64 : decode cX5_init 64 = .ok (.istore_n 2, 1) := by decide +kernel
theorem dX5_init_65 : decode cX5_init 65 = .ok (.aload_n 0, 1) := by decide +kernel
end
section
theorem dX5_init_66 : decode cX5_init 66 = .ok (.iload_n 2, 1) := by decide +kernel
theorem dX5_init_67 : decode cX5_init 67 = .ok (.anewarray 44, 3) := by decide +kernel
theorem dX5_init_70 : decode cX5_init 70 = .ok (.putfield 46, 3) := by decide +kernel
theorem dX5_init_73 : decode cX5_init 73 = .ok (.iconst 0, 1) := by decide +kernel
theorem dX5_init_74 : decode cX5_init 74 = .ok (.istore_n 3, 1) := by decide +kernel
theorem dX5_init_75 : decode cX5_init 75 = .ok (.iload_n 3, 1) := by decide +kernel
theorem dX5_init_76 : decode cX5_init 76 = .ok (.iload_n 2, 1) := by decide +kernel
theorem dX5_init_77 : decode cX5_init 77 = .ok (.if_icmp .ge 23, 3) := by decide +kernel
theorem dX5_init_80 : decode cX5_init 80 = .ok (.aload_n 0, 1) := by decide +kernel
theorem dX5_init_81 : decode cX5_init 81 = .ok (.getfield 46, 3) := by decide +kernel
theorem dX5_init_84 : decode cX5_init 84 = .ok (.iload_n 3, 1) := by decide +kernel
theorem dX5_init_85 : decode cX5_init 85 = .ok (.new 44, 3) := by decide +kernel
theorem dX5_init_88 : decode cX5_init 88 = .ok (.dup, 1) := by decide +kernel
theorem dX5_init_89 : decode cX5_init 89 = .ok (.iload_n 3, 1) := by decide +kernel
theorem dX5_init_90 : decode cX5_init 90 = .ok (.invokespecial 50, 3) := by decide +kernel
theorem dX5_init_93 : decode cX5_init 93 = .ok (.aastore, 1) := by decide +kernel
theorem dX5_init_94 : decode cX5_init 94 = .ok (.iinc 3 1, 3) := by decide +kernel
theorem dX5_init_97 : decode cX5_init 97 = .ok (.goto (-22), 3) := by decide +kernel
theorem dX5_init_100 : decode cX5_init 100 = .ok (.aload_n 0, 1) := by decide +kernel
theorem dX5_init_101 : decode cX5_init 101 = .ok (.getfield 9, 3) := by decide +kernel
theorem dX5_init_104 : decode cX5_init 104 = .ok (.bipush 100, 2) := by decide +kernel
theorem dX5_init_106 : decode cX5_init 106 = .ok (.invokestatic 53, 3) := by decide +kernel
theorem dX5_init_109 : decode cX5_init 109 = .ok (.return_, 1) := by decide +kernel
theorem dX5_send_0 : decode cX5_send 0 = .ok (.aload_n 0, 1) := by decide +kernel
theorem dX5_send_1 : decode cX5_send 1 = .ok (.getfield 59, 3) := by decide +kernel
theorem dX5_send_4 : decode cX5_send 4 = .ok (.bipush 40, 2) := by decide +kernel
theorem dX5_send_6 : decode cX5_send 6 = .ok (.if_icmp .ge 16, 3) := by decide +kernel
theorem dX5_send_9 : decode cX5_send 9 = .ok (.iload_n 1, 1) := by decide +kernel
theorem dX5_send_10 : decode cX5_send 10 = .ok (.iload_n 2, 1) := by decide +kernel
theorem dX5_send_11 : decode cX5_send 11 = .ok (.iload_n 3, 1) := by decide +kernel
theorem dX5_send_12 : decode cX5_send 12 = .ok (.iload 4, 2) := by decide +kernel
theorem dX5_send_14 : decode cX5_send 14 = .ok (.iload 5, 2) := by decide +kernel
theorem dX5_send_16 : decode cX5_send 16 = .ok (.invokestatic 63, 3) := by decide +kernel
theorem dX5_send_19 : decode cX5_send 19 = .ok (.ifCond .ne 5, 3) := by decide +kernel
theorem dX5_send_22 : decode cX5_send 22 = .ok (.iconst (-1), 1) := by decide +kernel
theorem dX5_send_23 : decode cX5_send 23 = .ok (.ireturn, 1) := by decide +kernel
theorem dX5_send_24 : decode cX5_send 24 = .ok (.new 16, 3) := by decide +kernel
theorem dX5_send_27 : decode cX5_send 27 = .ok (.dup, 1) := by decide +kernel
theorem dX5_send_28 : decode cX5_send 28 = .ok (.aload_n 0, 1) := by decide +kernel
theorem dX5_send_29 : decode cX5_send 29 = .ok (.getfield 59, 3) := by decide +kernel
theorem dX5_send_32 : decode cX5_send 32 = .ok (.iload_n 1, 1) := by decide +kernel
theorem dX5_send_33 : decode cX5_send 33 = .ok (.iload_n 2, 1) := by decide +kernel
theorem dX5_send_34 : decode cX5_send 34 = .ok (.iload_n 3, 1) := by decide +kernel
theorem dX5_send_35 : decode cX5_send 35 = .ok (.iload 4, 2) := by decide +kernel
theorem dX5_send_37 : decode cX5_send 37 = .ok (.iload 5, 2) := by decide +kernel
theorem dX5_send_39 : decode cX5_send 39 = .ok (.invokespecial 67, 3) := by decide +kernel
theorem dX5_send_42 : decode cX5_send 42 = .ok (.astore 6, 2) := by decide +kernel
theorem dX5_send_44 : decode cX5_send 44 = .ok (.aload 6, 2) := by decide +kernel
theorem dX5_send_46 : decode cX5_send 46 = .ok (.aload_n 0, 1) := by decide +kernel
theorem dX5_send_47 : decode cX5_send 47 = .ok (.getfield 13, 3) := by decide +kernel
theorem dX5_send_50 : decode cX5_send 50 = .ok (.iload_n 1, 1) := by decide +kernel
theorem dX5_send_51 : decode cX5_send 51 = .ok (.iaload, 1) := by decide +kernel
theorem dX5_send_52 : decode cX5_send 52 = .ok (.putfield 70, 3) := by decide +kernel
theorem dX5_send_55 : decode cX5_send 55 = .ok (.aload 6, 2) := by decide +kernel
theorem dX5_send_57 : decode cX5_send 57 = .ok (.aload_n 0, 1) := by decide +kernel
theorem dX5_send_58 : decode cX5_send 58 = .ok (.iload_n 1, 1) := by decide +kernel
theorem dX5_send_59 : decode cX5_send 59 = .ok (.invokevirtual 73, 3) := by decide +kernel
theorem dX5_send_62 : decode cX5_send 62 = .ok (.putfield 77, 3) := by decide +kernel
theorem dX5_send_65 : decode cX5_send 65 = .ok (.aload_n 0, 1) := by decide +kernel
theorem dX5_send_66 : decode cX5_send 66 = .ok (.getfield 18, 3) := by decide +kernel
theorem dX5_send_69 : decode cX5_send 69 = .ok (.aload_n 0, 1) := by decide +kernel
theorem dX5_send_70 : decode cX5_send 70 = .ok (.getfield 59, 3) := by decide +kernel
theorem dX5_send_73 : decode cX5_send 73 = .ok (.aload 6, 2) := by decide +kernel
theorem dX5_send_75 : decode cX5_send 75 = .ok (.aastore, 1) := by decide +kernel
theorem dX5_send_76 : decode cX5_send 76 = .ok (.aload_n 0, 1) := by decide +kernel
theorem dX5_send_77 : decode cX5_send 77 = .ok (.dup, 1) := by decide +kernel
theorem dX5_send_78 : decode cX5_send 78 = .ok (.getfield 59, 3) := by decide +kernel
theorem dX5_send_81 : decode cX5_send 81 = .ok (.iconst 1, 1) := by decide +kernel
theorem dX5_send_82 : decode cX5_send 82 = .ok (.iadd, 1) := by decide +kernel
theorem dX5_send_83 : decode cX5_send 83 = .ok (.putfield 59, 3) := by decide +kernel
theorem dX5_send_86 : decode cX5_send 86 = .ok (.aload_n 0, 1) := by decide +kernel
theorem dX5_send_87 : decode cX5_send 87 = .ok (.aload 6, 2) := by decide +kernel
theorem dX5_send_89 : decode cX5_send 89 = .ok (.invokevirtual 81, 3) := by decide +kernel
theorem dX5_send_92 : decode cX5_send 92 = .ok (.aload 6, 2) := by decide +kernel
theorem dX5_send_94 : decode cX5_send 94 = .ok (.getfield 85, 3) := by decide +kernel
theorem dX5_send_97 : decode cX5_send 97 = .ok (.ireturn, 1) := by decide +kernel
theorem dX5_bring_0 : decode cX5_bring 0 = .ok (.aload_n 0, 1) := by decide +kernel
theorem dX5_bring_1 : decode cX5_bring 1 = .ok (.iload_n 1, 1) := by decide +kernel
theorem dX5_bring_2 : decode cX5_bring 2 = .ok (.iconst 0, 1) := by decide +kernel
theorem dX5_bring_3 : decode cX5_bring 3 = .ok (.invokevirtual 88, 3) := by decide +kernel
theorem dX5_bring_6 : decode cX5_bring 6 = .ok (.ireturn, 1) := by decide +kernel
theorem dX5_twice_0 : decode cX5_twice 0 = .ok (.aload_n 0, 1) := by decide +kernel
theorem dX5_twice_1 : decode cX5_twice 1 = .ok (.iload_n 1, 1) := by decide +kernel
theorem dX5_twice_2 : decode cX5_twice 2 = .ok (.iconst 1, 1) := by decide +kernel
theorem dX5_twice_3 : decode cX5_twice 3 = .ok (.invokevirtual 88, 3) := by decide +kernel
theorem dX5_twice_6 : decode cX5_twice 6 = .ok (.ireturn, 1) := by decide +kernel
theorem dX5_up_0 : decode cX5_up 0 = .ok (.aload_n 0, 1) := by decide +kernel
theorem dX5_up_1 : decode cX5_up 1 = .ok (.iload_n 1, 1) := by decide +kernel
theorem dX5_up_2 : decode cX5_up 2 = .ok (.invokevirtual 92, 3) := by decide +kernel
theorem dX5_up_5 : decode cX5_up 5 = .ok (.ifCond .ne 5, 3) := by decide +kernel
theorem dX5_up_8 : decode cX5_up 8 = .ok (.iconst 0, 1) := by decide +kernel
theorem dX5_up_9 : decode cX5_up 9 = .ok (.ireturn, 1) := by decide +kernel
theorem dX5_up_10 : decode cX5_up 10 = .ok (.aload_n 0, 1) := by decide +kernel
theorem dX5_up_11 : decode cX5_up 11 = .ok (.getfield 46, 3) := by decide +kernel
theorem dX5_up_14 : decode cX5_up 14 = .ok (.iload_n 1, 1) := by decide +kernel
theorem dX5_up_15 : decode cX5_up 15 = .ok (.aaload, 1) := by decide +kernel
theorem dX5_up_16 : decode cX5_up 16 = .ok (.iload_n 2, 1) := by decide +kernel
theorem dX5_up_17 : decode cX5_up 17 = .ok (.putfield 96, 3) := by decide +kernel
theorem dX5_up_20 : decode cX5_up 20 = .ok (.iconst 1, 1) := by decide +kernel
theorem dX5_up_21 : decode cX5_up 21 = .ok (.ireturn, 1) := by decide +kernel
theorem dX5_flight_0 : decode cX5_flight 0 = .ok (.aload_n 0, 1) := by decide +kernel
theorem dX5_flight_1 : decode cX5_flight 1 = .ok (.getfield 25, 3) := by decide +kernel
theorem dX5_flight_4 : decode cX5_flight 4 = .ok (.iload_n 1, 1) := by decide +kernel
theorem dX5_flight_5 : decode cX5_flight 5 = .ok (.invokevirtual 100, 3) := by decide +kernel
theorem dX5_flight_8 : decode cX5_flight 8 = .ok (.ifCond .ne 5, 3) := by decide +kernel
theorem dX5_flight_11 : decode cX5_flight 11 = .ok (.iconst (-1), 1) := by decide +kernel
theorem dX5_flight_12 : decode cX5_flight 12 = .ok (.ireturn, 1) := by decide +kernel
theorem dX5_flight_13 : decode cX5_flight 13 = .ok (.aload_n 0, 1) := by decide +kernel
theorem dX5_flight_14 : decode cX5_flight 14 = .ok (.getfield 25, 3) := by decide +kernel
theorem dX5_flight_17 : decode cX5_flight 17 = .ok (.getfield 103, 3) := by decide +kernel
theorem dX5_flight_20 : decode cX5_flight 20 = .ok (.iload_n 1, 1) := by decide +kernel
theorem dX5_flight_21 : decode cX5_flight 21 = .ok (.aaload, 1) := by decide +kernel
theorem dX5_flight_22 : decode cX5_flight 22 = .ok (.astore_n 3, 1) := by decide +kernel
theorem dX5_flight_23 : decode cX5_flight 23 = .ok (.iload_n 2, 1) := by decide +kernel
theorem dX5_flight_24 : decode cX5_flight 24 = .ok (.tableswitch 82 0 4 #[36, 41, 52, 57, 65], 36) := by decide +kernel
theorem dX5_flight_60 : decode cX5_flight 60 = .ok (.aload_n 3, 1) := by decide +kernel
theorem dX5_flight_61 : decode cX5_flight 61 = .ok (.getfield 107, 3) := by decide +kernel
theorem dX5_flight_64 : decode cX5_flight 64 = .ok (.ireturn, 1) := by decide +kernel
theorem dX5_flight_65 : decode cX5_flight 65 = .ok (.aload_n 3, 1) := by decide +kernel
theorem dX5_flight_66 : decode cX5_flight 66 = .ok (.getfield 112, 3) := by decide +kernel
theorem dX5_flight_69 : decode cX5_flight 69 = .ok (.getfield 116, 3) := by decide +kernel
theorem dX5_flight_72 : decode cX5_flight 72 = .ok (.getfield 85, 3) := by decide +kernel
theorem dX5_flight_75 : decode cX5_flight 75 = .ok (.ireturn, 1) := by decide +kernel
theorem dX5_flight_76 : decode cX5_flight 76 = .ok (.aload_n 3, 1) := by decide +kernel
theorem dX5_flight_77 : decode cX5_flight 77 = .ok (.getfield 122, 3) := by decide +kernel
theorem dX5_flight_80 : decode cX5_flight 80 = .ok (.ireturn, 1) := by decide +kernel
theorem dX5_flight_81 : decode cX5_flight 81 = .ok (.aload_n 3, 1) := by decide +kernel
theorem dX5_flight_82 : decode cX5_flight 82 = .ok (.getfield 112, 3) := by decide +kernel
theorem dX5_flight_85 : decode cX5_flight 85 = .ok (.getfield 125, 3) := by decide +kernel
theorem dX5_flight_88 : decode cX5_flight 88 = .ok (.ireturn, 1) := by decide +kernel
theorem dX5_flight_89 : decode cX5_flight 89 = .ok (.aload_n 3, 1) := by decide +kernel
theorem dX5_flight_90 : decode cX5_flight 90 = .ok (.getfield 107, 3) := by decide +kernel
theorem dX5_flight_93 : decode cX5_flight 93 = .ok (.iconst 1, 1) := by decide +kernel
theorem dX5_flight_94 : decode cX5_flight 94 = .ok (.if_icmp .ne 10, 3) := by decide +kernel
theorem dX5_flight_97 : decode cX5_flight 97 = .ok (.aload_n 3, 1) := by decide +kernel
theorem dX5_flight_98 : decode cX5_flight 98 = .ok (.getfield 128, 3) := by decide +kernel
theorem dX5_flight_101 : decode cX5_flight 101 = .ok (.goto 4, 3) := by decide +kernel
theorem dX5_flight_104 : decode cX5_flight 104 = .ok (.iconst (-1), 1) := by decide +kernel
theorem dX5_flight_105 : decode cX5_flight 105 = .ok (.ireturn, 1) := by decide +kernel
theorem dX5_flight_106 : decode cX5_flight 106 = .ok (.iconst (-1), 1) := by decide +kernel
theorem dX5_flight_107 : decode cX5_flight 107 = .ok (.ireturn, 1) := by decide +kernel
theorem dX5_flying_0 : decode cX5_flying 0 = .ok (.aload_n 0, 1) := by decide +kernel
theorem dX5_flying_1 : decode cX5_flying 1 = .ok (.getfield 25, 3) := by decide +kernel
theorem dX5_flying_4 : decode cX5_flying 4 = .ok (.getfield 131, 3) := by decide +kernel
theorem dX5_flying_7 : decode cX5_flying 7 = .ok (.ireturn, 1) := by decide +kernel
theorem dX5_taken_0 : decode cX5_taken 0 = .ok (.aload_n 0, 1) := by decide +kernel
theorem dX5_taken_1 : decode cX5_taken 1 = .ok (.iload_n 1, 1) := by decide +kernel
theorem dX5_taken_2 : decode cX5_taken 2 = .ok (.invokevirtual 92, 3) := by decide +kernel
theorem dX5_taken_5 : decode cX5_taken 5 = .ok (.ifCond .eq 20, 3) := by decide +kernel
theorem dX5_taken_8 : decode cX5_taken 8 = .ok (.iload_n 2, 1) := by decide +kernel
theorem dX5_taken_9 : decode cX5_taken 9 = .ok (.ifCond .lt 16, 3) := by decide +kernel
theorem dX5_taken_12 : decode cX5_taken 12 = .ok (.iload_n 2, 1) := by decide +kernel
theorem dX5_taken_13 : decode cX5_taken 13 = .ok (.aload_n 0, 1) := by decide +kernel
theorem dX5_taken_14 : decode cX5_taken 14 = .ok (.getfield 46, 3) := by decide +kernel
theorem dX5_taken_17 : decode cX5_taken 17 = .ok (.iload_n 1, 1) := by decide +kernel
theorem dX5_taken_18 : decode cX5_taken 18 = .ok (.aaload, 1) := by decide +kernel
theorem dX5_taken_19 : decode cX5_taken 19 = .ok (.getfield 134, 3) := by decide +kernel
theorem dX5_taken_22 : decode cX5_taken 22 = .ok (.if_icmp .lt 5, 3) := by decide +kernel
theorem dX5_taken_25 : decode cX5_taken 25 = .ok (.iconst (-1), 1) := by decide +kernel
theorem dX5_taken_26 : decode cX5_taken 26 = .ok (.ireturn, 1) := by decide +kernel
theorem dX5_taken_27 : decode cX5_taken 27 = .ok (.aload_n 0, 1) := by decide +kernel
theorem dX5_taken_28 : decode cX5_taken 28 = .ok (.getfield 46, 3) := by decide +kernel
theorem dX5_taken_31 : decode cX5_taken 31 = .ok (.iload_n 1, 1) := by decide +kernel
theorem dX5_taken_32 : decode cX5_taken 32 = .ok (.aaload, 1) := by decide +kernel
theorem dX5_taken_33 : decode cX5_taken 33 = .ok (.getfield 137, 3) := by decide +kernel
theorem dX5_taken_36 : decode cX5_taken 36 = .ok (.iload_n 2, 1) := by decide +kernel
theorem dX5_taken_37 : decode cX5_taken 37 = .ok (.aaload, 1) := by decide +kernel
theorem dX5_taken_38 : decode cX5_taken 38 = .ok (.getfield 116, 3) := by decide +kernel
theorem dX5_taken_41 : decode cX5_taken 41 = .ok (.getfield 85, 3) := by decide +kernel
theorem dX5_taken_44 : decode cX5_taken 44 = .ok (.ireturn, 1) := by decide +kernel
theorem dX5_answer_0 : decode cX5_answer 0 = .ok (.aload_n 0, 1) := by decide +kernel
theorem dX5_answer_1 : decode cX5_answer 1 = .ok (.iload_n 1, 1) := by decide +kernel
theorem dX5_answer_2 : decode cX5_answer 2 = .ok (.invokevirtual 141, 3) := by decide +kernel
theorem dX5_answer_5 : decode cX5_answer 5 = .ok (.ifCond .eq 15, 3) := by decide +kernel
theorem dX5_answer_8 : decode cX5_answer 8 = .ok (.aload_n 0, 1) := by decide +kernel
theorem dX5_answer_9 : decode cX5_answer 9 = .ok (.getfield 18, 3) := by decide +kernel
theorem dX5_answer_12 : decode cX5_answer 12 = .ok (.iload_n 1, 1) := by decide +kernel
theorem dX5_answer_13 : decode cX5_answer 13 = .ok (.aaload, 1) := by decide +kernel
theorem dX5_answer_14 : decode cX5_answer 14 = .ok (.getfield 144, 3) := by decide +kernel
theorem dX5_answer_17 : decode cX5_answer 17 = .ok (.goto 5, 3) := by decide +kernel
theorem dX5_answer_20 : decode cX5_answer 20 = .ok (.bipush (-2), 2) := by decide +kernel
theorem dX5_answer_22 : decode cX5_answer 22 = .ok (.ireturn, 1) := by decide +kernel
theorem dX5_answered_0 : decode cX5_answered 0 = .ok (.aload_n 0, 1) := by decide +kernel
theorem dX5_answered_1 : decode cX5_answered 1 = .ok (.iload_n 1, 1) := by decide +kernel
theorem dX5_answered_2 : decode cX5_answered 2 = .ok (.invokevirtual 147, 3) := by decide +kernel
theorem dX5_answered_5 : decode cX5_answered 5 = .ok (.ifCond .eq 19, 3) := by decide +kernel
theorem dX5_answered_8 : decode cX5_answered 8 = .ok (.aload_n 0, 1) := by decide +kernel
theorem dX5_answered_9 : decode cX5_answered 9 = .ok (.getfield 18, 3) := by decide +kernel
theorem dX5_answered_12 : decode cX5_answered 12 = .ok (.iload_n 1, 1) := by decide +kernel
theorem dX5_answered_13 : decode cX5_answered 13 = .ok (.aaload, 1) := by decide +kernel
theorem dX5_answered_14 : decode cX5_answered 14 = .ok (.getfield 150, 3) := by decide +kernel
theorem dX5_answered_17 : decode cX5_answered 17 = .ok (.ifCond .eq 7, 3) := by decide +kernel
theorem dX5_answered_20 : decode cX5_answered 20 = .ok (.iconst 1, 1) := by decide +kernel
theorem dX5_answered_21 : decode cX5_answered 21 = .ok (.goto 4, 3) := by decide +kernel
theorem dX5_answered_24 : decode cX5_answered 24 = .ok (.iconst 0, 1) := by decide +kernel
theorem dX5_answered_25 : decode cX5_answered 25 = .ok (.ireturn, 1) := by decide +kernel
theorem dX5_time_0 : decode cX5_time 0 = .ok (.aload_n 0, 1) := by decide +kernel
theorem dX5_time_1 : decode cX5_time 1 = .ok (.iload_n 1, 1) := by decide +kernel
theorem dX5_time_2 : decode cX5_time 2 = .ok (.invokevirtual 147, 3) := by decide +kernel
theorem dX5_time_5 : decode cX5_time 5 = .ok (.ifCond .eq 11, 3) := by decide +kernel
theorem dX5_time_8 : decode cX5_time 8 = .ok (.aload_n 0, 1) := by decide +kernel
theorem dX5_time_9 : decode cX5_time 9 = .ok (.iload_n 2, 1) := by decide +kernel
theorem dX5_time_10 : decode cX5_time 10 = .ok (.invokevirtual 92, 3) := by decide +kernel
theorem dX5_time_13 : decode cX5_time 13 = .ok (.ifCond .ne 5, 3) := by decide +kernel
theorem dX5_time_16 : decode cX5_time 16 = .ok (.iconst (-1), 1) := by decide +kernel
theorem dX5_time_17 : decode cX5_time 17 = .ok (.ireturn, 1) := by decide +kernel
theorem dX5_time_18 : decode cX5_time 18 = .ok (.aload_n 0, 1) := by decide +kernel
theorem dX5_time_19 : decode cX5_time 19 = .ok (.getfield 46, 3) := by decide +kernel
theorem dX5_time_22 : decode cX5_time 22 = .ok (.iload_n 2, 1) := by decide +kernel
theorem dX5_time_23 : decode cX5_time 23 = .ok (.aaload, 1) := by decide +kernel
theorem dX5_time_24 : decode cX5_time 24 = .ok (.getfield 153, 3) := by decide +kernel
theorem dX5_time_27 : decode cX5_time 27 = .ok (.iload_n 1, 1) := by decide +kernel
theorem dX5_time_28 : decode cX5_time 28 = .ok (.aaload, 1) := by decide +kernel
theorem dX5_time_29 : decode cX5_time 29 = .ok (.astore 4, 2) := by decide +kernel
theorem dX5_time_31 : decode cX5_time 31 = .ok (.iload_n 3, 1) := by decide +kernel
theorem dX5_time_32 : decode cX5_time 32 = .ok (.tableswitch 77 0 2 #[28, 43, 58], 28) := by decide +kernel
theorem dX5_time_60 : decode cX5_time 60 = .ok (.aload 4, 2) := by decide +kernel
theorem dX5_time_62 : decode cX5_time 62 = .ok (.ifnull 11, 3) := by decide +kernel
theorem dX5_time_65 : decode cX5_time 65 = .ok (.aload 4, 2) := by decide +kernel
theorem dX5_time_67 : decode cX5_time 67 = .ok (.getfield 156, 3) := by decide +kernel
theorem dX5_time_70 : decode cX5_time 70 = .ok (.goto 4, 3) := by decide +kernel
theorem dX5_time_73 : decode cX5_time 73 = .ok (.iconst (-1), 1) := by decide +kernel
theorem dX5_time_74 : decode cX5_time 74 = .ok (.ireturn, 1) := by decide +kernel
theorem dX5_time_75 : decode cX5_time 75 = .ok (.aload 4, 2) := by decide +kernel
theorem dX5_time_77 : decode cX5_time 77 = .ok (.ifnull 11, 3) := by decide +kernel
theorem dX5_time_80 : decode cX5_time 80 = .ok (.aload 4, 2) := by decide +kernel
theorem dX5_time_82 : decode cX5_time 82 = .ok (.getfield 159, 3) := by decide +kernel
theorem dX5_time_85 : decode cX5_time 85 = .ok (.goto 4, 3) := by decide +kernel
theorem dX5_time_88 : decode cX5_time 88 = .ok (.iconst (-1), 1) := by decide +kernel
theorem dX5_time_89 : decode cX5_time 89 = .ok (.ireturn, 1) := by decide +kernel
theorem dX5_time_90 : decode cX5_time 90 = .ok (.aload 4, 2) := by decide +kernel
theorem dX5_time_92 : decode cX5_time 92 = .ok (.ifnull 15, 3) := by decide +kernel
theorem dX5_time_95 : decode cX5_time 95 = .ok (.aload 4, 2) := by decide +kernel
theorem dX5_time_97 : decode cX5_time 97 = .ok (.getfield 162, 3) := by decide +kernel
theorem dX5_time_100 : decode cX5_time 100 = .ok (.ifCond .eq 7, 3) := by decide +kernel
theorem dX5_time_103 : decode cX5_time 103 = .ok (.iconst 1, 1) := by decide +kernel
theorem dX5_time_104 : decode cX5_time 104 = .ok (.goto 4, 3) := by decide +kernel
theorem dX5_time_107 : decode cX5_time 107 = .ok (.iconst 0, 1) := by decide +kernel
theorem dX5_time_108 : decode cX5_time 108 = .ok (.ireturn, 1) := by decide +kernel
theorem dX5_time_109 : decode cX5_time 109 = .ok (.iconst (-1), 1) := by decide +kernel
theorem dX5_time_110 : decode cX5_time 110 = .ok (.ireturn, 1) := by decide +kernel
theorem dX5_value_0 : decode cX5_value 0 = .ok (.iload_n 1, 1) := by decide +kernel
theorem dX5_value_1 : decode cX5_value 1 = .ok (.invokestatic 165, 3) := by decide +kernel
theorem dX5_value_4 : decode cX5_value 4 = .ok (.ifCond .eq 12, 3) := by decide +kernel
theorem dX5_value_7 : decode cX5_value 7 = .ok (.aload_n 0, 1) := by decide +kernel
theorem dX5_value_8 : decode cX5_value 8 = .ok (.getfield 9, 3) := by decide +kernel
theorem dX5_value_11 : decode cX5_value 11 = .ok (.iload_n 1, 1) := by decide +kernel
theorem dX5_value_12 : decode cX5_value 12 = .ok (.iaload, 1) := by decide +kernel
theorem dX5_value_13 : decode cX5_value 13 = .ok (.goto 4, 3) := by decide +kernel
theorem dX5_value_16 : decode cX5_value 16 = .ok (.iconst (-1), 1) := by decide +kernel
theorem dX5_value_17 : decode cX5_value 17 = .ok (.ireturn, 1) := by decide +kernel
theorem dX5_clock_0 : decode cX5_clock 0 = .ok (.aload_n 0, 1) := by decide +kernel
theorem dX5_clock_1 : decode cX5_clock 1 = .ok (.iload_n 1, 1) := by decide +kernel
theorem dX5_clock_2 : decode cX5_clock 2 = .ok (.invokevirtual 92, 3) := by decide +kernel
theorem dX5_clock_5 : decode cX5_clock 5 = .ok (.ifCond .eq 15, 3) := by decide +kernel
theorem dX5_clock_8 : decode cX5_clock 8 = .ok (.aload_n 0, 1) := by decide +kernel
theorem dX5_clock_9 : decode cX5_clock 9 = .ok (.getfield 46, 3) := by decide +kernel
theorem dX5_clock_12 : decode cX5_clock 12 = .ok (.iload_n 1, 1) := by decide +kernel
theorem dX5_clock_13 : decode cX5_clock 13 = .ok (.aaload, 1) := by decide +kernel
theorem dX5_clock_14 : decode cX5_clock 14 = .ok (.getfield 168, 3) := by decide +kernel
theorem dX5_clock_17 : decode cX5_clock 17 = .ok (.goto 4, 3) := by decide +kernel
theorem dX5_clock_20 : decode cX5_clock 20 = .ok (.iconst (-1), 1) := by decide +kernel
theorem dX5_clock_21 : decode cX5_clock 21 = .ok (.ireturn, 1) := by decide +kernel
theorem dX5_seen_0 : decode cX5_seen 0 = .ok (.iload_n 1, 1) := by decide +kernel
theorem dX5_seen_1 : decode cX5_seen 1 = .ok (.invokestatic 171, 3) := by decide +kernel
theorem dX5_seen_4 : decode cX5_seen 4 = .ok (.ifCond .eq 12, 3) := by decide +kernel
theorem dX5_seen_7 : decode cX5_seen 7 = .ok (.aload_n 0, 1) := by decide +kernel
theorem dX5_seen_8 : decode cX5_seen 8 = .ok (.getfield 13, 3) := by decide +kernel
theorem dX5_seen_11 : decode cX5_seen 11 = .ok (.iload_n 1, 1) := by decide +kernel
theorem dX5_seen_12 : decode cX5_seen 12 = .ok (.iaload, 1) := by decide +kernel
theorem dX5_seen_13 : decode cX5_seen 13 = .ok (.goto 4, 3) := by decide +kernel
theorem dX5_seen_16 : decode cX5_seen 16 = .ok (.iconst (-1), 1) := by decide +kernel
theorem dX5_seen_17 : decode cX5_seen 17 = .ok (.ireturn, 1) := by decide +kernel
theorem dX5_agree_0 : decode cX5_agree 0 = .ok (.aload_n 0, 1) := by decide +kernel
theorem dX5_agree_1 : decode cX5_agree 1 = .ok (.invokevirtual 174, 3) := by decide +kernel
theorem dX5_agree_4 : decode cX5_agree 4 = .ok (.ifCond .eq 21, 3) := by decide +kernel
theorem dX5_agree_7 : decode cX5_agree 7 = .ok (.aload_n 0, 1) := by decide +kernel
theorem dX5_agree_8 : decode cX5_agree 8 = .ok (.invokevirtual 178, 3) := by decide +kernel
theorem dX5_agree_11 : decode cX5_agree 11 = .ok (.ifCond .eq 14, 3) := by decide +kernel
theorem dX5_agree_14 : decode cX5_agree 14 = .ok (.aload_n 0, 1) := by decide +kernel
theorem dX5_agree_15 : decode cX5_agree 15 = .ok (.invokevirtual 181, 3) := by decide +kernel
theorem dX5_agree_18 : decode cX5_agree 18 = .ok (.ifCond .eq 7, 3) := by decide +kernel
theorem dX5_agree_21 : decode cX5_agree 21 = .ok (.iconst 1, 1) := by decide +kernel
theorem dX5_agree_22 : decode cX5_agree 22 = .ok (.goto 4, 3) := by decide +kernel
theorem dX5_agree_25 : decode cX5_agree 25 = .ok (.iconst 0, 1) := by decide +kernel
theorem dX5_agree_26 : decode cX5_agree 26 = .ok (.ireturn, 1) := by decide +kernel
theorem dX5_count_0 : decode cX5_count 0 = .ok (.iload_n 1, 1) := by decide +kernel
theorem dX5_count_1 : decode cX5_count 1 = .ok (.tableswitch 61 0 4 #[35, 41, 46, 51, 56], 35) := by decide +kernel
theorem dX5_count_36 : decode cX5_count 36 = .ok (.aload_n 0, 1) := by decide +kernel
theorem dX5_count_37 : decode cX5_count 37 = .ok (.getfield 46, 3) := by decide +kernel
theorem dX5_count_40 : decode cX5_count 40 = .ok (.arraylength, 1) := by decide +kernel
theorem dX5_count_41 : decode cX5_count 41 = .ok (.ireturn, 1) := by decide +kernel
theorem dX5_count_42 : decode cX5_count 42 = .ok (.aload_n 0, 1) := by decide +kernel
theorem dX5_count_43 : decode cX5_count 43 = .ok (.getfield 59, 3) := by decide +kernel
theorem dX5_count_46 : decode cX5_count 46 = .ok (.ireturn, 1) := by decide +kernel
theorem dX5_count_47 : decode cX5_count 47 = .ok (.aload_n 0, 1) := by decide +kernel
theorem dX5_count_48 : decode cX5_count 48 = .ok (.getfield 184, 3) := by decide +kernel
theorem dX5_count_51 : decode cX5_count 51 = .ok (.ireturn, 1) := by decide +kernel
theorem dX5_count_52 : decode cX5_count 52 = .ok (.aload_n 0, 1) := by decide +kernel
theorem dX5_count_53 : decode cX5_count 53 = .ok (.invokevirtual 187, 3) := by decide +kernel
theorem dX5_count_56 : decode cX5_count 56 = .ok (.ireturn, 1) := by decide +kernel
theorem dX5_count_57 : decode cX5_count 57 = .ok (.aload_n 0, 1) := by decide +kernel
theorem dX5_count_58 : decode cX5_count 58 = .ok (.invokevirtual 191, 3) := by decide +kernel
theorem dX5_count_61 : decode cX5_count 61 = .ok (.ireturn, 1) := by decide +kernel
theorem dX5_count_62 : decode cX5_count 62 = .ok (.iconst (-1), 1) := by decide +kernel
theorem dX5_count_63 : decode cX5_count 63 = .ok (.ireturn, 1) := by decide +kernel
theorem dX5_isGroup_0 : decode cX5_isGroup 0 = .ok (.iload_n 1, 1) := by decide +kernel
theorem dX5_isGroup_1 : decode cX5_isGroup 1 = .ok (.ifCond .lt 16, 3) := by decide +kernel
theorem dX5_isGroup_4 : decode cX5_isGroup 4 = .ok (.iload_n 1, 1) := by decide +kernel
theorem dX5_isGroup_5 : decode cX5_isGroup 5 = .ok (.aload_n 0, 1) := by decide +kernel
theorem dX5_isGroup_6 : decode cX5_isGroup 6 = .ok (.getfield 46, 3) := by decide +kernel
theorem dX5_isGroup_9 : decode cX5_isGroup 9 = .ok (.arraylength, 1) := by decide +kernel
theorem dX5_isGroup_10 : decode cX5_isGroup 10 = .ok (.if_icmp .ge 7, 3) := by decide +kernel
theorem dX5_isGroup_13 : decode cX5_isGroup 13 = .ok (.iconst 1, 1) := by decide +kernel
theorem dX5_isGroup_14 : decode cX5_isGroup 14 = .ok (.goto 4, 3) := by decide +kernel
theorem dX5_isGroup_17 : decode cX5_isGroup 17 = .ok (.iconst 0, 1) := by decide +kernel
theorem dX5_isGroup_18 : decode cX5_isGroup 18 = .ok (.ireturn, 1) := by decide +kernel
theorem dX5_hasOrder_0 : decode cX5_hasOrder 0 = .ok (.iload_n 1, 1) := by decide +kernel
theorem dX5_hasOrder_1 : decode cX5_hasOrder 1 = .ok (.ifCond .lt 15, 3) := by decide +kernel
theorem dX5_hasOrder_4 : decode cX5_hasOrder 4 = .ok (.iload_n 1, 1) := by decide +kernel
theorem dX5_hasOrder_5 : decode cX5_hasOrder 5 = .ok (.aload_n 0, 1) := by decide +kernel
theorem dX5_hasOrder_6 : decode cX5_hasOrder 6 = .ok (.getfield 59, 3) := by decide +kernel
theorem dX5_hasOrder_9 : decode cX5_hasOrder 9 = .ok (.if_icmp .ge 7, 3) := by decide +kernel
theorem dX5_hasOrder_12 : decode cX5_hasOrder 12 = .ok (.iconst 1, 1) := by decide +kernel
theorem dX5_hasOrder_13 : decode cX5_hasOrder 13 = .ok (.goto 4, 3) := by decide +kernel
theorem dX5_hasOrder_16 : decode cX5_hasOrder 16 = .ok (.iconst 0, 1) := by decide +kernel
theorem dX5_hasOrder_17 : decode cX5_hasOrder 17 = .ok (.ireturn, 1) := by decide +kernel
theorem dX5_isClient_0 : decode cX5_isClient 0 = .ok (.iload_n 0, 1) := by decide +kernel
theorem dX5_isClient_1 : decode cX5_isClient 1 = .ok (.ifCond .lt 12, 3) := by decide +kernel
theorem dX5_isClient_4 : decode cX5_isClient 4 = .ok (.iload_n 0, 1) := by decide +kernel
theorem dX5_isClient_5 : decode cX5_isClient 5 = .ok (.iconst 4, 1) := by decide +kernel
theorem dX5_isClient_6 : decode cX5_isClient 6 = .ok (.if_icmp .ge 7, 3) := by decide +kernel
theorem dX5_isClient_9 : decode cX5_isClient 9 = .ok (.iconst 1, 1) := by decide +kernel
theorem dX5_isClient_10 : decode cX5_isClient 10 = .ok (.goto 4, 3) := by decide +kernel
theorem dX5_isClient_13 : decode cX5_isClient 13 = .ok (.iconst 0, 1) := by decide +kernel
theorem dX5_isClient_14 : decode cX5_isClient 14 = .ok (.ireturn, 1) := by decide +kernel
theorem dX5_isKey_0 : decode cX5_isKey 0 = .ok (.iload_n 0, 1) := by decide +kernel
theorem dX5_isKey_1 : decode cX5_isKey 1 = .ok (.ifCond .lt 13, 3) := by decide +kernel
theorem dX5_isKey_4 : decode cX5_isKey 4 = .ok (.iload_n 0, 1) := by decide +kernel
theorem dX5_isKey_5 : decode cX5_isKey 5 = .ok (.bipush 16, 2) := by decide +kernel
theorem dX5_isKey_7 : decode cX5_isKey 7 = .ok (.if_icmp .ge 7, 3) := by decide +kernel
theorem dX5_isKey_10 : decode cX5_isKey 10 = .ok (.iconst 1, 1) := by decide +kernel
theorem dX5_isKey_11 : decode cX5_isKey 11 = .ok (.goto 4, 3) := by decide +kernel
theorem dX5_isKey_14 : decode cX5_isKey 14 = .ok (.iconst 0, 1) := by decide +kernel
theorem dX5_isKey_15 : decode cX5_isKey 15 = .ok (.ireturn, 1) := by decide +kernel
theorem dX5_isOrder_0 : decode cX5_isOrder 0 = .ok (.iload_n 0, 1) := by decide +kernel
theorem dX5_isOrder_1 : decode cX5_isOrder 1 = .ok (.invokestatic 171, 3) := by decide +kernel
theorem dX5_isOrder_4 : decode cX5_isOrder 4 = .ok (.ifCond .eq 42, 3) := by decide +kernel
theorem dX5_isOrder_7 : decode cX5_isOrder 7 = .ok (.iload_n 1, 1) := by decide +kernel
theorem dX5_isOrder_8 : decode cX5_isOrder 8 = .ok (.ifCond .lt 38, 3) := by decide +kernel
theorem dX5_isOrder_11 : decode cX5_isOrder 11 = .ok (.iload_n 1, 1) := by decide +kernel
theorem dX5_isOrder_12 : decode cX5_isOrder 12 = .ok (.iconst 3, 1) := by decide +kernel
theorem dX5_isOrder_13 : decode cX5_isOrder 13 = .ok (.if_icmp .gt 33, 3) := by decide +kernel
theorem dX5_isOrder_16 : decode cX5_isOrder 16 = .ok (.iload_n 2, 1) := by decide +kernel
theorem dX5_isOrder_17 : decode cX5_isOrder 17 = .ok (.invokestatic 165, 3) := by decide +kernel
theorem dX5_isOrder_20 : decode cX5_isOrder 20 = .ok (.ifCond .eq 26, 3) := by decide +kernel
theorem dX5_isOrder_23 : decode cX5_isOrder 23 = .ok (.iload_n 3, 1) := by decide +kernel
theorem dX5_isOrder_24 : decode cX5_isOrder 24 = .ok (.invokestatic 165, 3) := by decide +kernel
theorem dX5_isOrder_27 : decode cX5_isOrder 27 = .ok (.ifCond .eq 19, 3) := by decide +kernel
theorem dX5_isOrder_30 : decode cX5_isOrder 30 = .ok (.iload 4, 2) := by decide +kernel
theorem dX5_isOrder_32 : decode cX5_isOrder 32 = .ok (.ifCond .lt 14, 3) := by decide +kernel
theorem dX5_isOrder_35 : decode cX5_isOrder 35 = .ok (.iload 4, 2) := by decide +kernel
theorem dX5_isOrder_37 : decode cX5_isOrder 37 = .ok (.ldc 194, 2) := by decide +kernel
theorem dX5_isOrder_39 : decode cX5_isOrder 39 = .ok (.if_icmp .gt 7, 3) := by decide +kernel
theorem dX5_isOrder_42 : decode cX5_isOrder 42 = .ok (.iconst 1, 1) := by decide +kernel
theorem dX5_isOrder_43 : decode cX5_isOrder 43 = .ok (.goto 4, 3) := by decide +kernel
theorem dX5_isOrder_46 : decode cX5_isOrder 46 = .ok (.iconst 0, 1) := by decide +kernel
theorem dX5_isOrder_47 : decode cX5_isOrder 47 = .ok (.ireturn, 1) := by decide +kernel
theorem dX5_keeperOf_0 : decode cX5_keeperOf 0 = .ok (.aload_n 0, 1) := by decide +kernel
theorem dX5_keeperOf_1 : decode cX5_keeperOf 1 = .ok (.getfield 46, 3) := by decide +kernel
theorem dX5_keeperOf_4 : decode cX5_keeperOf 4 = .ok (.iload_n 1, 1) := by decide +kernel
theorem dX5_keeperOf_5 : decode cX5_keeperOf 5 = .ok (.aload_n 0, 1) := by decide +kernel
theorem dX5_keeperOf_6 : decode cX5_keeperOf 6 = .ok (.getfield 46, 3) := by decide +kernel
theorem dX5_keeperOf_9 : decode cX5_keeperOf 9 = .ok (.arraylength, 1) := by decide +kernel
theorem dX5_keeperOf_10 : decode cX5_keeperOf 10 = .ok (.irem, 1) := by decide +kernel
theorem dX5_keeperOf_11 : decode cX5_keeperOf 11 = .ok (.aaload, 1) := by decide +kernel
theorem dX5_keeperOf_12 : decode cX5_keeperOf 12 = .ok (.areturn, 1) := by decide +kernel
theorem dX5_answeredOrdersOf_0 : decode cX5_answeredOrdersOf 0 = .ok (.lconst 0, 1) := by decide +kernel
theorem dX5_answeredOrdersOf_1 : decode cX5_answeredOrdersOf 1 = .ok (.lstore_n 2, 1) := by decide +kernel
theorem dX5_answeredOrdersOf_2 : decode cX5_answeredOrdersOf 2 = .ok (.iconst 0, 1) := by decide +kernel
theorem dX5_answeredOrdersOf_3 : decode cX5_answeredOrdersOf 3 = .ok (.istore 4, 2) := by decide +kernel
theorem dX5_answeredOrdersOf_5 : decode cX5_answeredOrdersOf 5 = .ok (.iload 4, 2) := by decide +kernel
theorem dX5_answeredOrdersOf_7 : decode cX5_answeredOrdersOf 7 = .ok (.aload_n 0, 1) := by decide +kernel
theorem dX5_answeredOrdersOf_8 : decode cX5_answeredOrdersOf 8 = .ok (.getfield 59, 3) := by decide +kernel
theorem dX5_answeredOrdersOf_11 : decode cX5_answeredOrdersOf 11 = .ok (.if_icmp .ge 43, 3) := by decide +kernel
theorem dX5_answeredOrdersOf_14 : decode cX5_answeredOrdersOf 14 = .ok (.aload_n 0, 1) := by decide +kernel
theorem dX5_answeredOrdersOf_15 : decode cX5_answeredOrdersOf 15 = .ok (.getfield 18, 3) := by decide +kernel
theorem dX5_answeredOrdersOf_18 : decode cX5_answeredOrdersOf 18 = .ok (.iload 4, 2) := by decide +kernel
theorem dX5_answeredOrdersOf_20 : decode cX5_answeredOrdersOf 20 = .ok (.aaload, 1) := by decide +kernel
theorem dX5_answeredOrdersOf_21 : decode cX5_answeredOrdersOf 21 = .ok (.getfield 195, 3) := by decide +kernel
theorem dX5_answeredOrdersOf_24 : decode cX5_answeredOrdersOf 24 = .ok (.iload_n 1, 1) := by decide +kernel
theorem dX5_answeredOrdersOf_25 : decode cX5_answeredOrdersOf 25 = .ok (.if_icmp .ne 23, 3) := by decide +kernel
theorem dX5_answeredOrdersOf_28 : decode cX5_answeredOrdersOf 28 = .ok (.aload_n 0, 1) := by decide +kernel
theorem dX5_answeredOrdersOf_29 : decode cX5_answeredOrdersOf 29 = .ok (.getfield 18, 3) := by decide +kernel
theorem dX5_answeredOrdersOf_32 : decode cX5_answeredOrdersOf 32 = .ok (.iload 4, 2) := by decide +kernel
theorem dX5_answeredOrdersOf_34 : decode cX5_answeredOrdersOf 34 = .ok (.aaload, 1) := by decide +kernel
theorem dX5_answeredOrdersOf_35 : decode cX5_answeredOrdersOf 35 = .ok (.getfield 150, 3) := by decide +kernel
theorem dX5_answeredOrdersOf_38 : decode cX5_answeredOrdersOf 38 = .ok (.ifCond .eq 10, 3) := by decide +kernel
theorem dX5_answeredOrdersOf_41 : decode cX5_answeredOrdersOf 41 = .ok (.lload_n 2, 1) := by decide +kernel
theorem dX5_answeredOrdersOf_42 : decode cX5_answeredOrdersOf 42 = .ok (.lconst 1, 1) := by decide +kernel
theorem dX5_answeredOrdersOf_43 : decode cX5_answeredOrdersOf 43 = .ok (.iload 4, 2) := by decide +kernel
theorem dX5_answeredOrdersOf_45 : decode cX5_answeredOrdersOf 45 = .ok (.lshl, 1) := by decide +kernel
theorem dX5_answeredOrdersOf_46 : decode cX5_answeredOrdersOf 46 = .ok (.lor, 1) := by decide +kernel
theorem dX5_answeredOrdersOf_47 : decode cX5_answeredOrdersOf 47 = .ok (.lstore_n 2, 1) := by decide +kernel
theorem dX5_answeredOrdersOf_48 : decode cX5_answeredOrdersOf 48 = .ok (.iinc 4 1, 3) := by decide +kernel
theorem dX5_answeredOrdersOf_51 : decode cX5_answeredOrdersOf 51 = .ok (.goto (-46), 3) := by decide +kernel
theorem dX5_answeredOrdersOf_54 : decode cX5_answeredOrdersOf 54 = .ok (.lload_n 2, 1) := by decide +kernel
theorem dX5_answeredOrdersOf_55 : decode cX5_answeredOrdersOf 55 = .ok (.lreturn, 1) := by decide +kernel
theorem dX5_putStarts_0 : decode cX5_putStarts 0 = .ok (.aload_n 0, 1) := by decide +kernel
theorem dX5_putStarts_1 : decode cX5_putStarts 1 = .ok (.aload_n 1, 1) := by decide +kernel
theorem dX5_putStarts_2 : decode cX5_putStarts 2 = .ok (.getfield 198, 3) := by decide +kernel
theorem dX5_putStarts_5 : decode cX5_putStarts 5 = .ok (.invokevirtual 201, 3) := by decide +kernel
theorem dX5_putStarts_8 : decode cX5_putStarts 8 = .ok (.astore_n 2, 1) := by decide +kernel
theorem dX5_putStarts_9 : decode cX5_putStarts 9 = .ok (.aload_n 0, 1) := by decide +kernel
theorem dX5_putStarts_10 : decode cX5_putStarts 10 = .ok (.aload_n 1, 1) := by decide +kernel
theorem dX5_putStarts_11 : decode cX5_putStarts 11 = .ok (.getfield 205, 3) := by decide +kernel
theorem dX5_putStarts_14 : decode cX5_putStarts 14 = .ok (.invokevirtual 201, 3) := by decide +kernel
theorem dX5_putStarts_17 : decode cX5_putStarts 17 = .ok (.astore_n 3, 1) := by decide +kernel
theorem dX5_putStarts_18 : decode cX5_putStarts 18 = .ok (.aload_n 2, 1) := by decide +kernel
theorem dX5_putStarts_19 : decode cX5_putStarts 19 = .ok (.getfield 208, 3) := by decide +kernel
theorem dX5_putStarts_22 : decode cX5_putStarts 22 = .ok (.aload_n 3, 1) := by decide +kernel
theorem dX5_putStarts_23 : decode cX5_putStarts 23 = .ok (.getfield 208, 3) := by decide +kernel
theorem dX5_putStarts_26 : decode cX5_putStarts 26 = .ok (.if_icmp .gt 7, 3) := by decide +kernel
theorem dX5_putStarts_29 : decode cX5_putStarts 29 = .ok (.iconst 1, 1) := by decide +kernel
theorem dX5_putStarts_30 : decode cX5_putStarts 30 = .ok (.goto 4, 3) := by decide +kernel
theorem dX5_putStarts_33 : decode cX5_putStarts 33 = .ok (.iconst 0, 1) := by decide +kernel
theorem dX5_putStarts_34 : decode cX5_putStarts 34 = .ok (.istore 4, 2) := by decide +kernel
theorem dX5_putStarts_36 : decode cX5_putStarts 36 = .ok (.iload 4, 2) := by decide +kernel
theorem dX5_putStarts_38 : decode cX5_putStarts 38 = .ok (.ifCond .eq 7, 3) := by decide +kernel
theorem dX5_putStarts_41 : decode cX5_putStarts 41 = .ok (.aload_n 2, 1) := by decide +kernel
theorem dX5_putStarts_42 : decode cX5_putStarts 42 = .ok (.goto 4, 3) := by decide +kernel
theorem dX5_putStarts_45 : decode cX5_putStarts 45 = .ok (.aload_n 3, 1) := by decide +kernel
theorem dX5_putStarts_46 : decode cX5_putStarts 46 = .ok (.aload_n 1, 1) := by decide +kernel
theorem dX5_putStarts_47 : decode cX5_putStarts 47 = .ok (.invokevirtual 209, 3) := by decide +kernel
theorem dX5_putStarts_50 : decode cX5_putStarts 50 = .ok (.astore 5, 2) := by decide +kernel
theorem dX5_putStarts_52 : decode cX5_putStarts 52 = .ok (.aload_n 0, 1) := by decide +kernel
theorem dX5_putStarts_53 : decode cX5_putStarts 53 = .ok (.getfield 25, 3) := by decide +kernel
theorem dX5_putStarts_56 : decode cX5_putStarts 56 = .ok (.new 108, 3) := by decide +kernel
theorem dX5_putStarts_59 : decode cX5_putStarts 59 = .ok (.dup, 1) := by decide +kernel
theorem dX5_putStarts_60 : decode cX5_putStarts 60 = .ok (.iconst 0, 1) := by decide +kernel
theorem dX5_putStarts_61 : decode cX5_putStarts 61 = .ok (.iconst (-1), 1) := by decide +kernel
theorem dX5_putStarts_62 : decode cX5_putStarts 62 = .ok (.aload 5, 2) := by decide +kernel
theorem dX5_putStarts_64 : decode cX5_putStarts 64 = .ok (.iconst 0, 1) := by decide +kernel
theorem dX5_putStarts_65 : decode cX5_putStarts 65 = .ok (.invokespecial 213, 3) := by decide +kernel
theorem dX5_putStarts_68 : decode cX5_putStarts 68 = .ok (.invokevirtual 216, 3) := by decide +kernel
theorem dX5_putStarts_71 : decode cX5_putStarts 71 = .ok (.aload_n 2, 1) := by decide +kernel
theorem dX5_putStarts_72 : decode cX5_putStarts 72 = .ok (.aload_n 3, 1) := by decide +kernel
theorem dX5_putStarts_73 : decode cX5_putStarts 73 = .ok (.if_acmp .ne 4, 3) := by decide +kernel
theorem dX5_putStarts_76 : decode cX5_putStarts 76 = .ok (.return_, 1) := by decide +kernel
theorem dX5_putStarts_77 : decode cX5_putStarts 77 = .ok (.iload 4, 2) := by decide +kernel
end
section
theorem dX5_putStarts_79 : decode cX5_putStarts 79 = .ok (.ifCond .eq 7, 3) := by decide +kernel
theorem dX5_putStarts_82 : decode cX5_putStarts 82 = .ok (.aload_n 3, 1) := by decide +kernel
theorem dX5_putStarts_83 : decode cX5_putStarts 83 = .ok (.goto 4, 3) := by decide +kernel
theorem dX5_putStarts_86 : decode cX5_putStarts 86 = .ok (.aload_n 2, 1) := by decide +kernel
theorem dX5_putStarts_87 : decode cX5_putStarts 87 = .ok (.aload_n 1, 1) := by decide +kernel
theorem dX5_putStarts_88 : decode cX5_putStarts 88 = .ok (.invokevirtual 209, 3) := by decide +kernel
theorem dX5_putStarts_91 : decode cX5_putStarts 91 = .ok (.astore 6, 2) := by decide +kernel
theorem dX5_putStarts_93 : decode cX5_putStarts 93 = .ok (.aload_n 0, 1) := by decide +kernel
theorem dX5_putStarts_94 : decode cX5_putStarts 94 = .ok (.getfield 25, 3) := by decide +kernel
theorem dX5_putStarts_97 : decode cX5_putStarts 97 = .ok (.new 108, 3) := by decide +kernel
theorem dX5_putStarts_100 : decode cX5_putStarts 100 = .ok (.dup, 1) := by decide +kernel
theorem dX5_putStarts_101 : decode cX5_putStarts 101 = .ok (.iconst 0, 1) := by decide +kernel
theorem dX5_putStarts_102 : decode cX5_putStarts 102 = .ok (.iconst (-1), 1) := by decide +kernel
theorem dX5_putStarts_103 : decode cX5_putStarts 103 = .ok (.aload 6, 2) := by decide +kernel
theorem dX5_putStarts_105 : decode cX5_putStarts 105 = .ok (.iconst 0, 1) := by decide +kernel
theorem dX5_putStarts_106 : decode cX5_putStarts 106 = .ok (.invokespecial 213, 3) := by decide +kernel
theorem dX5_putStarts_109 : decode cX5_putStarts 109 = .ok (.invokevirtual 216, 3) := by decide +kernel
theorem dX5_putStarts_112 : decode cX5_putStarts 112 = .ok (.aload 5, 2) := by decide +kernel
theorem dX5_putStarts_114 : decode cX5_putStarts 114 = .ok (.aload 6, 2) := by decide +kernel
theorem dX5_putStarts_116 : decode cX5_putStarts 116 = .ok (.putfield 220, 3) := by decide +kernel
theorem dX5_putStarts_119 : decode cX5_putStarts 119 = .ok (.aload 6, 2) := by decide +kernel
theorem dX5_putStarts_121 : decode cX5_putStarts 121 = .ok (.aload 5, 2) := by decide +kernel
theorem dX5_putStarts_123 : decode cX5_putStarts 123 = .ok (.putfield 220, 3) := by decide +kernel
theorem dX5_putStarts_126 : decode cX5_putStarts 126 = .ok (.return_, 1) := by decide +kernel
theorem dX5_deliver_0 : decode cX5_deliver 0 = .ok (.aload_n 0, 1) := by decide +kernel
theorem dX5_deliver_1 : decode cX5_deliver 1 = .ok (.getfield 25, 3) := by decide +kernel
theorem dX5_deliver_4 : decode cX5_deliver 4 = .ok (.iload_n 1, 1) := by decide +kernel
theorem dX5_deliver_5 : decode cX5_deliver 5 = .ok (.invokevirtual 100, 3) := by decide +kernel
theorem dX5_deliver_8 : decode cX5_deliver 8 = .ok (.ifCond .ne 5, 3) := by decide +kernel
theorem dX5_deliver_11 : decode cX5_deliver 11 = .ok (.iconst (-1), 1) := by decide +kernel
theorem dX5_deliver_12 : decode cX5_deliver 12 = .ok (.ireturn, 1) := by decide +kernel
theorem dX5_deliver_13 : decode cX5_deliver 13 = .ok (.aload_n 0, 1) := by decide +kernel
theorem dX5_deliver_14 : decode cX5_deliver 14 = .ok (.getfield 25, 3) := by decide +kernel
theorem dX5_deliver_17 : decode cX5_deliver 17 = .ok (.getfield 103, 3) := by decide +kernel
theorem dX5_deliver_20 : decode cX5_deliver 20 = .ok (.iload_n 1, 1) := by decide +kernel
theorem dX5_deliver_21 : decode cX5_deliver 21 = .ok (.aaload, 1) := by decide +kernel
theorem dX5_deliver_22 : decode cX5_deliver 22 = .ok (.astore_n 3, 1) := by decide +kernel
theorem dX5_deliver_23 : decode cX5_deliver 23 = .ok (.aload_n 0, 1) := by decide +kernel
theorem dX5_deliver_24 : decode cX5_deliver 24 = .ok (.getfield 46, 3) := by decide +kernel
theorem dX5_deliver_27 : decode cX5_deliver 27 = .ok (.aload_n 3, 1) := by decide +kernel
theorem dX5_deliver_28 : decode cX5_deliver 28 = .ok (.getfield 112, 3) := by decide +kernel
theorem dX5_deliver_31 : decode cX5_deliver 31 = .ok (.getfield 125, 3) := by decide +kernel
theorem dX5_deliver_34 : decode cX5_deliver 34 = .ok (.aaload, 1) := by decide +kernel
theorem dX5_deliver_35 : decode cX5_deliver 35 = .ok (.astore 4, 2) := by decide +kernel
theorem dX5_deliver_37 : decode cX5_deliver 37 = .ok (.aload 4, 2) := by decide +kernel
theorem dX5_deliver_39 : decode cX5_deliver 39 = .ok (.getfield 96, 3) := by decide +kernel
theorem dX5_deliver_42 : decode cX5_deliver 42 = .ok (.ifCond .ne 5, 3) := by decide +kernel
theorem dX5_deliver_45 : decode cX5_deliver 45 = .ok (.iconst (-1), 1) := by decide +kernel
theorem dX5_deliver_46 : decode cX5_deliver 46 = .ok (.ireturn, 1) := by decide +kernel
theorem dX5_deliver_47 : decode cX5_deliver 47 = .ok (.iload_n 2, 1) := by decide +kernel
theorem dX5_deliver_48 : decode cX5_deliver 48 = .ok (.ifCond .ne 11, 3) := by decide +kernel
theorem dX5_deliver_51 : decode cX5_deliver 51 = .ok (.aload_n 0, 1) := by decide +kernel
theorem dX5_deliver_52 : decode cX5_deliver 52 = .ok (.getfield 25, 3) := by decide +kernel
theorem dX5_deliver_55 : decode cX5_deliver 55 = .ok (.iload_n 1, 1) := by decide +kernel
theorem dX5_deliver_56 : decode cX5_deliver 56 = .ok (.invokevirtual 223, 3) := by decide +kernel
theorem dX5_deliver_59 : decode cX5_deliver 59 = .ok (.aload_n 0, 1) := by decide +kernel
theorem dX5_deliver_60 : decode cX5_deliver 60 = .ok (.dup, 1) := by decide +kernel
theorem dX5_deliver_61 : decode cX5_deliver 61 = .ok (.getfield 184, 3) := by decide +kernel
theorem dX5_deliver_64 : decode cX5_deliver 64 = .ok (.iconst 1, 1) := by decide +kernel
theorem dX5_deliver_65 : decode cX5_deliver 65 = .ok (.iadd, 1) := by decide +kernel
theorem dX5_deliver_66 : decode cX5_deliver 66 = .ok (.putfield 184, 3) := by decide +kernel
theorem dX5_deliver_69 : decode cX5_deliver 69 = .ok (.aload_n 0, 1) := by decide +kernel
theorem dX5_deliver_70 : decode cX5_deliver 70 = .ok (.aload 4, 2) := by decide +kernel
theorem dX5_deliver_72 : decode cX5_deliver 72 = .ok (.aload_n 3, 1) := by decide +kernel
theorem dX5_deliver_73 : decode cX5_deliver 73 = .ok (.invokevirtual 226, 3) := by decide +kernel
theorem dX5_deliver_76 : decode cX5_deliver 76 = .ok (.aload 4, 2) := by decide +kernel
theorem dX5_deliver_78 : decode cX5_deliver 78 = .ok (.invokevirtual 230, 3) := by decide +kernel
theorem dX5_deliver_81 : decode cX5_deliver 81 = .ok (.aload 4, 2) := by decide +kernel
theorem dX5_deliver_83 : decode cX5_deliver 83 = .ok (.invokevirtual 233, 3) := by decide +kernel
theorem dX5_deliver_86 : decode cX5_deliver 86 = .ok (.aload_n 0, 1) := by decide +kernel
theorem dX5_deliver_87 : decode cX5_deliver 87 = .ok (.aload 4, 2) := by decide +kernel
theorem dX5_deliver_89 : decode cX5_deliver 89 = .ok (.invokevirtual 236, 3) := by decide +kernel
theorem dX5_deliver_92 : decode cX5_deliver 92 = .ok (.aload_n 0, 1) := by decide +kernel
theorem dX5_deliver_93 : decode cX5_deliver 93 = .ok (.getfield 25, 3) := by decide +kernel
theorem dX5_deliver_96 : decode cX5_deliver 96 = .ok (.getfield 131, 3) := by decide +kernel
theorem dX5_deliver_99 : decode cX5_deliver 99 = .ok (.ireturn, 1) := by decide +kernel
theorem dX5_receive_0 : decode cX5_receive 0 = .ok (.aload_n 2, 1) := by decide +kernel
theorem dX5_receive_1 : decode cX5_receive 1 = .ok (.getfield 112, 3) := by decide +kernel
theorem dX5_receive_4 : decode cX5_receive 4 = .ok (.astore_n 3, 1) := by decide +kernel
theorem dX5_receive_5 : decode cX5_receive 5 = .ok (.aload_n 2, 1) := by decide +kernel
theorem dX5_receive_6 : decode cX5_receive 6 = .ok (.getfield 107, 3) := by decide +kernel
theorem dX5_receive_9 : decode cX5_receive 9 = .ok (.iconst 1, 1) := by decide +kernel
theorem dX5_receive_10 : decode cX5_receive 10 = .ok (.if_icmp .ne 14, 3) := by decide +kernel
theorem dX5_receive_13 : decode cX5_receive 13 = .ok (.aload_n 3, 1) := by decide +kernel
theorem dX5_receive_14 : decode cX5_receive 14 = .ok (.aload_n 2, 1) := by decide +kernel
theorem dX5_receive_15 : decode cX5_receive 15 = .ok (.getfield 128, 3) := by decide +kernel
theorem dX5_receive_18 : decode cX5_receive 18 = .ok (.putfield 240, 3) := by decide +kernel
theorem dX5_receive_21 : decode cX5_receive 21 = .ok (.goto 74, 3) := by decide +kernel
theorem dX5_receive_24 : decode cX5_receive 24 = .ok (.aload_n 2, 1) := by decide +kernel
theorem dX5_receive_25 : decode cX5_receive 25 = .ok (.getfield 107, 3) := by decide +kernel
theorem dX5_receive_28 : decode cX5_receive 28 = .ok (.iconst 2, 1) := by decide +kernel
theorem dX5_receive_29 : decode cX5_receive 29 = .ok (.if_icmp .ne 19, 3) := by decide +kernel
theorem dX5_receive_32 : decode cX5_receive 32 = .ok (.aload_n 3, 1) := by decide +kernel
theorem dX5_receive_33 : decode cX5_receive 33 = .ok (.aload_n 2, 1) := by decide +kernel
theorem dX5_receive_34 : decode cX5_receive 34 = .ok (.getfield 128, 3) := by decide +kernel
theorem dX5_receive_37 : decode cX5_receive 37 = .ok (.putfield 243, 3) := by decide +kernel
theorem dX5_receive_40 : decode cX5_receive 40 = .ok (.aload_n 3, 1) := by decide +kernel
theorem dX5_receive_41 : decode cX5_receive 41 = .ok (.iconst 1, 1) := by decide +kernel
theorem dX5_receive_42 : decode cX5_receive 42 = .ok (.putfield 246, 3) := by decide +kernel
theorem dX5_receive_45 : decode cX5_receive 45 = .ok (.goto 50, 3) := by decide +kernel
theorem dX5_receive_48 : decode cX5_receive 48 = .ok (.aload_n 3, 1) := by decide +kernel
theorem dX5_receive_49 : decode cX5_receive 49 = .ok (.getfield 156, 3) := by decide +kernel
theorem dX5_receive_52 : decode cX5_receive 52 = .ok (.iconst (-1), 1) := by decide +kernel
theorem dX5_receive_53 : decode cX5_receive 53 = .ok (.if_icmp .ne 42, 3) := by decide +kernel
theorem dX5_receive_56 : decode cX5_receive 56 = .ok (.aload_n 1, 1) := by decide +kernel
theorem dX5_receive_57 : decode cX5_receive 57 = .ok (.aload_n 3, 1) := by decide +kernel
theorem dX5_receive_58 : decode cX5_receive 58 = .ok (.invokevirtual 249, 3) := by decide +kernel
theorem dX5_receive_61 : decode cX5_receive 61 = .ok (.aload_n 3, 1) := by decide +kernel
theorem dX5_receive_62 : decode cX5_receive 62 = .ok (.getfield 220, 3) := by decide +kernel
theorem dX5_receive_65 : decode cX5_receive 65 = .ok (.ifnull 30, 3) := by decide +kernel
theorem dX5_receive_68 : decode cX5_receive 68 = .ok (.aload_n 0, 1) := by decide +kernel
theorem dX5_receive_69 : decode cX5_receive 69 = .ok (.getfield 25, 3) := by decide +kernel
theorem dX5_receive_72 : decode cX5_receive 72 = .ok (.new 108, 3) := by decide +kernel
theorem dX5_receive_75 : decode cX5_receive 75 = .ok (.dup, 1) := by decide +kernel
theorem dX5_receive_76 : decode cX5_receive 76 = .ok (.iconst 1, 1) := by decide +kernel
theorem dX5_receive_77 : decode cX5_receive 77 = .ok (.aload_n 3, 1) := by decide +kernel
theorem dX5_receive_78 : decode cX5_receive 78 = .ok (.getfield 125, 3) := by decide +kernel
theorem dX5_receive_81 : decode cX5_receive 81 = .ok (.aload_n 3, 1) := by decide +kernel
theorem dX5_receive_82 : decode cX5_receive 82 = .ok (.getfield 220, 3) := by decide +kernel
theorem dX5_receive_85 : decode cX5_receive 85 = .ok (.aload_n 3, 1) := by decide +kernel
theorem dX5_receive_86 : decode cX5_receive 86 = .ok (.getfield 156, 3) := by decide +kernel
theorem dX5_receive_89 : decode cX5_receive 89 = .ok (.invokespecial 213, 3) := by decide +kernel
theorem dX5_receive_92 : decode cX5_receive 92 = .ok (.invokevirtual 216, 3) := by decide +kernel
theorem dX5_receive_95 : decode cX5_receive 95 = .ok (.return_, 1) := by decide +kernel
theorem dX5_workOutAll_0 : decode cX5_workOutAll 0 = .ok (.aload_n 1, 1) := by decide +kernel
theorem dX5_workOutAll_1 : decode cX5_workOutAll 1 = .ok (.getfield 253, 3) := by decide +kernel
theorem dX5_workOutAll_4 : decode cX5_workOutAll 4 = .ok (.istore_n 2, 1) := by decide +kernel
theorem dX5_workOutAll_5 : decode cX5_workOutAll 5 = .ok (.iload_n 2, 1) := by decide +kernel
theorem dX5_workOutAll_6 : decode cX5_workOutAll 6 = .ok (.aload_n 1, 1) := by decide +kernel
theorem dX5_workOutAll_7 : decode cX5_workOutAll 7 = .ok (.getfield 134, 3) := by decide +kernel
theorem dX5_workOutAll_10 : decode cX5_workOutAll 10 = .ok (.if_icmp .ge 48, 3) := by decide +kernel
theorem dX5_workOutAll_13 : decode cX5_workOutAll 13 = .ok (.aload_n 1, 1) := by decide +kernel
theorem dX5_workOutAll_14 : decode cX5_workOutAll 14 = .ok (.getfield 137, 3) := by decide +kernel
theorem dX5_workOutAll_17 : decode cX5_workOutAll 17 = .ok (.iload_n 2, 1) := by decide +kernel
theorem dX5_workOutAll_18 : decode cX5_workOutAll 18 = .ok (.aaload, 1) := by decide +kernel
theorem dX5_workOutAll_19 : decode cX5_workOutAll 19 = .ok (.astore_n 3, 1) := by decide +kernel
theorem dX5_workOutAll_20 : decode cX5_workOutAll 20 = .ok (.aload_n 0, 1) := by decide +kernel
theorem dX5_workOutAll_21 : decode cX5_workOutAll 21 = .ok (.aload_n 3, 1) := by decide +kernel
theorem dX5_workOutAll_22 : decode cX5_workOutAll 22 = .ok (.invokevirtual 256, 3) := by decide +kernel
theorem dX5_workOutAll_25 : decode cX5_workOutAll 25 = .ok (.aload_n 3, 1) := by decide +kernel
theorem dX5_workOutAll_26 : decode cX5_workOutAll 26 = .ok (.getfield 220, 3) := by decide +kernel
theorem dX5_workOutAll_29 : decode cX5_workOutAll 29 = .ok (.ifnull 11, 3) := by decide +kernel
theorem dX5_workOutAll_32 : decode cX5_workOutAll 32 = .ok (.aload_n 3, 1) := by decide +kernel
theorem dX5_workOutAll_33 : decode cX5_workOutAll 33 = .ok (.getfield 246, 3) := by decide +kernel
theorem dX5_workOutAll_36 : decode cX5_workOutAll 36 = .ok (.ifCond .ne 4, 3) := by decide +kernel
theorem dX5_workOutAll_39 : decode cX5_workOutAll 39 = .ok (.return_, 1) := by decide +kernel
theorem dX5_workOutAll_40 : decode cX5_workOutAll 40 = .ok (.aload_n 0, 1) := by decide +kernel
theorem dX5_workOutAll_41 : decode cX5_workOutAll 41 = .ok (.aload_n 3, 1) := by decide +kernel
theorem dX5_workOutAll_42 : decode cX5_workOutAll 42 = .ok (.invokevirtual 259, 3) := by decide +kernel
theorem dX5_workOutAll_45 : decode cX5_workOutAll 45 = .ok (.aload_n 1, 1) := by decide +kernel
theorem dX5_workOutAll_46 : decode cX5_workOutAll 46 = .ok (.iload_n 2, 1) := by decide +kernel
theorem dX5_workOutAll_47 : decode cX5_workOutAll 47 = .ok (.iconst 1, 1) := by decide +kernel
theorem dX5_workOutAll_48 : decode cX5_workOutAll 48 = .ok (.iadd, 1) := by decide +kernel
theorem dX5_workOutAll_49 : decode cX5_workOutAll 49 = .ok (.putfield 253, 3) := by decide +kernel
theorem dX5_workOutAll_52 : decode cX5_workOutAll 52 = .ok (.iinc 2 1, 3) := by decide +kernel
theorem dX5_workOutAll_55 : decode cX5_workOutAll 55 = .ok (.goto (-50), 3) := by decide +kernel
theorem dX5_workOutAll_58 : decode cX5_workOutAll 58 = .ok (.return_, 1) := by decide +kernel
theorem dX5_putValues_0 : decode cX5_putValues 0 = .ok (.aload_n 1, 1) := by decide +kernel
theorem dX5_putValues_1 : decode cX5_putValues 1 = .ok (.getfield 220, 3) := by decide +kernel
theorem dX5_putValues_4 : decode cX5_putValues 4 = .ok (.ifnull 10, 3) := by decide +kernel
theorem dX5_putValues_7 : decode cX5_putValues 7 = .ok (.aload_n 1, 1) := by decide +kernel
theorem dX5_putValues_8 : decode cX5_putValues 8 = .ok (.getfield 262, 3) := by decide +kernel
theorem dX5_putValues_11 : decode cX5_putValues 11 = .ok (.ifCond .eq 4, 3) := by decide +kernel
theorem dX5_putValues_14 : decode cX5_putValues 14 = .ok (.return_, 1) := by decide +kernel
theorem dX5_putValues_15 : decode cX5_putValues 15 = .ok (.aload_n 1, 1) := by decide +kernel
theorem dX5_putValues_16 : decode cX5_putValues 16 = .ok (.getfield 116, 3) := by decide +kernel
theorem dX5_putValues_19 : decode cX5_putValues 19 = .ok (.astore_n 2, 1) := by decide +kernel
theorem dX5_putValues_20 : decode cX5_putValues 20 = .ok (.aload_n 0, 1) := by decide +kernel
theorem dX5_putValues_21 : decode cX5_putValues 21 = .ok (.aload_n 2, 1) := by decide +kernel
theorem dX5_putValues_22 : decode cX5_putValues 22 = .ok (.getfield 198, 3) := by decide +kernel
theorem dX5_putValues_25 : decode cX5_putValues 25 = .ok (.invokevirtual 201, 3) := by decide +kernel
theorem dX5_putValues_28 : decode cX5_putValues 28 = .ok (.getfield 208, 3) := by decide +kernel
theorem dX5_putValues_31 : decode cX5_putValues 31 = .ok (.aload_n 1, 1) := by decide +kernel
theorem dX5_putValues_32 : decode cX5_putValues 32 = .ok (.getfield 125, 3) := by decide +kernel
theorem dX5_putValues_35 : decode cX5_putValues 35 = .ok (.if_icmp .ne 10, 3) := by decide +kernel
theorem dX5_putValues_38 : decode cX5_putValues 38 = .ok (.aload_n 2, 1) := by decide +kernel
theorem dX5_putValues_39 : decode cX5_putValues 39 = .ok (.getfield 198, 3) := by decide +kernel
theorem dX5_putValues_42 : decode cX5_putValues 42 = .ok (.goto 7, 3) := by decide +kernel
theorem dX5_putValues_45 : decode cX5_putValues 45 = .ok (.aload_n 2, 1) := by decide +kernel
theorem dX5_putValues_46 : decode cX5_putValues 46 = .ok (.getfield 205, 3) := by decide +kernel
theorem dX5_putValues_49 : decode cX5_putValues 49 = .ok (.istore_n 3, 1) := by decide +kernel
theorem dX5_putValues_50 : decode cX5_putValues 50 = .ok (.aload_n 0, 1) := by decide +kernel
theorem dX5_putValues_51 : decode cX5_putValues 51 = .ok (.getfield 25, 3) := by decide +kernel
theorem dX5_putValues_54 : decode cX5_putValues 54 = .ok (.new 108, 3) := by decide +kernel
theorem dX5_putValues_57 : decode cX5_putValues 57 = .ok (.dup, 1) := by decide +kernel
theorem dX5_putValues_58 : decode cX5_putValues 58 = .ok (.iconst 2, 1) := by decide +kernel
theorem dX5_putValues_59 : decode cX5_putValues 59 = .ok (.aload_n 1, 1) := by decide +kernel
theorem dX5_putValues_60 : decode cX5_putValues 60 = .ok (.getfield 125, 3) := by decide +kernel
theorem dX5_putValues_63 : decode cX5_putValues 63 = .ok (.aload_n 1, 1) := by decide +kernel
theorem dX5_putValues_64 : decode cX5_putValues 64 = .ok (.getfield 220, 3) := by decide +kernel
theorem dX5_putValues_67 : decode cX5_putValues 67 = .ok (.aload_n 0, 1) := by decide +kernel
theorem dX5_putValues_68 : decode cX5_putValues 68 = .ok (.getfield 9, 3) := by decide +kernel
theorem dX5_putValues_71 : decode cX5_putValues 71 = .ok (.iload_n 3, 1) := by decide +kernel
theorem dX5_putValues_72 : decode cX5_putValues 72 = .ok (.iaload, 1) := by decide +kernel
theorem dX5_putValues_73 : decode cX5_putValues 73 = .ok (.invokespecial 213, 3) := by decide +kernel
theorem dX5_putValues_76 : decode cX5_putValues 76 = .ok (.invokevirtual 216, 3) := by decide +kernel
theorem dX5_putValues_79 : decode cX5_putValues 79 = .ok (.aload_n 1, 1) := by decide +kernel
theorem dX5_putValues_80 : decode cX5_putValues 80 = .ok (.iconst 1, 1) := by decide +kernel
theorem dX5_putValues_81 : decode cX5_putValues 81 = .ok (.putfield 262, 3) := by decide +kernel
theorem dX5_putValues_84 : decode cX5_putValues 84 = .ok (.return_, 1) := by decide +kernel
theorem dX5_workOut_0 : decode cX5_workOut 0 = .ok (.aload_n 1, 1) := by decide +kernel
theorem dX5_workOut_1 : decode cX5_workOut 1 = .ok (.getfield 116, 3) := by decide +kernel
theorem dX5_workOut_4 : decode cX5_workOut 4 = .ok (.astore_n 2, 1) := by decide +kernel
theorem dX5_workOut_5 : decode cX5_workOut 5 = .ok (.aload_n 0, 1) := by decide +kernel
theorem dX5_workOut_6 : decode cX5_workOut 6 = .ok (.aload_n 2, 1) := by decide +kernel
theorem dX5_workOut_7 : decode cX5_workOut 7 = .ok (.getfield 198, 3) := by decide +kernel
theorem dX5_workOut_10 : decode cX5_workOut 10 = .ok (.invokevirtual 201, 3) := by decide +kernel
theorem dX5_workOut_13 : decode cX5_workOut 13 = .ok (.getfield 208, 3) := by decide +kernel
theorem dX5_workOut_16 : decode cX5_workOut 16 = .ok (.aload_n 1, 1) := by decide +kernel
theorem dX5_workOut_17 : decode cX5_workOut 17 = .ok (.getfield 125, 3) := by decide +kernel
theorem dX5_workOut_20 : decode cX5_workOut 20 = .ok (.if_icmp .ne 7, 3) := by decide +kernel
theorem dX5_workOut_23 : decode cX5_workOut 23 = .ok (.iconst 1, 1) := by decide +kernel
theorem dX5_workOut_24 : decode cX5_workOut 24 = .ok (.goto 4, 3) := by decide +kernel
theorem dX5_workOut_27 : decode cX5_workOut 27 = .ok (.iconst 0, 1) := by decide +kernel
theorem dX5_workOut_28 : decode cX5_workOut 28 = .ok (.istore_n 3, 1) := by decide +kernel
theorem dX5_workOut_29 : decode cX5_workOut 29 = .ok (.aload_n 0, 1) := by decide +kernel
theorem dX5_workOut_30 : decode cX5_workOut 30 = .ok (.aload_n 2, 1) := by decide +kernel
theorem dX5_workOut_31 : decode cX5_workOut 31 = .ok (.getfield 205, 3) := by decide +kernel
theorem dX5_workOut_34 : decode cX5_workOut 34 = .ok (.invokevirtual 201, 3) := by decide +kernel
theorem dX5_workOut_37 : decode cX5_workOut 37 = .ok (.getfield 208, 3) := by decide +kernel
theorem dX5_workOut_40 : decode cX5_workOut 40 = .ok (.aload_n 1, 1) := by decide +kernel
theorem dX5_workOut_41 : decode cX5_workOut 41 = .ok (.getfield 125, 3) := by decide +kernel
theorem dX5_workOut_44 : decode cX5_workOut 44 = .ok (.if_icmp .ne 7, 3) := by decide +kernel
theorem dX5_workOut_47 : decode cX5_workOut 47 = .ok (.iconst 1, 1) := by decide +kernel
theorem dX5_workOut_48 : decode cX5_workOut 48 = .ok (.goto 4, 3) := by decide +kernel
theorem dX5_workOut_51 : decode cX5_workOut 51 = .ok (.iconst 0, 1) := by decide +kernel
theorem dX5_workOut_52 : decode cX5_workOut 52 = .ok (.istore 4, 2) := by decide +kernel
theorem dX5_workOut_54 : decode cX5_workOut 54 = .ok (.iload_n 3, 1) := by decide +kernel
theorem dX5_workOut_55 : decode cX5_workOut 55 = .ok (.ifCond .eq 15, 3) := by decide +kernel
theorem dX5_workOut_58 : decode cX5_workOut 58 = .ok (.aload_n 0, 1) := by decide +kernel
theorem dX5_workOut_59 : decode cX5_workOut 59 = .ok (.getfield 9, 3) := by decide +kernel
theorem dX5_workOut_62 : decode cX5_workOut 62 = .ok (.aload_n 2, 1) := by decide +kernel
theorem dX5_workOut_63 : decode cX5_workOut 63 = .ok (.getfield 198, 3) := by decide +kernel
theorem dX5_workOut_66 : decode cX5_workOut 66 = .ok (.iaload, 1) := by decide +kernel
theorem dX5_workOut_67 : decode cX5_workOut 67 = .ok (.goto 7, 3) := by decide +kernel
theorem dX5_workOut_70 : decode cX5_workOut 70 = .ok (.aload_n 1, 1) := by decide +kernel
theorem dX5_workOut_71 : decode cX5_workOut 71 = .ok (.getfield 243, 3) := by decide +kernel
theorem dX5_workOut_74 : decode cX5_workOut 74 = .ok (.istore 5, 2) := by decide +kernel
theorem dX5_workOut_76 : decode cX5_workOut 76 = .ok (.iload 4, 2) := by decide +kernel
theorem dX5_workOut_78 : decode cX5_workOut 78 = .ok (.ifCond .eq 15, 3) := by decide +kernel
theorem dX5_workOut_81 : decode cX5_workOut 81 = .ok (.aload_n 0, 1) := by decide +kernel
theorem dX5_workOut_82 : decode cX5_workOut 82 = .ok (.getfield 9, 3) := by decide +kernel
theorem dX5_workOut_85 : decode cX5_workOut 85 = .ok (.aload_n 2, 1) := by decide +kernel
theorem dX5_workOut_86 : decode cX5_workOut 86 = .ok (.getfield 205, 3) := by decide +kernel
theorem dX5_workOut_89 : decode cX5_workOut 89 = .ok (.iaload, 1) := by decide +kernel
theorem dX5_workOut_90 : decode cX5_workOut 90 = .ok (.goto 7, 3) := by decide +kernel
theorem dX5_workOut_93 : decode cX5_workOut 93 = .ok (.aload_n 1, 1) := by decide +kernel
theorem dX5_workOut_94 : decode cX5_workOut 94 = .ok (.getfield 243, 3) := by decide +kernel
theorem dX5_workOut_97 : decode cX5_workOut 97 = .ok (.istore 6, 2) := by decide +kernel
theorem dX5_workOut_99 : decode cX5_workOut 99 = .ok (.iload 4, 2) := by decide +kernel
theorem dX5_workOut_101 : decode cX5_workOut 101 = .ok (.ifCond .eq 20, 3) := by decide +kernel
theorem dX5_workOut_104 : decode cX5_workOut 104 = .ok (.aload_n 0, 1) := by decide +kernel
theorem dX5_workOut_105 : decode cX5_workOut 105 = .ok (.getfield 9, 3) := by decide +kernel
theorem dX5_workOut_108 : decode cX5_workOut 108 = .ok (.aload_n 2, 1) := by decide +kernel
theorem dX5_workOut_109 : decode cX5_workOut 109 = .ok (.getfield 205, 3) := by decide +kernel
theorem dX5_workOut_112 : decode cX5_workOut 112 = .ok (.aload_n 2, 1) := by decide +kernel
theorem dX5_workOut_113 : decode cX5_workOut 113 = .ok (.iload 5, 2) := by decide +kernel
theorem dX5_workOut_115 : decode cX5_workOut 115 = .ok (.iload 6, 2) := by decide +kernel
theorem dX5_workOut_117 : decode cX5_workOut 117 = .ok (.invokevirtual 265, 3) := by decide +kernel
theorem dX5_workOut_120 : decode cX5_workOut 120 = .ok (.iastore, 1) := by decide +kernel
theorem dX5_workOut_121 : decode cX5_workOut 121 = .ok (.iload_n 3, 1) := by decide +kernel
theorem dX5_workOut_122 : decode cX5_workOut 122 = .ok (.ifCond .eq 20, 3) := by decide +kernel
theorem dX5_workOut_125 : decode cX5_workOut 125 = .ok (.aload_n 0, 1) := by decide +kernel
theorem dX5_workOut_126 : decode cX5_workOut 126 = .ok (.getfield 9, 3) := by decide +kernel
theorem dX5_workOut_129 : decode cX5_workOut 129 = .ok (.aload_n 2, 1) := by decide +kernel
theorem dX5_workOut_130 : decode cX5_workOut 130 = .ok (.getfield 198, 3) := by decide +kernel
theorem dX5_workOut_133 : decode cX5_workOut 133 = .ok (.aload_n 2, 1) := by decide +kernel
theorem dX5_workOut_134 : decode cX5_workOut 134 = .ok (.iload 5, 2) := by decide +kernel
theorem dX5_workOut_136 : decode cX5_workOut 136 = .ok (.iload 6, 2) := by decide +kernel
theorem dX5_workOut_138 : decode cX5_workOut 138 = .ok (.invokevirtual 268, 3) := by decide +kernel
theorem dX5_workOut_141 : decode cX5_workOut 141 = .ok (.iastore, 1) := by decide +kernel
theorem dX5_workOut_142 : decode cX5_workOut 142 = .ok (.aload_n 1, 1) := by decide +kernel
theorem dX5_workOut_143 : decode cX5_workOut 143 = .ok (.iconst 1, 1) := by decide +kernel
theorem dX5_workOut_144 : decode cX5_workOut 144 = .ok (.putfield 162, 3) := by decide +kernel
theorem dX5_workOut_147 : decode cX5_workOut 147 = .ok (.aload_n 2, 1) := by decide +kernel
theorem dX5_workOut_148 : decode cX5_workOut 148 = .ok (.getfield 150, 3) := by decide +kernel
theorem dX5_workOut_151 : decode cX5_workOut 151 = .ok (.ifCond .ne 45, 3) := by decide +kernel
theorem dX5_workOut_154 : decode cX5_workOut 154 = .ok (.aload_n 2, 1) := by decide +kernel
theorem dX5_workOut_155 : decode cX5_workOut 155 = .ok (.iconst 1, 1) := by decide +kernel
theorem dX5_workOut_156 : decode cX5_workOut 156 = .ok (.putfield 150, 3) := by decide +kernel
theorem dX5_workOut_159 : decode cX5_workOut 159 = .ok (.aload_n 2, 1) := by decide +kernel
theorem dX5_workOut_160 : decode cX5_workOut 160 = .ok (.aload_n 2, 1) := by decide +kernel
theorem dX5_workOut_161 : decode cX5_workOut 161 = .ok (.iload 5, 2) := by decide +kernel
theorem dX5_workOut_163 : decode cX5_workOut 163 = .ok (.iload 6, 2) := by decide +kernel
theorem dX5_workOut_165 : decode cX5_workOut 165 = .ok (.invokevirtual 271, 3) := by decide +kernel
theorem dX5_workOut_168 : decode cX5_workOut 168 = .ok (.putfield 144, 3) := by decide +kernel
theorem dX5_workOut_171 : decode cX5_workOut 171 = .ok (.aload_n 0, 1) := by decide +kernel
theorem dX5_workOut_172 : decode cX5_workOut 172 = .ok (.getfield 13, 3) := by decide +kernel
theorem dX5_workOut_175 : decode cX5_workOut 175 = .ok (.aload_n 2, 1) := by decide +kernel
theorem dX5_workOut_176 : decode cX5_workOut 176 = .ok (.getfield 195, 3) := by decide +kernel
theorem dX5_workOut_179 : decode cX5_workOut 179 = .ok (.aload_n 0, 1) := by decide +kernel
theorem dX5_workOut_180 : decode cX5_workOut 180 = .ok (.getfield 13, 3) := by decide +kernel
theorem dX5_workOut_183 : decode cX5_workOut 183 = .ok (.aload_n 2, 1) := by decide +kernel
theorem dX5_workOut_184 : decode cX5_workOut 184 = .ok (.getfield 195, 3) := by decide +kernel
theorem dX5_workOut_187 : decode cX5_workOut 187 = .ok (.iaload, 1) := by decide +kernel
theorem dX5_workOut_188 : decode cX5_workOut 188 = .ok (.aload_n 1, 1) := by decide +kernel
theorem dX5_workOut_189 : decode cX5_workOut 189 = .ok (.getfield 159, 3) := by decide +kernel
theorem dX5_workOut_192 : decode cX5_workOut 192 = .ok (.invokestatic 41, 3) := by decide +kernel
theorem dX5_workOut_195 : decode cX5_workOut 195 = .ok (.iastore, 1) := by decide +kernel
theorem dX5_workOut_196 : decode cX5_workOut 196 = .ok (.return_, 1) := by decide +kernel
theorem dX5_countAnswered_0 : decode cX5_countAnswered 0 = .ok (.iconst 0, 1) := by decide +kernel
theorem dX5_countAnswered_1 : decode cX5_countAnswered 1 = .ok (.istore_n 1, 1) := by decide +kernel
theorem dX5_countAnswered_2 : decode cX5_countAnswered 2 = .ok (.iconst 0, 1) := by decide +kernel
theorem dX5_countAnswered_3 : decode cX5_countAnswered 3 = .ok (.istore_n 2, 1) := by decide +kernel
theorem dX5_countAnswered_4 : decode cX5_countAnswered 4 = .ok (.iload_n 2, 1) := by decide +kernel
theorem dX5_countAnswered_5 : decode cX5_countAnswered 5 = .ok (.aload_n 0, 1) := by decide +kernel
theorem dX5_countAnswered_6 : decode cX5_countAnswered 6 = .ok (.getfield 59, 3) := by decide +kernel
theorem dX5_countAnswered_9 : decode cX5_countAnswered 9 = .ok (.if_icmp .ge 24, 3) := by decide +kernel
theorem dX5_countAnswered_12 : decode cX5_countAnswered 12 = .ok (.aload_n 0, 1) := by decide +kernel
theorem dX5_countAnswered_13 : decode cX5_countAnswered 13 = .ok (.getfield 18, 3) := by decide +kernel
theorem dX5_countAnswered_16 : decode cX5_countAnswered 16 = .ok (.iload_n 2, 1) := by decide +kernel
theorem dX5_countAnswered_17 : decode cX5_countAnswered 17 = .ok (.aaload, 1) := by decide +kernel
theorem dX5_countAnswered_18 : decode cX5_countAnswered 18 = .ok (.getfield 150, 3) := by decide +kernel
theorem dX5_countAnswered_21 : decode cX5_countAnswered 21 = .ok (.ifCond .eq 6, 3) := by decide +kernel
theorem dX5_countAnswered_24 : decode cX5_countAnswered 24 = .ok (.iinc 1 1, 3) := by decide +kernel
theorem dX5_countAnswered_27 : decode cX5_countAnswered 27 = .ok (.iinc 2 1, 3) := by decide +kernel
theorem dX5_countAnswered_30 : decode cX5_countAnswered 30 = .ok (.goto (-26), 3) := by decide +kernel
theorem dX5_countAnswered_33 : decode cX5_countAnswered 33 = .ok (.iload_n 1, 1) := by decide +kernel
theorem dX5_countAnswered_34 : decode cX5_countAnswered 34 = .ok (.ireturn, 1) := by decide +kernel
theorem dX5_countWorkedOutByAll_0 : decode cX5_countWorkedOutByAll 0 = .ok (.iconst 0, 1) := by decide +kernel
theorem dX5_countWorkedOutByAll_1 : decode cX5_countWorkedOutByAll 1 = .ok (.istore_n 1, 1) := by decide +kernel
theorem dX5_countWorkedOutByAll_2 : decode cX5_countWorkedOutByAll 2 = .ok (.iconst 0, 1) := by decide +kernel
theorem dX5_countWorkedOutByAll_3 : decode cX5_countWorkedOutByAll 3 = .ok (.istore_n 2, 1) := by decide +kernel
theorem dX5_countWorkedOutByAll_4 : decode cX5_countWorkedOutByAll 4 = .ok (.iload_n 2, 1) := by decide +kernel
theorem dX5_countWorkedOutByAll_5 : decode cX5_countWorkedOutByAll 5 = .ok (.aload_n 0, 1) := by decide +kernel
theorem dX5_countWorkedOutByAll_6 : decode cX5_countWorkedOutByAll 6 = .ok (.getfield 59, 3) := by decide +kernel
theorem dX5_countWorkedOutByAll_9 : decode cX5_countWorkedOutByAll 9 = .ok (.if_icmp .ge 56, 3) := by decide +kernel
theorem dX5_countWorkedOutByAll_12 : decode cX5_countWorkedOutByAll 12 = .ok (.aload_n 0, 1) := by decide +kernel
theorem dX5_countWorkedOutByAll_13 : decode cX5_countWorkedOutByAll 13 = .ok (.aload_n 0, 1) := by decide +kernel
theorem dX5_countWorkedOutByAll_14 : decode cX5_countWorkedOutByAll 14 = .ok (.getfield 18, 3) := by decide +kernel
theorem dX5_countWorkedOutByAll_17 : decode cX5_countWorkedOutByAll 17 = .ok (.iload_n 2, 1) := by decide +kernel
theorem dX5_countWorkedOutByAll_18 : decode cX5_countWorkedOutByAll 18 = .ok (.aaload, 1) := by decide +kernel
theorem dX5_countWorkedOutByAll_19 : decode cX5_countWorkedOutByAll 19 = .ok (.aload_n 0, 1) := by decide +kernel
theorem dX5_countWorkedOutByAll_20 : decode cX5_countWorkedOutByAll 20 = .ok (.getfield 18, 3) := by decide +kernel
theorem dX5_countWorkedOutByAll_23 : decode cX5_countWorkedOutByAll 23 = .ok (.iload_n 2, 1) := by decide +kernel
theorem dX5_countWorkedOutByAll_24 : decode cX5_countWorkedOutByAll 24 = .ok (.aaload, 1) := by decide +kernel
theorem dX5_countWorkedOutByAll_25 : decode cX5_countWorkedOutByAll 25 = .ok (.getfield 198, 3) := by decide +kernel
theorem dX5_countWorkedOutByAll_28 : decode cX5_countWorkedOutByAll 28 = .ok (.invokevirtual 274, 3) := by decide +kernel
theorem dX5_countWorkedOutByAll_31 : decode cX5_countWorkedOutByAll 31 = .ok (.ifCond .eq 28, 3) := by decide +kernel
theorem dX5_countWorkedOutByAll_34 : decode cX5_countWorkedOutByAll 34 = .ok (.aload_n 0, 1) := by decide +kernel
theorem dX5_countWorkedOutByAll_35 : decode cX5_countWorkedOutByAll 35 = .ok (.aload_n 0, 1) := by decide +kernel
theorem dX5_countWorkedOutByAll_36 : decode cX5_countWorkedOutByAll 36 = .ok (.getfield 18, 3) := by decide +kernel
theorem dX5_countWorkedOutByAll_39 : decode cX5_countWorkedOutByAll 39 = .ok (.iload_n 2, 1) := by decide +kernel
theorem dX5_countWorkedOutByAll_40 : decode cX5_countWorkedOutByAll 40 = .ok (.aaload, 1) := by decide +kernel
theorem dX5_countWorkedOutByAll_41 : decode cX5_countWorkedOutByAll 41 = .ok (.aload_n 0, 1) := by decide +kernel
theorem dX5_countWorkedOutByAll_42 : decode cX5_countWorkedOutByAll 42 = .ok (.getfield 18, 3) := by decide +kernel
theorem dX5_countWorkedOutByAll_45 : decode cX5_countWorkedOutByAll 45 = .ok (.iload_n 2, 1) := by decide +kernel
theorem dX5_countWorkedOutByAll_46 : decode cX5_countWorkedOutByAll 46 = .ok (.aaload, 1) := by decide +kernel
theorem dX5_countWorkedOutByAll_47 : decode cX5_countWorkedOutByAll 47 = .ok (.getfield 205, 3) := by decide +kernel
theorem dX5_countWorkedOutByAll_50 : decode cX5_countWorkedOutByAll 50 = .ok (.invokevirtual 274, 3) := by decide +kernel
theorem dX5_countWorkedOutByAll_53 : decode cX5_countWorkedOutByAll 53 = .ok (.ifCond .eq 6, 3) := by decide +kernel
theorem dX5_countWorkedOutByAll_56 : decode cX5_countWorkedOutByAll 56 = .ok (.iinc 1 1, 3) := by decide +kernel
theorem dX5_countWorkedOutByAll_59 : decode cX5_countWorkedOutByAll 59 = .ok (.iinc 2 1, 3) := by decide +kernel
theorem dX5_countWorkedOutByAll_62 : decode cX5_countWorkedOutByAll 62 = .ok (.goto (-58), 3) := by decide +kernel
theorem dX5_countWorkedOutByAll_65 : decode cX5_countWorkedOutByAll 65 = .ok (.iload_n 1, 1) := by decide +kernel
theorem dX5_countWorkedOutByAll_66 : decode cX5_countWorkedOutByAll 66 = .ok (.ireturn, 1) := by decide +kernel
theorem dX5_isWorkedOutAt_0 : decode cX5_isWorkedOutAt 0 = .ok (.aload_n 0, 1) := by decide +kernel
theorem dX5_isWorkedOutAt_1 : decode cX5_isWorkedOutAt 1 = .ok (.iload_n 2, 1) := by decide +kernel
theorem dX5_isWorkedOutAt_2 : decode cX5_isWorkedOutAt 2 = .ok (.invokevirtual 201, 3) := by decide +kernel
theorem dX5_isWorkedOutAt_5 : decode cX5_isWorkedOutAt 5 = .ok (.getfield 153, 3) := by decide +kernel
theorem dX5_isWorkedOutAt_8 : decode cX5_isWorkedOutAt 8 = .ok (.aload_n 1, 1) := by decide +kernel
theorem dX5_isWorkedOutAt_9 : decode cX5_isWorkedOutAt 9 = .ok (.getfield 85, 3) := by decide +kernel
theorem dX5_isWorkedOutAt_12 : decode cX5_isWorkedOutAt 12 = .ok (.aaload, 1) := by decide +kernel
theorem dX5_isWorkedOutAt_13 : decode cX5_isWorkedOutAt 13 = .ok (.astore_n 3, 1) := by decide +kernel
theorem dX5_isWorkedOutAt_14 : decode cX5_isWorkedOutAt 14 = .ok (.aload_n 3, 1) := by decide +kernel
theorem dX5_isWorkedOutAt_15 : decode cX5_isWorkedOutAt 15 = .ok (.ifnull 14, 3) := by decide +kernel
theorem dX5_isWorkedOutAt_18 : decode cX5_isWorkedOutAt 18 = .ok (.aload_n 3, 1) := by decide +kernel
theorem dX5_isWorkedOutAt_19 : decode cX5_isWorkedOutAt 19 = .ok (.getfield 162, 3) := by decide +kernel
theorem dX5_isWorkedOutAt_22 : decode cX5_isWorkedOutAt 22 = .ok (.ifCond .eq 7, 3) := by decide +kernel
theorem dX5_isWorkedOutAt_25 : decode cX5_isWorkedOutAt 25 = .ok (.iconst 1, 1) := by decide +kernel
theorem dX5_isWorkedOutAt_26 : decode cX5_isWorkedOutAt 26 = .ok (.goto 4, 3) := by decide +kernel
theorem dX5_isWorkedOutAt_29 : decode cX5_isWorkedOutAt 29 = .ok (.iconst 0, 1) := by decide +kernel
theorem dX5_isWorkedOutAt_30 : decode cX5_isWorkedOutAt 30 = .ok (.ireturn, 1) := by decide +kernel
theorem dX5_groupsTookInOrder_0 : decode cX5_groupsTookInOrder 0 = .ok (.iconst 0, 1) := by decide +kernel
theorem dX5_groupsTookInOrder_1 : decode cX5_groupsTookInOrder 1 = .ok (.istore_n 1, 1) := by decide +kernel
theorem dX5_groupsTookInOrder_2 : decode cX5_groupsTookInOrder 2 = .ok (.iload_n 1, 1) := by decide +kernel
theorem dX5_groupsTookInOrder_3 : decode cX5_groupsTookInOrder 3 = .ok (.aload_n 0, 1) := by decide +kernel
theorem dX5_groupsTookInOrder_4 : decode cX5_groupsTookInOrder 4 = .ok (.getfield 46, 3) := by decide +kernel
theorem dX5_groupsTookInOrder_7 : decode cX5_groupsTookInOrder 7 = .ok (.arraylength, 1) := by decide +kernel
theorem dX5_groupsTookInOrder_8 : decode cX5_groupsTookInOrder 8 = .ok (.if_icmp .ge 63, 3) := by decide +kernel
theorem dX5_groupsTookInOrder_11 : decode cX5_groupsTookInOrder 11 = .ok (.aload_n 0, 1) := by decide +kernel
theorem dX5_groupsTookInOrder_12 : decode cX5_groupsTookInOrder 12 = .ok (.getfield 46, 3) := by decide +kernel
theorem dX5_groupsTookInOrder_15 : decode cX5_groupsTookInOrder 15 = .ok (.iload_n 1, 1) := by decide +kernel
theorem dX5_groupsTookInOrder_16 : decode cX5_groupsTookInOrder 16 = .ok (.aaload, 1) := by decide +kernel
theorem dX5_groupsTookInOrder_17 : decode cX5_groupsTookInOrder 17 = .ok (.getfield 137, 3) := by decide +kernel
theorem dX5_groupsTookInOrder_20 : decode cX5_groupsTookInOrder 20 = .ok (.astore_n 2, 1) := by decide +kernel
theorem dX5_groupsTookInOrder_21 : decode cX5_groupsTookInOrder 21 = .ok (.iconst 1, 1) := by decide +kernel
theorem dX5_groupsTookInOrder_22 : decode cX5_groupsTookInOrder 22 = .ok (.istore_n 3, 1) := by decide +kernel
theorem dX5_groupsTookInOrder_23 : decode cX5_groupsTookInOrder 23 = .ok (.iload_n 3, 1) := by decide +kernel
theorem dX5_groupsTookInOrder_24 : decode cX5_groupsTookInOrder 24 = .ok (.aload_n 0, 1) := by decide +kernel
theorem dX5_groupsTookInOrder_25 : decode cX5_groupsTookInOrder 25 = .ok (.getfield 46, 3) := by decide +kernel
theorem dX5_groupsTookInOrder_28 : decode cX5_groupsTookInOrder 28 = .ok (.iload_n 1, 1) := by decide +kernel
theorem dX5_groupsTookInOrder_29 : decode cX5_groupsTookInOrder 29 = .ok (.aaload, 1) := by decide +kernel
theorem dX5_groupsTookInOrder_30 : decode cX5_groupsTookInOrder 30 = .ok (.getfield 134, 3) := by decide +kernel
theorem dX5_groupsTookInOrder_33 : decode cX5_groupsTookInOrder 33 = .ok (.if_icmp .ge 32, 3) := by decide +kernel
theorem dX5_groupsTookInOrder_36 : decode cX5_groupsTookInOrder 36 = .ok (.aload_n 0, 1) := by decide +kernel
theorem dX5_groupsTookInOrder_37 : decode cX5_groupsTookInOrder 37 = .ok (.aload_n 2, 1) := by decide +kernel
theorem dX5_groupsTookInOrder_38 : decode cX5_groupsTookInOrder 38 = .ok (.iload_n 3, 1) := by decide +kernel
theorem dX5_groupsTookInOrder_39 : decode cX5_groupsTookInOrder 39 = .ok (.aaload, 1) := by decide +kernel
theorem dX5_groupsTookInOrder_40 : decode cX5_groupsTookInOrder 40 = .ok (.getfield 116, 3) := by decide +kernel
theorem dX5_groupsTookInOrder_43 : decode cX5_groupsTookInOrder 43 = .ok (.aload_n 2, 1) := by decide +kernel
theorem dX5_groupsTookInOrder_44 : decode cX5_groupsTookInOrder 44 = .ok (.iload_n 3, 1) := by decide +kernel
theorem dX5_groupsTookInOrder_45 : decode cX5_groupsTookInOrder 45 = .ok (.iconst 1, 1) := by decide +kernel
theorem dX5_groupsTookInOrder_46 : decode cX5_groupsTookInOrder 46 = .ok (.isub, 1) := by decide +kernel
theorem dX5_groupsTookInOrder_47 : decode cX5_groupsTookInOrder 47 = .ok (.aaload, 1) := by decide +kernel
theorem dX5_groupsTookInOrder_48 : decode cX5_groupsTookInOrder 48 = .ok (.getfield 116, 3) := by decide +kernel
theorem dX5_groupsTookInOrder_51 : decode cX5_groupsTookInOrder 51 = .ok (.invokevirtual 278, 3) := by decide +kernel
theorem dX5_groupsTookInOrder_54 : decode cX5_groupsTookInOrder 54 = .ok (.ifCond .ne 5, 3) := by decide +kernel
theorem dX5_groupsTookInOrder_57 : decode cX5_groupsTookInOrder 57 = .ok (.iconst 0, 1) := by decide +kernel
theorem dX5_groupsTookInOrder_58 : decode cX5_groupsTookInOrder 58 = .ok (.ireturn, 1) := by decide +kernel
theorem dX5_groupsTookInOrder_59 : decode cX5_groupsTookInOrder 59 = .ok (.iinc 3 1, 3) := by decide +kernel
theorem dX5_groupsTookInOrder_62 : decode cX5_groupsTookInOrder 62 = .ok (.goto (-39), 3) := by decide +kernel
theorem dX5_groupsTookInOrder_65 : decode cX5_groupsTookInOrder 65 = .ok (.iinc 1 1, 3) := by decide +kernel
theorem dX5_groupsTookInOrder_68 : decode cX5_groupsTookInOrder 68 = .ok (.goto (-66), 3) := by decide +kernel
theorem dX5_groupsTookInOrder_71 : decode cX5_groupsTookInOrder 71 = .ok (.iconst 1, 1) := by decide +kernel
theorem dX5_groupsTookInOrder_72 : decode cX5_groupsTookInOrder 72 = .ok (.ireturn, 1) := by decide +kernel
theorem dX5_clientsWereFollowed_0 : decode cX5_clientsWereFollowed 0 = .ok (.iconst 0, 1) := by decide +kernel
theorem dX5_clientsWereFollowed_1 : decode cX5_clientsWereFollowed 1 = .ok (.istore_n 1, 1) := by decide +kernel
theorem dX5_clientsWereFollowed_2 : decode cX5_clientsWereFollowed 2 = .ok (.iload_n 1, 1) := by decide +kernel
theorem dX5_clientsWereFollowed_3 : decode cX5_clientsWereFollowed 3 = .ok (.aload_n 0, 1) := by decide +kernel
theorem dX5_clientsWereFollowed_4 : decode cX5_clientsWereFollowed 4 = .ok (.getfield 59, 3) := by decide +kernel
theorem dX5_clientsWereFollowed_7 : decode cX5_clientsWereFollowed 7 = .ok (.if_icmp .ge 85, 3) := by decide +kernel
theorem dX5_clientsWereFollowed_10 : decode cX5_clientsWereFollowed 10 = .ok (.iconst 0, 1) := by decide +kernel
theorem dX5_clientsWereFollowed_11 : decode cX5_clientsWereFollowed 11 = .ok (.istore_n 2, 1) := by decide +kernel
theorem dX5_clientsWereFollowed_12 : decode cX5_clientsWereFollowed 12 = .ok (.iload_n 2, 1) := by decide +kernel
theorem dX5_clientsWereFollowed_13 : decode cX5_clientsWereFollowed 13 = .ok (.iload_n 1, 1) := by decide +kernel
theorem dX5_clientsWereFollowed_14 : decode cX5_clientsWereFollowed 14 = .ok (.if_icmp .ge 72, 3) := by decide +kernel
theorem dX5_clientsWereFollowed_17 : decode cX5_clientsWereFollowed 17 = .ok (.aload_n 0, 1) := by decide +kernel
theorem dX5_clientsWereFollowed_18 : decode cX5_clientsWereFollowed 18 = .ok (.getfield 18, 3) := by decide +kernel
theorem dX5_clientsWereFollowed_21 : decode cX5_clientsWereFollowed 21 = .ok (.iload_n 1, 1) := by decide +kernel
theorem dX5_clientsWereFollowed_22 : decode cX5_clientsWereFollowed 22 = .ok (.aaload, 1) := by decide +kernel
theorem dX5_clientsWereFollowed_23 : decode cX5_clientsWereFollowed 23 = .ok (.getfield 77, 3) := by decide +kernel
theorem dX5_clientsWereFollowed_26 : decode cX5_clientsWereFollowed 26 = .ok (.iload_n 2, 1) := by decide +kernel
theorem dX5_clientsWereFollowed_27 : decode cX5_clientsWereFollowed 27 = .ok (.lshr, 1) := by decide +kernel
theorem dX5_clientsWereFollowed_28 : decode cX5_clientsWereFollowed 28 = .ok (.lconst 1, 1) := by decide +kernel
theorem dX5_clientsWereFollowed_29 : decode cX5_clientsWereFollowed 29 = .ok (.land, 1) := by decide +kernel
theorem dX5_clientsWereFollowed_30 : decode cX5_clientsWereFollowed 30 = .ok (.lconst 1, 1) := by decide +kernel
theorem dX5_clientsWereFollowed_31 : decode cX5_clientsWereFollowed 31 = .ok (.lcmp, 1) := by decide +kernel
theorem dX5_clientsWereFollowed_32 : decode cX5_clientsWereFollowed 32 = .ok (.ifCond .ne 7, 3) := by decide +kernel
theorem dX5_clientsWereFollowed_35 : decode cX5_clientsWereFollowed 35 = .ok (.iconst 1, 1) := by decide +kernel
theorem dX5_clientsWereFollowed_36 : decode cX5_clientsWereFollowed 36 = .ok (.goto 4, 3) := by decide +kernel
theorem dX5_clientsWereFollowed_39 : decode cX5_clientsWereFollowed 39 = .ok (.iconst 0, 1) := by decide +kernel
theorem dX5_clientsWereFollowed_40 : decode cX5_clientsWereFollowed 40 = .ok (.istore_n 3, 1) := by decide +kernel
theorem dX5_clientsWereFollowed_41 : decode cX5_clientsWereFollowed 41 = .ok (.iload_n 3, 1) := by decide +kernel
theorem dX5_clientsWereFollowed_42 : decode cX5_clientsWereFollowed 42 = .ok (.ifCond .eq 38, 3) := by decide +kernel
theorem dX5_clientsWereFollowed_45 : decode cX5_clientsWereFollowed 45 = .ok (.aload_n 0, 1) := by decide +kernel
theorem dX5_clientsWereFollowed_46 : decode cX5_clientsWereFollowed 46 = .ok (.aload_n 0, 1) := by decide +kernel
theorem dX5_clientsWereFollowed_47 : decode cX5_clientsWereFollowed 47 = .ok (.getfield 18, 3) := by decide +kernel
theorem dX5_clientsWereFollowed_50 : decode cX5_clientsWereFollowed 50 = .ok (.iload_n 1, 1) := by decide +kernel
theorem dX5_clientsWereFollowed_51 : decode cX5_clientsWereFollowed 51 = .ok (.aaload, 1) := by decide +kernel
end
section
theorem dX5_clientsWereFollowed_52 : decode cX5_clientsWereFollowed 52 = .ok (.invokevirtual 282, 3) := by decide +kernel
theorem dX5_clientsWereFollowed_55 : decode cX5_clientsWereFollowed 55 = .ok (.iconst (-1), 1) := by decide +kernel
theorem dX5_clientsWereFollowed_56 : decode cX5_clientsWereFollowed 56 = .ok (.if_icmp .eq 24, 3) := by decide +kernel
theorem dX5_clientsWereFollowed_59 : decode cX5_clientsWereFollowed 59 = .ok (.aload_n 0, 1) := by decide +kernel
theorem dX5_clientsWereFollowed_60 : decode cX5_clientsWereFollowed 60 = .ok (.aload_n 0, 1) := by decide +kernel
theorem dX5_clientsWereFollowed_61 : decode cX5_clientsWereFollowed 61 = .ok (.getfield 18, 3) := by decide +kernel
theorem dX5_clientsWereFollowed_64 : decode cX5_clientsWereFollowed 64 = .ok (.iload_n 1, 1) := by decide +kernel
theorem dX5_clientsWereFollowed_65 : decode cX5_clientsWereFollowed 65 = .ok (.aaload, 1) := by decide +kernel
theorem dX5_clientsWereFollowed_66 : decode cX5_clientsWereFollowed 66 = .ok (.aload_n 0, 1) := by decide +kernel
theorem dX5_clientsWereFollowed_67 : decode cX5_clientsWereFollowed 67 = .ok (.getfield 18, 3) := by decide +kernel
theorem dX5_clientsWereFollowed_70 : decode cX5_clientsWereFollowed 70 = .ok (.iload_n 2, 1) := by decide +kernel
theorem dX5_clientsWereFollowed_71 : decode cX5_clientsWereFollowed 71 = .ok (.aaload, 1) := by decide +kernel
theorem dX5_clientsWereFollowed_72 : decode cX5_clientsWereFollowed 72 = .ok (.invokevirtual 278, 3) := by decide +kernel
theorem dX5_clientsWereFollowed_75 : decode cX5_clientsWereFollowed 75 = .ok (.ifCond .ne 5, 3) := by decide +kernel
theorem dX5_clientsWereFollowed_78 : decode cX5_clientsWereFollowed 78 = .ok (.iconst 0, 1) := by decide +kernel
theorem dX5_clientsWereFollowed_79 : decode cX5_clientsWereFollowed 79 = .ok (.ireturn, 1) := by decide +kernel
theorem dX5_clientsWereFollowed_80 : decode cX5_clientsWereFollowed 80 = .ok (.iinc 2 1, 3) := by decide +kernel
theorem dX5_clientsWereFollowed_83 : decode cX5_clientsWereFollowed 83 = .ok (.goto (-71), 3) := by decide +kernel
theorem dX5_clientsWereFollowed_86 : decode cX5_clientsWereFollowed 86 = .ok (.iinc 1 1, 3) := by decide +kernel
theorem dX5_clientsWereFollowed_89 : decode cX5_clientsWereFollowed 89 = .ok (.goto (-87), 3) := by decide +kernel
theorem dX5_clientsWereFollowed_92 : decode cX5_clientsWereFollowed 92 = .ok (.iconst 1, 1) := by decide +kernel
theorem dX5_clientsWereFollowed_93 : decode cX5_clientsWereFollowed 93 = .ok (.ireturn, 1) := by decide +kernel
theorem dX5_replayGivesTheSame_0 : decode cX5_replayGivesTheSame 0 = .ok (.aload_n 0, 1) := by decide +kernel
theorem dX5_replayGivesTheSame_1 : decode cX5_replayGivesTheSame 1 = .ok (.getfield 29, 3) := by decide +kernel
theorem dX5_replayGivesTheSame_4 : decode cX5_replayGivesTheSame 4 = .ok (.bipush 100, 2) := by decide +kernel
theorem dX5_replayGivesTheSame_6 : decode cX5_replayGivesTheSame 6 = .ok (.invokestatic 53, 3) := by decide +kernel
theorem dX5_replayGivesTheSame_9 : decode cX5_replayGivesTheSame 9 = .ok (.aload_n 0, 1) := by decide +kernel
theorem dX5_replayGivesTheSame_10 : decode cX5_replayGivesTheSame 10 = .ok (.getfield 32, 3) := by decide +kernel
theorem dX5_replayGivesTheSame_13 : decode cX5_replayGivesTheSame 13 = .ok (.bipush 100, 2) := by decide +kernel
theorem dX5_replayGivesTheSame_15 : decode cX5_replayGivesTheSame 15 = .ok (.invokestatic 53, 3) := by decide +kernel
theorem dX5_replayGivesTheSame_18 : decode cX5_replayGivesTheSame 18 = .ok (.aload_n 0, 1) := by decide +kernel
theorem dX5_replayGivesTheSame_19 : decode cX5_replayGivesTheSame 19 = .ok (.aconst_null, 1) := by decide +kernel
theorem dX5_replayGivesTheSame_20 : decode cX5_replayGivesTheSame 20 = .ok (.invokevirtual 286, 3) := by decide +kernel
theorem dX5_replayGivesTheSame_23 : decode cX5_replayGivesTheSame 23 = .ok (.astore_n 1, 1) := by decide +kernel
theorem dX5_replayGivesTheSame_24 : decode cX5_replayGivesTheSame 24 = .ok (.iconst 0, 1) := by decide +kernel
theorem dX5_replayGivesTheSame_25 : decode cX5_replayGivesTheSame 25 = .ok (.istore_n 2, 1) := by decide +kernel
theorem dX5_replayGivesTheSame_26 : decode cX5_replayGivesTheSame 26 = .ok (.iload_n 2, 1) := by decide +kernel
theorem dX5_replayGivesTheSame_27 : decode cX5_replayGivesTheSame 27 = .ok (.aload_n 0, 1) := by decide +kernel
theorem dX5_replayGivesTheSame_28 : decode cX5_replayGivesTheSame 28 = .ok (.getfield 59, 3) := by decide +kernel
theorem dX5_replayGivesTheSame_31 : decode cX5_replayGivesTheSame 31 = .ok (.if_icmp .ge 29, 3) := by decide +kernel
theorem dX5_replayGivesTheSame_34 : decode cX5_replayGivesTheSame 34 = .ok (.aload_n 1, 1) := by decide +kernel
theorem dX5_replayGivesTheSame_35 : decode cX5_replayGivesTheSame 35 = .ok (.ifnull 25, 3) := by decide +kernel
theorem dX5_replayGivesTheSame_38 : decode cX5_replayGivesTheSame 38 = .ok (.aload_n 0, 1) := by decide +kernel
theorem dX5_replayGivesTheSame_39 : decode cX5_replayGivesTheSame 39 = .ok (.aload_n 1, 1) := by decide +kernel
theorem dX5_replayGivesTheSame_40 : decode cX5_replayGivesTheSame 40 = .ok (.invokevirtual 290, 3) := by decide +kernel
theorem dX5_replayGivesTheSame_43 : decode cX5_replayGivesTheSame 43 = .ok (.ifCond .ne 5, 3) := by decide +kernel
theorem dX5_replayGivesTheSame_46 : decode cX5_replayGivesTheSame 46 = .ok (.iconst 0, 1) := by decide +kernel
theorem dX5_replayGivesTheSame_47 : decode cX5_replayGivesTheSame 47 = .ok (.ireturn, 1) := by decide +kernel
theorem dX5_replayGivesTheSame_48 : decode cX5_replayGivesTheSame 48 = .ok (.aload_n 0, 1) := by decide +kernel
theorem dX5_replayGivesTheSame_49 : decode cX5_replayGivesTheSame 49 = .ok (.aload_n 1, 1) := by decide +kernel
theorem dX5_replayGivesTheSame_50 : decode cX5_replayGivesTheSame 50 = .ok (.invokevirtual 286, 3) := by decide +kernel
theorem dX5_replayGivesTheSame_53 : decode cX5_replayGivesTheSame 53 = .ok (.astore_n 1, 1) := by decide +kernel
theorem dX5_replayGivesTheSame_54 : decode cX5_replayGivesTheSame 54 = .ok (.iinc 2 1, 3) := by decide +kernel
theorem dX5_replayGivesTheSame_57 : decode cX5_replayGivesTheSame 57 = .ok (.goto (-31), 3) := by decide +kernel
theorem dX5_replayGivesTheSame_60 : decode cX5_replayGivesTheSame 60 = .ok (.iconst 0, 1) := by decide +kernel
theorem dX5_replayGivesTheSame_61 : decode cX5_replayGivesTheSame 61 = .ok (.istore_n 2, 1) := by decide +kernel
theorem dX5_replayGivesTheSame_62 : decode cX5_replayGivesTheSame 62 = .ok (.iload_n 2, 1) := by decide +kernel
theorem dX5_replayGivesTheSame_63 : decode cX5_replayGivesTheSame 63 = .ok (.bipush 16, 2) := by decide +kernel
theorem dX5_replayGivesTheSame_65 : decode cX5_replayGivesTheSame 65 = .ok (.if_icmp .ge 26, 3) := by decide +kernel
theorem dX5_replayGivesTheSame_68 : decode cX5_replayGivesTheSame 68 = .ok (.aload_n 0, 1) := by decide +kernel
theorem dX5_replayGivesTheSame_69 : decode cX5_replayGivesTheSame 69 = .ok (.getfield 9, 3) := by decide +kernel
theorem dX5_replayGivesTheSame_72 : decode cX5_replayGivesTheSame 72 = .ok (.iload_n 2, 1) := by decide +kernel
theorem dX5_replayGivesTheSame_73 : decode cX5_replayGivesTheSame 73 = .ok (.iaload, 1) := by decide +kernel
theorem dX5_replayGivesTheSame_74 : decode cX5_replayGivesTheSame 74 = .ok (.aload_n 0, 1) := by decide +kernel
theorem dX5_replayGivesTheSame_75 : decode cX5_replayGivesTheSame 75 = .ok (.getfield 32, 3) := by decide +kernel
theorem dX5_replayGivesTheSame_78 : decode cX5_replayGivesTheSame 78 = .ok (.iload_n 2, 1) := by decide +kernel
theorem dX5_replayGivesTheSame_79 : decode cX5_replayGivesTheSame 79 = .ok (.iaload, 1) := by decide +kernel
theorem dX5_replayGivesTheSame_80 : decode cX5_replayGivesTheSame 80 = .ok (.if_icmp .eq 5, 3) := by decide +kernel
theorem dX5_replayGivesTheSame_83 : decode cX5_replayGivesTheSame 83 = .ok (.iconst 0, 1) := by decide +kernel
theorem dX5_replayGivesTheSame_84 : decode cX5_replayGivesTheSame 84 = .ok (.ireturn, 1) := by decide +kernel
theorem dX5_replayGivesTheSame_85 : decode cX5_replayGivesTheSame 85 = .ok (.iinc 2 1, 3) := by decide +kernel
theorem dX5_replayGivesTheSame_88 : decode cX5_replayGivesTheSame 88 = .ok (.goto (-26), 3) := by decide +kernel
theorem dX5_replayGivesTheSame_91 : decode cX5_replayGivesTheSame 91 = .ok (.iconst 1, 1) := by decide +kernel
theorem dX5_replayGivesTheSame_92 : decode cX5_replayGivesTheSame 92 = .ok (.ireturn, 1) := by decide +kernel
theorem dX5_replayAnswersTheSame_0 : decode cX5_replayAnswersTheSame 0 = .ok (.aload_n 0, 1) := by decide +kernel
theorem dX5_replayAnswersTheSame_1 : decode cX5_replayAnswersTheSame 1 = .ok (.getfield 29, 3) := by decide +kernel
theorem dX5_replayAnswersTheSame_4 : decode cX5_replayAnswersTheSame 4 = .ok (.aload_n 1, 1) := by decide +kernel
theorem dX5_replayAnswersTheSame_5 : decode cX5_replayAnswersTheSame 5 = .ok (.getfield 198, 3) := by decide +kernel
theorem dX5_replayAnswersTheSame_8 : decode cX5_replayAnswersTheSame 8 = .ok (.iaload, 1) := by decide +kernel
theorem dX5_replayAnswersTheSame_9 : decode cX5_replayAnswersTheSame 9 = .ok (.istore_n 2, 1) := by decide +kernel
theorem dX5_replayAnswersTheSame_10 : decode cX5_replayAnswersTheSame 10 = .ok (.aload_n 0, 1) := by decide +kernel
theorem dX5_replayAnswersTheSame_11 : decode cX5_replayAnswersTheSame 11 = .ok (.getfield 29, 3) := by decide +kernel
theorem dX5_replayAnswersTheSame_14 : decode cX5_replayAnswersTheSame 14 = .ok (.aload_n 1, 1) := by decide +kernel
theorem dX5_replayAnswersTheSame_15 : decode cX5_replayAnswersTheSame 15 = .ok (.getfield 205, 3) := by decide +kernel
theorem dX5_replayAnswersTheSame_18 : decode cX5_replayAnswersTheSame 18 = .ok (.iaload, 1) := by decide +kernel
theorem dX5_replayAnswersTheSame_19 : decode cX5_replayAnswersTheSame 19 = .ok (.istore_n 3, 1) := by decide +kernel
theorem dX5_replayAnswersTheSame_20 : decode cX5_replayAnswersTheSame 20 = .ok (.aload_n 0, 1) := by decide +kernel
theorem dX5_replayAnswersTheSame_21 : decode cX5_replayAnswersTheSame 21 = .ok (.getfield 29, 3) := by decide +kernel
theorem dX5_replayAnswersTheSame_24 : decode cX5_replayAnswersTheSame 24 = .ok (.aload_n 1, 1) := by decide +kernel
theorem dX5_replayAnswersTheSame_25 : decode cX5_replayAnswersTheSame 25 = .ok (.getfield 205, 3) := by decide +kernel
theorem dX5_replayAnswersTheSame_28 : decode cX5_replayAnswersTheSame 28 = .ok (.aload_n 1, 1) := by decide +kernel
theorem dX5_replayAnswersTheSame_29 : decode cX5_replayAnswersTheSame 29 = .ok (.iload_n 2, 1) := by decide +kernel
theorem dX5_replayAnswersTheSame_30 : decode cX5_replayAnswersTheSame 30 = .ok (.iload_n 3, 1) := by decide +kernel
theorem dX5_replayAnswersTheSame_31 : decode cX5_replayAnswersTheSame 31 = .ok (.invokevirtual 265, 3) := by decide +kernel
theorem dX5_replayAnswersTheSame_34 : decode cX5_replayAnswersTheSame 34 = .ok (.iastore, 1) := by decide +kernel
theorem dX5_replayAnswersTheSame_35 : decode cX5_replayAnswersTheSame 35 = .ok (.aload_n 0, 1) := by decide +kernel
theorem dX5_replayAnswersTheSame_36 : decode cX5_replayAnswersTheSame 36 = .ok (.getfield 29, 3) := by decide +kernel
theorem dX5_replayAnswersTheSame_39 : decode cX5_replayAnswersTheSame 39 = .ok (.aload_n 1, 1) := by decide +kernel
theorem dX5_replayAnswersTheSame_40 : decode cX5_replayAnswersTheSame 40 = .ok (.getfield 198, 3) := by decide +kernel
theorem dX5_replayAnswersTheSame_43 : decode cX5_replayAnswersTheSame 43 = .ok (.aload_n 1, 1) := by decide +kernel
theorem dX5_replayAnswersTheSame_44 : decode cX5_replayAnswersTheSame 44 = .ok (.iload_n 2, 1) := by decide +kernel
theorem dX5_replayAnswersTheSame_45 : decode cX5_replayAnswersTheSame 45 = .ok (.iload_n 3, 1) := by decide +kernel
theorem dX5_replayAnswersTheSame_46 : decode cX5_replayAnswersTheSame 46 = .ok (.invokevirtual 268, 3) := by decide +kernel
theorem dX5_replayAnswersTheSame_49 : decode cX5_replayAnswersTheSame 49 = .ok (.iastore, 1) := by decide +kernel
theorem dX5_replayAnswersTheSame_50 : decode cX5_replayAnswersTheSame 50 = .ok (.aload_n 0, 1) := by decide +kernel
theorem dX5_replayAnswersTheSame_51 : decode cX5_replayAnswersTheSame 51 = .ok (.aload_n 1, 1) := by decide +kernel
theorem dX5_replayAnswersTheSame_52 : decode cX5_replayAnswersTheSame 52 = .ok (.aload_n 1, 1) := by decide +kernel
theorem dX5_replayAnswersTheSame_53 : decode cX5_replayAnswersTheSame 53 = .ok (.getfield 198, 3) := by decide +kernel
theorem dX5_replayAnswersTheSame_56 : decode cX5_replayAnswersTheSame 56 = .ok (.invokevirtual 274, 3) := by decide +kernel
theorem dX5_replayAnswersTheSame_59 : decode cX5_replayAnswersTheSame 59 = .ok (.ifCond .eq 21, 3) := by decide +kernel
theorem dX5_replayAnswersTheSame_62 : decode cX5_replayAnswersTheSame 62 = .ok (.aload_n 0, 1) := by decide +kernel
theorem dX5_replayAnswersTheSame_63 : decode cX5_replayAnswersTheSame 63 = .ok (.getfield 32, 3) := by decide +kernel
theorem dX5_replayAnswersTheSame_66 : decode cX5_replayAnswersTheSame 66 = .ok (.aload_n 1, 1) := by decide +kernel
theorem dX5_replayAnswersTheSame_67 : decode cX5_replayAnswersTheSame 67 = .ok (.getfield 198, 3) := by decide +kernel
theorem dX5_replayAnswersTheSame_70 : decode cX5_replayAnswersTheSame 70 = .ok (.aload_n 0, 1) := by decide +kernel
theorem dX5_replayAnswersTheSame_71 : decode cX5_replayAnswersTheSame 71 = .ok (.getfield 29, 3) := by decide +kernel
theorem dX5_replayAnswersTheSame_74 : decode cX5_replayAnswersTheSame 74 = .ok (.aload_n 1, 1) := by decide +kernel
theorem dX5_replayAnswersTheSame_75 : decode cX5_replayAnswersTheSame 75 = .ok (.getfield 198, 3) := by decide +kernel
theorem dX5_replayAnswersTheSame_78 : decode cX5_replayAnswersTheSame 78 = .ok (.iaload, 1) := by decide +kernel
theorem dX5_replayAnswersTheSame_79 : decode cX5_replayAnswersTheSame 79 = .ok (.iastore, 1) := by decide +kernel
theorem dX5_replayAnswersTheSame_80 : decode cX5_replayAnswersTheSame 80 = .ok (.aload_n 0, 1) := by decide +kernel
theorem dX5_replayAnswersTheSame_81 : decode cX5_replayAnswersTheSame 81 = .ok (.aload_n 1, 1) := by decide +kernel
theorem dX5_replayAnswersTheSame_82 : decode cX5_replayAnswersTheSame 82 = .ok (.aload_n 1, 1) := by decide +kernel
theorem dX5_replayAnswersTheSame_83 : decode cX5_replayAnswersTheSame 83 = .ok (.getfield 205, 3) := by decide +kernel
theorem dX5_replayAnswersTheSame_86 : decode cX5_replayAnswersTheSame 86 = .ok (.invokevirtual 274, 3) := by decide +kernel
theorem dX5_replayAnswersTheSame_89 : decode cX5_replayAnswersTheSame 89 = .ok (.ifCond .eq 21, 3) := by decide +kernel
theorem dX5_replayAnswersTheSame_92 : decode cX5_replayAnswersTheSame 92 = .ok (.aload_n 0, 1) := by decide +kernel
theorem dX5_replayAnswersTheSame_93 : decode cX5_replayAnswersTheSame 93 = .ok (.getfield 32, 3) := by decide +kernel
theorem dX5_replayAnswersTheSame_96 : decode cX5_replayAnswersTheSame 96 = .ok (.aload_n 1, 1) := by decide +kernel
theorem dX5_replayAnswersTheSame_97 : decode cX5_replayAnswersTheSame 97 = .ok (.getfield 205, 3) := by decide +kernel
theorem dX5_replayAnswersTheSame_100 : decode cX5_replayAnswersTheSame 100 = .ok (.aload_n 0, 1) := by decide +kernel
theorem dX5_replayAnswersTheSame_101 : decode cX5_replayAnswersTheSame 101 = .ok (.getfield 29, 3) := by decide +kernel
theorem dX5_replayAnswersTheSame_104 : decode cX5_replayAnswersTheSame 104 = .ok (.aload_n 1, 1) := by decide +kernel
theorem dX5_replayAnswersTheSame_105 : decode cX5_replayAnswersTheSame 105 = .ok (.getfield 205, 3) := by decide +kernel
theorem dX5_replayAnswersTheSame_108 : decode cX5_replayAnswersTheSame 108 = .ok (.iaload, 1) := by decide +kernel
theorem dX5_replayAnswersTheSame_109 : decode cX5_replayAnswersTheSame 109 = .ok (.iastore, 1) := by decide +kernel
theorem dX5_replayAnswersTheSame_110 : decode cX5_replayAnswersTheSame 110 = .ok (.aload_n 1, 1) := by decide +kernel
theorem dX5_replayAnswersTheSame_111 : decode cX5_replayAnswersTheSame 111 = .ok (.getfield 144, 3) := by decide +kernel
theorem dX5_replayAnswersTheSame_114 : decode cX5_replayAnswersTheSame 114 = .ok (.aload_n 1, 1) := by decide +kernel
theorem dX5_replayAnswersTheSame_115 : decode cX5_replayAnswersTheSame 115 = .ok (.iload_n 2, 1) := by decide +kernel
theorem dX5_replayAnswersTheSame_116 : decode cX5_replayAnswersTheSame 116 = .ok (.iload_n 3, 1) := by decide +kernel
theorem dX5_replayAnswersTheSame_117 : decode cX5_replayAnswersTheSame 117 = .ok (.invokevirtual 271, 3) := by decide +kernel
theorem dX5_replayAnswersTheSame_120 : decode cX5_replayAnswersTheSame 120 = .ok (.if_icmp .ne 7, 3) := by decide +kernel
theorem dX5_replayAnswersTheSame_123 : decode cX5_replayAnswersTheSame 123 = .ok (.iconst 1, 1) := by decide +kernel
theorem dX5_replayAnswersTheSame_124 : decode cX5_replayAnswersTheSame 124 = .ok (.goto 4, 3) := by decide +kernel
theorem dX5_replayAnswersTheSame_127 : decode cX5_replayAnswersTheSame 127 = .ok (.iconst 0, 1) := by decide +kernel
theorem dX5_replayAnswersTheSame_128 : decode cX5_replayAnswersTheSame 128 = .ok (.ireturn, 1) := by decide +kernel
theorem dX5_nextAnswered_0 : decode cX5_nextAnswered 0 = .ok (.aconst_null, 1) := by decide +kernel
theorem dX5_nextAnswered_1 : decode cX5_nextAnswered 1 = .ok (.astore_n 2, 1) := by decide +kernel
theorem dX5_nextAnswered_2 : decode cX5_nextAnswered 2 = .ok (.iconst 0, 1) := by decide +kernel
theorem dX5_nextAnswered_3 : decode cX5_nextAnswered 3 = .ok (.istore_n 3, 1) := by decide +kernel
theorem dX5_nextAnswered_4 : decode cX5_nextAnswered 4 = .ok (.iload_n 3, 1) := by decide +kernel
theorem dX5_nextAnswered_5 : decode cX5_nextAnswered 5 = .ok (.aload_n 0, 1) := by decide +kernel
theorem dX5_nextAnswered_6 : decode cX5_nextAnswered 6 = .ok (.getfield 59, 3) := by decide +kernel
theorem dX5_nextAnswered_9 : decode cX5_nextAnswered 9 = .ok (.if_icmp .ge 68, 3) := by decide +kernel
theorem dX5_nextAnswered_12 : decode cX5_nextAnswered 12 = .ok (.aload_n 0, 1) := by decide +kernel
theorem dX5_nextAnswered_13 : decode cX5_nextAnswered 13 = .ok (.getfield 18, 3) := by decide +kernel
theorem dX5_nextAnswered_16 : decode cX5_nextAnswered 16 = .ok (.iload_n 3, 1) := by decide +kernel
theorem dX5_nextAnswered_17 : decode cX5_nextAnswered 17 = .ok (.aaload, 1) := by decide +kernel
theorem dX5_nextAnswered_18 : decode cX5_nextAnswered 18 = .ok (.astore 4, 2) := by decide +kernel
theorem dX5_nextAnswered_20 : decode cX5_nextAnswered 20 = .ok (.aload 4, 2) := by decide +kernel
theorem dX5_nextAnswered_22 : decode cX5_nextAnswered 22 = .ok (.getfield 150, 3) := by decide +kernel
theorem dX5_nextAnswered_25 : decode cX5_nextAnswered 25 = .ok (.ifCond .eq 21, 3) := by decide +kernel
theorem dX5_nextAnswered_28 : decode cX5_nextAnswered 28 = .ok (.aload_n 1, 1) := by decide +kernel
theorem dX5_nextAnswered_29 : decode cX5_nextAnswered 29 = .ok (.ifnull 13, 3) := by decide +kernel
theorem dX5_nextAnswered_32 : decode cX5_nextAnswered 32 = .ok (.aload_n 0, 1) := by decide +kernel
theorem dX5_nextAnswered_33 : decode cX5_nextAnswered 33 = .ok (.aload 4, 2) := by decide +kernel
theorem dX5_nextAnswered_35 : decode cX5_nextAnswered 35 = .ok (.aload_n 1, 1) := by decide +kernel
theorem dX5_nextAnswered_36 : decode cX5_nextAnswered 36 = .ok (.invokevirtual 278, 3) := by decide +kernel
theorem dX5_nextAnswered_39 : decode cX5_nextAnswered 39 = .ok (.ifCond .eq 7, 3) := by decide +kernel
theorem dX5_nextAnswered_42 : decode cX5_nextAnswered 42 = .ok (.iconst 1, 1) := by decide +kernel
theorem dX5_nextAnswered_43 : decode cX5_nextAnswered 43 = .ok (.goto 4, 3) := by decide +kernel
theorem dX5_nextAnswered_46 : decode cX5_nextAnswered 46 = .ok (.iconst 0, 1) := by decide +kernel
theorem dX5_nextAnswered_47 : decode cX5_nextAnswered 47 = .ok (.istore 5, 2) := by decide +kernel
theorem dX5_nextAnswered_49 : decode cX5_nextAnswered 49 = .ok (.iload 5, 2) := by decide +kernel
theorem dX5_nextAnswered_51 : decode cX5_nextAnswered 51 = .ok (.ifCond .eq 20, 3) := by decide +kernel
theorem dX5_nextAnswered_54 : decode cX5_nextAnswered 54 = .ok (.aload_n 2, 1) := by decide +kernel
theorem dX5_nextAnswered_55 : decode cX5_nextAnswered 55 = .ok (.ifnull 13, 3) := by decide +kernel
theorem dX5_nextAnswered_58 : decode cX5_nextAnswered 58 = .ok (.aload_n 0, 1) := by decide +kernel
theorem dX5_nextAnswered_59 : decode cX5_nextAnswered 59 = .ok (.aload_n 2, 1) := by decide +kernel
theorem dX5_nextAnswered_60 : decode cX5_nextAnswered 60 = .ok (.aload 4, 2) := by decide +kernel
theorem dX5_nextAnswered_62 : decode cX5_nextAnswered 62 = .ok (.invokevirtual 278, 3) := by decide +kernel
theorem dX5_nextAnswered_65 : decode cX5_nextAnswered 65 = .ok (.ifCond .eq 6, 3) := by decide +kernel
theorem dX5_nextAnswered_68 : decode cX5_nextAnswered 68 = .ok (.aload 4, 2) := by decide +kernel
theorem dX5_nextAnswered_70 : decode cX5_nextAnswered 70 = .ok (.astore_n 2, 1) := by decide +kernel
theorem dX5_nextAnswered_71 : decode cX5_nextAnswered 71 = .ok (.iinc 3 1, 3) := by decide +kernel
theorem dX5_nextAnswered_74 : decode cX5_nextAnswered 74 = .ok (.goto (-70), 3) := by decide +kernel
theorem dX5_nextAnswered_77 : decode cX5_nextAnswered 77 = .ok (.aload_n 2, 1) := by decide +kernel
theorem dX5_nextAnswered_78 : decode cX5_nextAnswered 78 = .ok (.areturn, 1) := by decide +kernel
theorem dX5_isBehind_0 : decode cX5_isBehind 0 = .ok (.aload_n 0, 1) := by decide +kernel
theorem dX5_isBehind_1 : decode cX5_isBehind 1 = .ok (.aload_n 1, 1) := by decide +kernel
theorem dX5_isBehind_2 : decode cX5_isBehind 2 = .ok (.invokevirtual 282, 3) := by decide +kernel
theorem dX5_isBehind_5 : decode cX5_isBehind 5 = .ok (.aload_n 0, 1) := by decide +kernel
theorem dX5_isBehind_6 : decode cX5_isBehind 6 = .ok (.aload_n 2, 1) := by decide +kernel
theorem dX5_isBehind_7 : decode cX5_isBehind 7 = .ok (.invokevirtual 282, 3) := by decide +kernel
theorem dX5_isBehind_10 : decode cX5_isBehind 10 = .ok (.invokestatic 294, 3) := by decide +kernel
theorem dX5_isBehind_13 : decode cX5_isBehind 13 = .ok (.istore_n 3, 1) := by decide +kernel
theorem dX5_isBehind_14 : decode cX5_isBehind 14 = .ok (.iload_n 3, 1) := by decide +kernel
theorem dX5_isBehind_15 : decode cX5_isBehind 15 = .ok (.ifCond .gt 18, 3) := by decide +kernel
theorem dX5_isBehind_18 : decode cX5_isBehind 18 = .ok (.iload_n 3, 1) := by decide +kernel
theorem dX5_isBehind_19 : decode cX5_isBehind 19 = .ok (.ifCond .ne 18, 3) := by decide +kernel
theorem dX5_isBehind_22 : decode cX5_isBehind 22 = .ok (.aload_n 1, 1) := by decide +kernel
theorem dX5_isBehind_23 : decode cX5_isBehind 23 = .ok (.getfield 85, 3) := by decide +kernel
theorem dX5_isBehind_26 : decode cX5_isBehind 26 = .ok (.aload_n 2, 1) := by decide +kernel
theorem dX5_isBehind_27 : decode cX5_isBehind 27 = .ok (.getfield 85, 3) := by decide +kernel
theorem dX5_isBehind_30 : decode cX5_isBehind 30 = .ok (.if_icmp .le 7, 3) := by decide +kernel
theorem dX5_isBehind_33 : decode cX5_isBehind 33 = .ok (.iconst 1, 1) := by decide +kernel
theorem dX5_isBehind_34 : decode cX5_isBehind 34 = .ok (.goto 4, 3) := by decide +kernel
theorem dX5_isBehind_37 : decode cX5_isBehind 37 = .ok (.iconst 0, 1) := by decide +kernel
theorem dX5_isBehind_38 : decode cX5_isBehind 38 = .ok (.ireturn, 1) := by decide +kernel
theorem dX5_finalTimeOf_0 : decode cX5_finalTimeOf 0 = .ok (.aload_n 0, 1) := by decide +kernel
theorem dX5_finalTimeOf_1 : decode cX5_finalTimeOf 1 = .ok (.aload_n 1, 1) := by decide +kernel
theorem dX5_finalTimeOf_2 : decode cX5_finalTimeOf 2 = .ok (.getfield 198, 3) := by decide +kernel
theorem dX5_finalTimeOf_5 : decode cX5_finalTimeOf 5 = .ok (.invokevirtual 201, 3) := by decide +kernel
theorem dX5_finalTimeOf_8 : decode cX5_finalTimeOf 8 = .ok (.getfield 153, 3) := by decide +kernel
theorem dX5_finalTimeOf_11 : decode cX5_finalTimeOf 11 = .ok (.aload_n 1, 1) := by decide +kernel
theorem dX5_finalTimeOf_12 : decode cX5_finalTimeOf 12 = .ok (.getfield 85, 3) := by decide +kernel
theorem dX5_finalTimeOf_15 : decode cX5_finalTimeOf 15 = .ok (.aaload, 1) := by decide +kernel
theorem dX5_finalTimeOf_16 : decode cX5_finalTimeOf 16 = .ok (.astore_n 2, 1) := by decide +kernel
theorem dX5_finalTimeOf_17 : decode cX5_finalTimeOf 17 = .ok (.aload_n 0, 1) := by decide +kernel
theorem dX5_finalTimeOf_18 : decode cX5_finalTimeOf 18 = .ok (.aload_n 1, 1) := by decide +kernel
theorem dX5_finalTimeOf_19 : decode cX5_finalTimeOf 19 = .ok (.getfield 205, 3) := by decide +kernel
theorem dX5_finalTimeOf_22 : decode cX5_finalTimeOf 22 = .ok (.invokevirtual 201, 3) := by decide +kernel
theorem dX5_finalTimeOf_25 : decode cX5_finalTimeOf 25 = .ok (.getfield 153, 3) := by decide +kernel
theorem dX5_finalTimeOf_28 : decode cX5_finalTimeOf 28 = .ok (.aload_n 1, 1) := by decide +kernel
theorem dX5_finalTimeOf_29 : decode cX5_finalTimeOf 29 = .ok (.getfield 85, 3) := by decide +kernel
theorem dX5_finalTimeOf_32 : decode cX5_finalTimeOf 32 = .ok (.aaload, 1) := by decide +kernel
theorem dX5_finalTimeOf_33 : decode cX5_finalTimeOf 33 = .ok (.astore_n 3, 1) := by decide +kernel
theorem dX5_finalTimeOf_34 : decode cX5_finalTimeOf 34 = .ok (.aload_n 2, 1) := by decide +kernel
theorem dX5_finalTimeOf_35 : decode cX5_finalTimeOf 35 = .ok (.ifnull 7, 3) := by decide +kernel
theorem dX5_finalTimeOf_38 : decode cX5_finalTimeOf 38 = .ok (.aload_n 3, 1) := by decide +kernel
theorem dX5_finalTimeOf_39 : decode cX5_finalTimeOf 39 = .ok (.ifnonnull 5, 3) := by decide +kernel
theorem dX5_finalTimeOf_42 : decode cX5_finalTimeOf 42 = .ok (.iconst (-1), 1) := by decide +kernel
theorem dX5_finalTimeOf_43 : decode cX5_finalTimeOf 43 = .ok (.ireturn, 1) := by decide +kernel
theorem dX5_finalTimeOf_44 : decode cX5_finalTimeOf 44 = .ok (.aload_n 2, 1) := by decide +kernel
theorem dX5_finalTimeOf_45 : decode cX5_finalTimeOf 45 = .ok (.getfield 159, 3) := by decide +kernel
theorem dX5_finalTimeOf_48 : decode cX5_finalTimeOf 48 = .ok (.iconst (-1), 1) := by decide +kernel
theorem dX5_finalTimeOf_49 : decode cX5_finalTimeOf 49 = .ok (.if_icmp .eq 10, 3) := by decide +kernel
theorem dX5_finalTimeOf_52 : decode cX5_finalTimeOf 52 = .ok (.aload_n 2, 1) := by decide +kernel
theorem dX5_finalTimeOf_53 : decode cX5_finalTimeOf 53 = .ok (.getfield 159, 3) := by decide +kernel
theorem dX5_finalTimeOf_56 : decode cX5_finalTimeOf 56 = .ok (.goto 7, 3) := by decide +kernel
theorem dX5_finalTimeOf_59 : decode cX5_finalTimeOf 59 = .ok (.aload_n 3, 1) := by decide +kernel
theorem dX5_finalTimeOf_60 : decode cX5_finalTimeOf 60 = .ok (.getfield 159, 3) := by decide +kernel
theorem dX5_finalTimeOf_63 : decode cX5_finalTimeOf 63 = .ok (.ireturn, 1) := by decide +kernel
theorem dX6_init_0 : decode cX6_init 0 = .ok (.aload_n 0, 1) := by decide +kernel
theorem dX6_init_1 : decode cX6_init 1 = .ok (.invokespecial 1, 3) := by decide +kernel
theorem dX6_init_4 : decode cX6_init 4 = .ok (.aload_n 0, 1) := by decide +kernel
theorem dX6_init_5 : decode cX6_init 5 = .ok (.iconst 4, 1) := by decide +kernel
theorem dX6_init_6 : decode cX6_init 6 = .ok (.newarray .int, 2) := by decide +kernel
theorem dX6_init_8 : decode cX6_init 8 = .ok (.putfield 7, 3) := by decide +kernel
theorem dX6_init_11 : decode cX6_init 11 = .ok (.aload_n 0, 1) := by decide +kernel
theorem dX6_init_12 : decode cX6_init 12 = .ok (.iconst 4, 1) := by decide +kernel
theorem dX6_init_13 : decode cX6_init 13 = .ok (.newarray .boolean, 2) := by decide +kernel
theorem dX6_init_15 : decode cX6_init 15 = .ok (.putfield 13, 3) := by decide +kernel
theorem dX6_init_18 : decode cX6_init 18 = .ok (.aload_n 0, 1) := by decide +kernel
theorem dX6_init_19 : decode cX6_init 19 = .ok (.bipush 16, 2) := by decide +kernel
theorem dX6_init_21 : decode cX6_init 21 = .ok (.newarray .int, 2) := by decide +kernel
theorem dX6_init_23 : decode cX6_init 23 = .ok (.putfield 17, 3) := by decide +kernel
theorem dX6_init_26 : decode cX6_init 26 = .ok (.aload_n 0, 1) := by decide +kernel
theorem dX6_init_27 : decode cX6_init 27 = .ok (.bipush 40, 2) := by decide +kernel
theorem dX6_init_29 : decode cX6_init 29 = .ok (.newarray .int, 2) := by decide +kernel
theorem dX6_init_31 : decode cX6_init 31 = .ok (.putfield 20, 3) := by decide +kernel
theorem dX6_init_34 : decode cX6_init 34 = .ok (.aload_n 0, 1) := by decide +kernel
theorem dX6_init_35 : decode cX6_init 35 = .ok (.bipush 40, 2) := by decide +kernel
theorem dX6_init_37 : decode cX6_init 37 = .ok (.newarray .int, 2) := by decide +kernel
theorem dX6_init_39 : decode cX6_init 39 = .ok (.putfield 23, 3) := by decide +kernel
theorem dX6_init_42 : decode cX6_init 42 = .ok (.aload_n 0, 1) := by decide +kernel
theorem dX6_init_43 : decode cX6_init 43 = .ok (.bipush 40, 2) := by decide +kernel
theorem dX6_init_45 : decode cX6_init 45 = .ok (.newarray .int, 2) := by decide +kernel
theorem dX6_init_47 : decode cX6_init 47 = .ok (.putfield 26, 3) := by decide +kernel
theorem dX6_init_50 : decode cX6_init 50 = .ok (.aload_n 0, 1) := by decide +kernel
theorem dX6_init_51 : decode cX6_init 51 = .ok (.bipush 40, 2) := by decide +kernel
theorem dX6_init_53 : decode cX6_init 53 = .ok (.newarray .int, 2) := by decide +kernel
theorem dX6_init_55 : decode cX6_init 55 = .ok (.putfield 29, 3) := by decide +kernel
theorem dX6_init_58 : decode cX6_init 58 = .ok (.aload_n 0, 1) := by decide +kernel
theorem dX6_init_59 : decode cX6_init 59 = .ok (.bipush 40, 2) := by decide +kernel
theorem dX6_init_61 : decode cX6_init 61 = .ok (.newarray .int, 2) := by decide +kernel
theorem dX6_init_63 : decode cX6_init 63 = .ok (.putfield 32, 3) := by decide +kernel
theorem dX6_init_66 : decode cX6_init 66 = .ok (.aload_n 0, 1) := by decide +kernel
theorem dX6_init_67 : decode cX6_init 67 = .ok (.bipush 40, 2) := by decide +kernel
theorem dX6_init_69 : decode cX6_init 69 = .ok (.newarray .int, 2) := by decide +kernel
theorem dX6_init_71 : decode cX6_init 71 = .ok (.putfield 35, 3) := by decide +kernel
theorem dX6_init_74 : decode cX6_init 74 = .ok (.aload_n 0, 1) := by decide +kernel
theorem dX6_init_75 : decode cX6_init 75 = .ok (.bipush 40, 2) := by decide +kernel
theorem dX6_init_77 : decode cX6_init 77 = .ok (.newarray .boolean, 2) := by decide +kernel
theorem dX6_init_79 : decode cX6_init 79 = .ok (.putfield 38, 3) := by decide +kernel
theorem dX6_init_82 : decode cX6_init 82 = .ok (.aload_n 0, 1) := by decide +kernel
theorem dX6_init_83 : decode cX6_init 83 = .ok (.bipush 40, 2) := by decide +kernel
theorem dX6_init_85 : decode cX6_init 85 = .ok (.newarray .int, 2) := by decide +kernel
theorem dX6_init_87 : decode cX6_init 87 = .ok (.putfield 41, 3) := by decide +kernel
theorem dX6_init_90 : decode cX6_init 90 = .ok (.aload_n 0, 1) := by decide +kernel
theorem dX6_init_91 : decode cX6_init 91 = .ok (.iconst 4, 1) := by decide +kernel
theorem dX6_init_92 : decode cX6_init 92 = .ok (.newarray .int, 2) := by decide +kernel
theorem dX6_init_94 : decode cX6_init 94 = .ok (.putfield 44, 3) := by decide +kernel
theorem dX6_init_97 : decode cX6_init 97 = .ok (.aload_n 0, 1) := by decide +kernel
theorem dX6_init_98 : decode cX6_init 98 = .ok (.sipush 160, 3) := by decide +kernel
theorem dX6_init_101 : decode cX6_init 101 = .ok (.newarray .boolean, 2) := by decide +kernel
theorem dX6_init_103 : decode cX6_init 103 = .ok (.putfield 47, 3) := by decide +kernel
theorem dX6_init_106 : decode cX6_init 106 = .ok (.aload_n 0, 1) := by decide +kernel
theorem dX6_init_107 : decode cX6_init 107 = .ok (.sipush 160, 3) := by decide +kernel
theorem dX6_init_110 : decode cX6_init 110 = .ok (.newarray .int, 2) := by decide +kernel
theorem dX6_init_112 : decode cX6_init 112 = .ok (.putfield 50, 3) := by decide +kernel
theorem dX6_init_115 : decode cX6_init 115 = .ok (.aload_n 0, 1) := by decide +kernel
theorem dX6_init_116 : decode cX6_init 116 = .ok (.sipush 160, 3) := by decide +kernel
theorem dX6_init_119 : decode cX6_init 119 = .ok (.newarray .boolean, 2) := by decide +kernel
theorem dX6_init_121 : decode cX6_init 121 = .ok (.putfield 53, 3) := by decide +kernel
theorem dX6_init_124 : decode cX6_init 124 = .ok (.aload_n 0, 1) := by decide +kernel
theorem dX6_init_125 : decode cX6_init 125 = .ok (.sipush 160, 3) := by decide +kernel
theorem dX6_init_128 : decode cX6_init 128 = .ok (.newarray .boolean, 2) := by decide +kernel
theorem dX6_init_130 : decode cX6_init 130 = .ok (.putfield 56, 3) := by decide +kernel
theorem dX6_init_133 : decode cX6_init 133 = .ok (.aload_n 0, 1) := by decide +kernel
theorem dX6_init_134 : decode cX6_init 134 = .ok (.sipush 160, 3) := by decide +kernel
theorem dX6_init_137 : decode cX6_init 137 = .ok (.newarray .boolean, 2) := by decide +kernel
theorem dX6_init_139 : decode cX6_init 139 = .ok (.putfield 59, 3) := by decide +kernel
theorem dX6_init_142 : decode cX6_init 142 = .ok (.aload_n 0, 1) := by decide +kernel
theorem dX6_init_143 : decode cX6_init 143 = .ok (.sipush 640, 3) := by decide +kernel
theorem dX6_init_146 : decode cX6_init 146 = .ok (.newarray .int, 2) := by decide +kernel
theorem dX6_init_148 : decode cX6_init 148 = .ok (.putfield 62, 3) := by decide +kernel
theorem dX6_init_151 : decode cX6_init 151 = .ok (.aload_n 0, 1) := by decide +kernel
theorem dX6_init_152 : decode cX6_init 152 = .ok (.sipush 640, 3) := by decide +kernel
theorem dX6_init_155 : decode cX6_init 155 = .ok (.newarray .boolean, 2) := by decide +kernel
theorem dX6_init_157 : decode cX6_init 157 = .ok (.putfield 65, 3) := by decide +kernel
theorem dX6_init_160 : decode cX6_init 160 = .ok (.aload_n 0, 1) := by decide +kernel
theorem dX6_init_161 : decode cX6_init 161 = .ok (.sipush 640, 3) := by decide +kernel
theorem dX6_init_164 : decode cX6_init 164 = .ok (.newarray .int, 2) := by decide +kernel
theorem dX6_init_166 : decode cX6_init 166 = .ok (.putfield 68, 3) := by decide +kernel
theorem dX6_init_169 : decode cX6_init 169 = .ok (.aload_n 0, 1) := by decide +kernel
theorem dX6_init_170 : decode cX6_init 170 = .ok (.sipush 640, 3) := by decide +kernel
theorem dX6_init_173 : decode cX6_init 173 = .ok (.newarray .int, 2) := by decide +kernel
theorem dX6_init_175 : decode cX6_init 175 = .ok (.putfield 71, 3) := by decide +kernel
theorem dX6_init_178 : decode cX6_init 178 = .ok (.aload_n 0, 1) := by decide +kernel
theorem dX6_init_179 : decode cX6_init 179 = .ok (.iconst 4, 1) := by decide +kernel
theorem dX6_init_180 : decode cX6_init 180 = .ok (.newarray .int, 2) := by decide +kernel
theorem dX6_init_182 : decode cX6_init 182 = .ok (.putfield 74, 3) := by decide +kernel
theorem dX6_init_185 : decode cX6_init 185 = .ok (.aload_n 0, 1) := by decide +kernel
theorem dX6_init_186 : decode cX6_init 186 = .ok (.sipush 160, 3) := by decide +kernel
theorem dX6_init_189 : decode cX6_init 189 = .ok (.newarray .int, 2) := by decide +kernel
theorem dX6_init_191 : decode cX6_init 191 = .ok (.putfield 77, 3) := by decide +kernel
theorem dX6_init_194 : decode cX6_init 194 = .ok (.aload_n 0, 1) := by decide +kernel
theorem dX6_init_195 : decode cX6_init 195 = .ok (.sipush 400, 3) := by decide +kernel
theorem dX6_init_198 : decode cX6_init 198 = .ok (.newarray .int, 2) := by decide +kernel
theorem dX6_init_200 : decode cX6_init 200 = .ok (.putfield 80, 3) := by decide +kernel
theorem dX6_init_203 : decode cX6_init 203 = .ok (.aload_n 0, 1) := by decide +kernel
theorem dX6_init_204 : decode cX6_init 204 = .ok (.sipush 400, 3) := by decide +kernel
theorem dX6_init_207 : decode cX6_init 207 = .ok (.newarray .int, 2) := by decide +kernel
theorem dX6_init_209 : decode cX6_init 209 = .ok (.putfield 83, 3) := by decide +kernel
theorem dX6_init_212 : decode cX6_init 212 = .ok (.aload_n 0, 1) := by decide +kernel
theorem dX6_init_213 : decode cX6_init 213 = .ok (.sipush 400, 3) := by decide +kernel
theorem dX6_init_216 : decode cX6_init 216 = .ok (.newarray .int, 2) := by decide +kernel
theorem dX6_init_218 : decode cX6_init 218 = .ok (.putfield 86, 3) := by decide +kernel
theorem dX6_init_221 : decode cX6_init 221 = .ok (.aload_n 0, 1) := by decide +kernel
theorem dX6_init_222 : decode cX6_init 222 = .ok (.sipush 400, 3) := by decide +kernel
theorem dX6_init_225 : decode cX6_init 225 = .ok (.newarray .int, 2) := by decide +kernel
theorem dX6_init_227 : decode cX6_init 227 = .ok (.putfield 89, 3) := by decide +kernel
theorem dX6_init_230 : decode cX6_init 230 = .ok (.aload_n 0, 1) := by decide +kernel
theorem dX6_init_231 : decode cX6_init 231 = .ok (.sipush 400, 3) := by decide +kernel
theorem dX6_init_234 : decode cX6_init 234 = .ok (.newarray .int, 2) := by decide +kernel
theorem dX6_init_236 : decode cX6_init 236 = .ok (.putfield 92, 3) := by decide +kernel
theorem dX6_init_239 : decode cX6_init 239 = .ok (.aload_n 0, 1) := by decide +kernel
theorem dX6_init_240 : decode cX6_init 240 = .ok (.sipush 400, 3) := by decide +kernel
theorem dX6_init_243 : decode cX6_init 243 = .ok (.newarray .int, 2) := by decide +kernel
theorem dX6_init_245 : decode cX6_init 245 = .ok (.putfield 95, 3) := by decide +kernel
theorem dX6_init_248 : decode cX6_init 248 = .ok (.aload_n 0, 1) := by decide +kernel
theorem dX6_init_249 : decode cX6_init 249 = .ok (.sipush 400, 3) := by decide +kernel
theorem dX6_init_252 : decode cX6_init 252 = .ok (.newarray .int, 2) := by decide +kernel
theorem dX6_init_254 : decode cX6_init 254 = .ok (.putfield 98, 3) := by decide +kernel
theorem dX6_init_257 : decode cX6_init 257 = .ok (.aload_n 0, 1) := by decide +kernel
theorem dX6_init_258 : decode cX6_init 258 = .ok (.iload_n 1, 1) := by decide +kernel
theorem dX6_init_259 : decode cX6_init 259 = .ok (.iconst 2, 1) := by decide +kernel
theorem dX6_init_260 : decode cX6_init 260 = .ok (.if_icmp .ge 7, 3) := by decide +kernel
theorem dX6_init_263 : decode cX6_init 263 = .ok (.iconst 2, 1) := by decide +kernel
theorem dX6_init_264 : decode cX6_init 264 = .ok (.goto 13, 3) := by decide +kernel
theorem dX6_init_267 : decode cX6_init 267 = .ok (.iload_n 1, 1) := by decide +kernel
theorem dX6_init_268 : decode cX6_init 268 = .ok (.iconst 4, 1) := by decide +kernel
theorem dX6_init_269 : decode cX6_init 269 = .ok (.if_icmp .le 7, 3) := by decide +kernel
theorem dX6_init_272 : decode cX6_init 272 = .ok (.iconst 4, 1) := by decide +kernel
theorem dX6_init_273 : decode cX6_init 273 = .ok (.goto 4, 3) := by decide +kernel
theorem dX6_init_276 : decode cX6_init 276 = .ok (.iload_n 1, 1) := by decide +kernel
theorem dX6_init_277 : decode cX6_init 277 = .ok (.putfield 101, 3) := by decide +kernel
theorem dX6_init_280 : decode cX6_init 280 = .ok (.iconst 0, 1) := by decide +kernel
theorem dX6_init_281 : decode cX6_init 281 = .ok (.istore_n 2, 1) := by decide +kernel
theorem dX6_init_282 : decode cX6_init 282 = .ok (.iload_n 2, 1) := by decide +kernel
theorem dX6_init_283 : decode cX6_init 283 = .ok (.bipush 16, 2) := by decide +kernel
theorem dX6_init_285 : decode cX6_init 285 = .ok (.if_icmp .ge 17, 3) := by decide +kernel
theorem dX6_init_288 : decode cX6_init 288 = .ok (.aload_n 0, 1) := by decide +kernel
theorem dX6_init_289 : decode cX6_init 289 = .ok (.getfield 17, 3) := by decide +kernel
theorem dX6_init_292 : decode cX6_init 292 = .ok (.iload_n 2, 1) := by decide +kernel
theorem dX6_init_293 : decode cX6_init 293 = .ok (.bipush 100, 2) := by decide +kernel
theorem dX6_init_295 : decode cX6_init 295 = .ok (.iastore, 1) := by decide +kernel
theorem dX6_init_296 : decode cX6_init 296 = .ok (.iinc 2 1, 3) := by decide +kernel
theorem dX6_init_299 : decode cX6_init 299 = .ok (.goto (-17), 3) := by decide +kernel
theorem dX6_init_302 : decode cX6_init 302 = .ok (.return_, 1) := by decide +kernel
theorem dX6_isIn_0 : decode cX6_isIn 0 = .ok (.iload_n 0, 1) := by decide +kernel
theorem dX6_isIn_1 : decode cX6_isIn 1 = .ok (.ifCond .lt 12, 3) := by decide +kernel
theorem dX6_isIn_4 : decode cX6_isIn 4 = .ok (.iload_n 0, 1) := by decide +kernel
theorem dX6_isIn_5 : decode cX6_isIn 5 = .ok (.iload_n 1, 1) := by decide +kernel
theorem dX6_isIn_6 : decode cX6_isIn 6 = .ok (.if_icmp .ge 7, 3) := by decide +kernel
theorem dX6_isIn_9 : decode cX6_isIn 9 = .ok (.iconst 1, 1) := by decide +kernel
theorem dX6_isIn_10 : decode cX6_isIn 10 = .ok (.goto 4, 3) := by decide +kernel
theorem dX6_isIn_13 : decode cX6_isIn 13 = .ok (.iconst 0, 1) := by decide +kernel
theorem dX6_isIn_14 : decode cX6_isIn 14 = .ok (.ireturn, 1) := by decide +kernel
theorem dX6_isOf_0 : decode cX6_isOf 0 = .ok (.aload_n 0, 1) := by decide +kernel
theorem dX6_isOf_1 : decode cX6_isOf 1 = .ok (.getfield 26, 3) := by decide +kernel
theorem dX6_isOf_4 : decode cX6_isOf 4 = .ok (.iload_n 2, 1) := by decide +kernel
theorem dX6_isOf_5 : decode cX6_isOf 5 = .ok (.iaload, 1) := by decide +kernel
theorem dX6_isOf_6 : decode cX6_isOf 6 = .ok (.aload_n 0, 1) := by decide +kernel
theorem dX6_isOf_7 : decode cX6_isOf 7 = .ok (.getfield 101, 3) := by decide +kernel
theorem dX6_isOf_10 : decode cX6_isOf 10 = .ok (.irem, 1) := by decide +kernel
theorem dX6_isOf_11 : decode cX6_isOf 11 = .ok (.iload_n 1, 1) := by decide +kernel
theorem dX6_isOf_12 : decode cX6_isOf 12 = .ok (.if_icmp .eq 27, 3) := by decide +kernel
theorem dX6_isOf_15 : decode cX6_isOf 15 = .ok (.aload_n 0, 1) := by decide +kernel
theorem dX6_isOf_16 : decode cX6_isOf 16 = .ok (.getfield 23, 3) := by decide +kernel
theorem dX6_isOf_19 : decode cX6_isOf 19 = .ok (.iload_n 2, 1) := by decide +kernel
theorem dX6_isOf_20 : decode cX6_isOf 20 = .ok (.iaload, 1) := by decide +kernel
theorem dX6_isOf_21 : decode cX6_isOf 21 = .ok (.ifCond .eq 22, 3) := by decide +kernel
theorem dX6_isOf_24 : decode cX6_isOf 24 = .ok (.aload_n 0, 1) := by decide +kernel
theorem dX6_isOf_25 : decode cX6_isOf 25 = .ok (.getfield 29, 3) := by decide +kernel
theorem dX6_isOf_28 : decode cX6_isOf 28 = .ok (.iload_n 2, 1) := by decide +kernel
theorem dX6_isOf_29 : decode cX6_isOf 29 = .ok (.iaload, 1) := by decide +kernel
theorem dX6_isOf_30 : decode cX6_isOf 30 = .ok (.aload_n 0, 1) := by decide +kernel
theorem dX6_isOf_31 : decode cX6_isOf 31 = .ok (.getfield 101, 3) := by decide +kernel
theorem dX6_isOf_34 : decode cX6_isOf 34 = .ok (.irem, 1) := by decide +kernel
theorem dX6_isOf_35 : decode cX6_isOf 35 = .ok (.iload_n 1, 1) := by decide +kernel
theorem dX6_isOf_36 : decode cX6_isOf 36 = .ok (.if_icmp .ne 7, 3) := by decide +kernel
theorem dX6_isOf_39 : decode cX6_isOf 39 = .ok (.iconst 1, 1) := by decide +kernel
theorem dX6_isOf_40 : decode cX6_isOf 40 = .ok (.goto 4, 3) := by decide +kernel
theorem dX6_isOf_43 : decode cX6_isOf 43 = .ok (.iconst 0, 1) := by decide +kernel
theorem dX6_isOf_44 : decode cX6_isOf 44 = .ok (.ireturn, 1) := by decide +kernel
theorem dX6_at_0 : decode cX6_at 0 = .ok (.bipush 40, 2) := by decide +kernel
theorem dX6_at_2 : decode cX6_at 2 = .ok (.iload_n 0, 1) := by decide +kernel
theorem dX6_at_3 : decode cX6_at 3 = .ok (.imul, 1) := by decide +kernel
theorem dX6_at_4 : decode cX6_at 4 = .ok (.iload_n 1, 1) := by decide +kernel
theorem dX6_at_5 : decode cX6_at 5 = .ok (.iadd, 1) := by decide +kernel
theorem dX6_at_6 : decode cX6_at 6 = .ok (.ireturn, 1) := by decide +kernel
theorem dX6_of_0 : decode cX6_of 0 = .ok (.iconst 4, 1) := by decide +kernel
theorem dX6_of_1 : decode cX6_of 1 = .ok (.iload_n 0, 1) := by decide +kernel
theorem dX6_of_2 : decode cX6_of 2 = .ok (.iload_n 1, 1) := by decide +kernel
theorem dX6_of_3 : decode cX6_of 3 = .ok (.invokestatic 105, 3) := by decide +kernel
theorem dX6_of_6 : decode cX6_of 6 = .ok (.imul, 1) := by decide +kernel
theorem dX6_of_7 : decode cX6_of 7 = .ok (.iload_n 2, 1) := by decide +kernel
theorem dX6_of_8 : decode cX6_of 8 = .ok (.iadd, 1) := by decide +kernel
theorem dX6_of_9 : decode cX6_of 9 = .ok (.ireturn, 1) := by decide +kernel
theorem dX6_put_0 : decode cX6_put 0 = .ok (.aload_n 0, 1) := by decide +kernel
theorem dX6_put_1 : decode cX6_put 1 = .ok (.getfield 80, 3) := by decide +kernel
theorem dX6_put_4 : decode cX6_put 4 = .ok (.aload_n 0, 1) := by decide +kernel
theorem dX6_put_5 : decode cX6_put 5 = .ok (.getfield 109, 3) := by decide +kernel
theorem dX6_put_8 : decode cX6_put 8 = .ok (.iload_n 1, 1) := by decide +kernel
theorem dX6_put_9 : decode cX6_put 9 = .ok (.iastore, 1) := by decide +kernel
theorem dX6_put_10 : decode cX6_put 10 = .ok (.aload_n 0, 1) := by decide +kernel
theorem dX6_put_11 : decode cX6_put 11 = .ok (.getfield 83, 3) := by decide +kernel
end
section
theorem dX6_put_14 : decode cX6_put 14 = .ok (.aload_n 0, 1) := by decide +kernel
theorem dX6_put_15 : decode cX6_put 15 = .ok (.getfield 109, 3) := by decide +kernel
theorem dX6_put_18 : decode cX6_put 18 = .ok (.iload_n 2, 1) := by decide +kernel
theorem dX6_put_19 : decode cX6_put 19 = .ok (.iastore, 1) := by decide +kernel
theorem dX6_put_20 : decode cX6_put 20 = .ok (.aload_n 0, 1) := by decide +kernel
theorem dX6_put_21 : decode cX6_put 21 = .ok (.getfield 86, 3) := by decide +kernel
theorem dX6_put_24 : decode cX6_put 24 = .ok (.aload_n 0, 1) := by decide +kernel
theorem dX6_put_25 : decode cX6_put 25 = .ok (.getfield 109, 3) := by decide +kernel
theorem dX6_put_28 : decode cX6_put 28 = .ok (.iload_n 3, 1) := by decide +kernel
theorem dX6_put_29 : decode cX6_put 29 = .ok (.iastore, 1) := by decide +kernel
theorem dX6_put_30 : decode cX6_put 30 = .ok (.aload_n 0, 1) := by decide +kernel
theorem dX6_put_31 : decode cX6_put 31 = .ok (.getfield 89, 3) := by decide +kernel
theorem dX6_put_34 : decode cX6_put 34 = .ok (.aload_n 0, 1) := by decide +kernel
theorem dX6_put_35 : decode cX6_put 35 = .ok (.getfield 109, 3) := by decide +kernel
theorem dX6_put_38 : decode cX6_put 38 = .ok (.iload 4, 2) := by decide +kernel
theorem dX6_put_40 : decode cX6_put 40 = .ok (.iastore, 1) := by decide +kernel
theorem dX6_put_41 : decode cX6_put 41 = .ok (.aload_n 0, 1) := by decide +kernel
theorem dX6_put_42 : decode cX6_put 42 = .ok (.getfield 92, 3) := by decide +kernel
theorem dX6_put_45 : decode cX6_put 45 = .ok (.aload_n 0, 1) := by decide +kernel
theorem dX6_put_46 : decode cX6_put 46 = .ok (.getfield 109, 3) := by decide +kernel
theorem dX6_put_49 : decode cX6_put 49 = .ok (.iload 5, 2) := by decide +kernel
theorem dX6_put_51 : decode cX6_put 51 = .ok (.iastore, 1) := by decide +kernel
theorem dX6_put_52 : decode cX6_put 52 = .ok (.aload_n 0, 1) := by decide +kernel
theorem dX6_put_53 : decode cX6_put 53 = .ok (.getfield 95, 3) := by decide +kernel
theorem dX6_put_56 : decode cX6_put 56 = .ok (.aload_n 0, 1) := by decide +kernel
theorem dX6_put_57 : decode cX6_put 57 = .ok (.getfield 109, 3) := by decide +kernel
theorem dX6_put_60 : decode cX6_put 60 = .ok (.aload_n 0, 1) := by decide +kernel
theorem dX6_put_61 : decode cX6_put 61 = .ok (.getfield 17, 3) := by decide +kernel
theorem dX6_put_64 : decode cX6_put 64 = .ok (.aload_n 0, 1) := by decide +kernel
theorem dX6_put_65 : decode cX6_put 65 = .ok (.getfield 26, 3) := by decide +kernel
theorem dX6_put_68 : decode cX6_put 68 = .ok (.iload_n 2, 1) := by decide +kernel
theorem dX6_put_69 : decode cX6_put 69 = .ok (.iaload, 1) := by decide +kernel
theorem dX6_put_70 : decode cX6_put 70 = .ok (.iaload, 1) := by decide +kernel
theorem dX6_put_71 : decode cX6_put 71 = .ok (.iastore, 1) := by decide +kernel
theorem dX6_put_72 : decode cX6_put 72 = .ok (.aload_n 0, 1) := by decide +kernel
theorem dX6_put_73 : decode cX6_put 73 = .ok (.getfield 98, 3) := by decide +kernel
theorem dX6_put_76 : decode cX6_put 76 = .ok (.aload_n 0, 1) := by decide +kernel
theorem dX6_put_77 : decode cX6_put 77 = .ok (.getfield 109, 3) := by decide +kernel
theorem dX6_put_80 : decode cX6_put 80 = .ok (.aload_n 0, 1) := by decide +kernel
theorem dX6_put_81 : decode cX6_put 81 = .ok (.getfield 17, 3) := by decide +kernel
theorem dX6_put_84 : decode cX6_put 84 = .ok (.aload_n 0, 1) := by decide +kernel
theorem dX6_put_85 : decode cX6_put 85 = .ok (.getfield 29, 3) := by decide +kernel
theorem dX6_put_88 : decode cX6_put 88 = .ok (.iload_n 2, 1) := by decide +kernel
theorem dX6_put_89 : decode cX6_put 89 = .ok (.iaload, 1) := by decide +kernel
theorem dX6_put_90 : decode cX6_put 90 = .ok (.iaload, 1) := by decide +kernel
theorem dX6_put_91 : decode cX6_put 91 = .ok (.iastore, 1) := by decide +kernel
theorem dX6_put_92 : decode cX6_put 92 = .ok (.aload_n 0, 1) := by decide +kernel
theorem dX6_put_93 : decode cX6_put 93 = .ok (.dup, 1) := by decide +kernel
theorem dX6_put_94 : decode cX6_put 94 = .ok (.getfield 109, 3) := by decide +kernel
theorem dX6_put_97 : decode cX6_put 97 = .ok (.iconst 1, 1) := by decide +kernel
theorem dX6_put_98 : decode cX6_put 98 = .ok (.iadd, 1) := by decide +kernel
theorem dX6_put_99 : decode cX6_put 99 = .ok (.putfield 109, 3) := by decide +kernel
theorem dX6_put_102 : decode cX6_put 102 = .ok (.return_, 1) := by decide +kernel
theorem dX6_putOthers_0 : decode cX6_putOthers 0 = .ok (.iconst 0, 1) := by decide +kernel
theorem dX6_putOthers_1 : decode cX6_putOthers 1 = .ok (.istore 5, 2) := by decide +kernel
theorem dX6_putOthers_3 : decode cX6_putOthers 3 = .ok (.iload 5, 2) := by decide +kernel
theorem dX6_putOthers_5 : decode cX6_putOthers 5 = .ok (.aload_n 0, 1) := by decide +kernel
theorem dX6_putOthers_6 : decode cX6_putOthers 6 = .ok (.getfield 101, 3) := by decide +kernel
theorem dX6_putOthers_9 : decode cX6_putOthers 9 = .ok (.if_icmp .ge 36, 3) := by decide +kernel
theorem dX6_putOthers_12 : decode cX6_putOthers 12 = .ok (.iload 5, 2) := by decide +kernel
theorem dX6_putOthers_14 : decode cX6_putOthers 14 = .ok (.iload_n 3, 1) := by decide +kernel
theorem dX6_putOthers_15 : decode cX6_putOthers 15 = .ok (.if_icmp .eq 24, 3) := by decide +kernel
theorem dX6_putOthers_18 : decode cX6_putOthers 18 = .ok (.aload_n 0, 1) := by decide +kernel
theorem dX6_putOthers_19 : decode cX6_putOthers 19 = .ok (.iload 5, 2) := by decide +kernel
theorem dX6_putOthers_21 : decode cX6_putOthers 21 = .ok (.iload_n 2, 1) := by decide +kernel
theorem dX6_putOthers_22 : decode cX6_putOthers 22 = .ok (.invokevirtual 112, 3) := by decide +kernel
theorem dX6_putOthers_25 : decode cX6_putOthers 25 = .ok (.ifCond .eq 14, 3) := by decide +kernel
theorem dX6_putOthers_28 : decode cX6_putOthers 28 = .ok (.aload_n 0, 1) := by decide +kernel
theorem dX6_putOthers_29 : decode cX6_putOthers 29 = .ok (.iload_n 1, 1) := by decide +kernel
theorem dX6_putOthers_30 : decode cX6_putOthers 30 = .ok (.iload_n 2, 1) := by decide +kernel
theorem dX6_putOthers_31 : decode cX6_putOthers 31 = .ok (.iload_n 3, 1) := by decide +kernel
theorem dX6_putOthers_32 : decode cX6_putOthers 32 = .ok (.iload 5, 2) := by decide +kernel
theorem dX6_putOthers_34 : decode cX6_putOthers 34 = .ok (.iload 4, 2) := by decide +kernel
theorem dX6_putOthers_36 : decode cX6_putOthers 36 = .ok (.invokevirtual 116, 3) := by decide +kernel
theorem dX6_putOthers_39 : decode cX6_putOthers 39 = .ok (.iinc 5 1, 3) := by decide +kernel
theorem dX6_putOthers_42 : decode cX6_putOthers 42 = .ok (.goto (-39), 3) := by decide +kernel
theorem dX6_putOthers_45 : decode cX6_putOthers 45 = .ok (.return_, 1) := by decide +kernel
theorem dX6_send_0 : decode cX6_send 0 = .ok (.iload_n 1, 1) := by decide +kernel
theorem dX6_send_1 : decode cX6_send 1 = .ok (.iconst 4, 1) := by decide +kernel
theorem dX6_send_2 : decode cX6_send 2 = .ok (.invokestatic 120, 3) := by decide +kernel
theorem dX6_send_5 : decode cX6_send 5 = .ok (.ifCond .eq 51, 3) := by decide +kernel
theorem dX6_send_8 : decode cX6_send 8 = .ok (.iload_n 2, 1) := by decide +kernel
theorem dX6_send_9 : decode cX6_send 9 = .ok (.iconst 4, 1) := by decide +kernel
theorem dX6_send_10 : decode cX6_send 10 = .ok (.invokestatic 120, 3) := by decide +kernel
theorem dX6_send_13 : decode cX6_send 13 = .ok (.ifCond .eq 43, 3) := by decide +kernel
theorem dX6_send_16 : decode cX6_send 16 = .ok (.iload_n 3, 1) := by decide +kernel
theorem dX6_send_17 : decode cX6_send 17 = .ok (.bipush 16, 2) := by decide +kernel
theorem dX6_send_19 : decode cX6_send 19 = .ok (.invokestatic 120, 3) := by decide +kernel
theorem dX6_send_22 : decode cX6_send 22 = .ok (.ifCond .eq 34, 3) := by decide +kernel
theorem dX6_send_25 : decode cX6_send 25 = .ok (.iload 4, 2) := by decide +kernel
theorem dX6_send_27 : decode cX6_send 27 = .ok (.bipush 16, 2) := by decide +kernel
theorem dX6_send_29 : decode cX6_send 29 = .ok (.invokestatic 120, 3) := by decide +kernel
theorem dX6_send_32 : decode cX6_send 32 = .ok (.ifCond .eq 24, 3) := by decide +kernel
theorem dX6_send_35 : decode cX6_send 35 = .ok (.iload 5, 2) := by decide +kernel
theorem dX6_send_37 : decode cX6_send 37 = .ok (.ifCond .lt 19, 3) := by decide +kernel
theorem dX6_send_40 : decode cX6_send 40 = .ok (.iload 5, 2) := by decide +kernel
theorem dX6_send_42 : decode cX6_send 42 = .ok (.ldc 123, 2) := by decide +kernel
theorem dX6_send_44 : decode cX6_send 44 = .ok (.if_icmp .gt 12, 3) := by decide +kernel
theorem dX6_send_47 : decode cX6_send 47 = .ok (.aload_n 0, 1) := by decide +kernel
theorem dX6_send_48 : decode cX6_send 48 = .ok (.getfield 124, 3) := by decide +kernel
theorem dX6_send_51 : decode cX6_send 51 = .ok (.bipush 40, 2) := by decide +kernel
theorem dX6_send_53 : decode cX6_send 53 = .ok (.if_icmp .ne 5, 3) := by decide +kernel
theorem dX6_send_56 : decode cX6_send 56 = .ok (.iconst (-1), 1) := by decide +kernel
theorem dX6_send_57 : decode cX6_send 57 = .ok (.ireturn, 1) := by decide +kernel
theorem dX6_send_58 : decode cX6_send 58 = .ok (.aload_n 0, 1) := by decide +kernel
theorem dX6_send_59 : decode cX6_send 59 = .ok (.getfield 124, 3) := by decide +kernel
theorem dX6_send_62 : decode cX6_send 62 = .ok (.istore 6, 2) := by decide +kernel
theorem dX6_send_64 : decode cX6_send 64 = .ok (.aload_n 0, 1) := by decide +kernel
theorem dX6_send_65 : decode cX6_send 65 = .ok (.dup, 1) := by decide +kernel
theorem dX6_send_66 : decode cX6_send 66 = .ok (.getfield 124, 3) := by decide +kernel
theorem dX6_send_69 : decode cX6_send 69 = .ok (.iconst 1, 1) := by decide +kernel
theorem dX6_send_70 : decode cX6_send 70 = .ok (.iadd, 1) := by decide +kernel
theorem dX6_send_71 : decode cX6_send 71 = .ok (.putfield 124, 3) := by decide +kernel
theorem dX6_send_74 : decode cX6_send 74 = .ok (.aload_n 0, 1) := by decide +kernel
theorem dX6_send_75 : decode cX6_send 75 = .ok (.getfield 20, 3) := by decide +kernel
theorem dX6_send_78 : decode cX6_send 78 = .ok (.iload 6, 2) := by decide +kernel
theorem dX6_send_80 : decode cX6_send 80 = .ok (.iload_n 1, 1) := by decide +kernel
theorem dX6_send_81 : decode cX6_send 81 = .ok (.iastore, 1) := by decide +kernel
theorem dX6_send_82 : decode cX6_send 82 = .ok (.aload_n 0, 1) := by decide +kernel
theorem dX6_send_83 : decode cX6_send 83 = .ok (.getfield 23, 3) := by decide +kernel
theorem dX6_send_86 : decode cX6_send 86 = .ok (.iload 6, 2) := by decide +kernel
theorem dX6_send_88 : decode cX6_send 88 = .ok (.iload_n 2, 1) := by decide +kernel
theorem dX6_send_89 : decode cX6_send 89 = .ok (.iastore, 1) := by decide +kernel
theorem dX6_send_90 : decode cX6_send 90 = .ok (.aload_n 0, 1) := by decide +kernel
theorem dX6_send_91 : decode cX6_send 91 = .ok (.getfield 26, 3) := by decide +kernel
theorem dX6_send_94 : decode cX6_send 94 = .ok (.iload 6, 2) := by decide +kernel
theorem dX6_send_96 : decode cX6_send 96 = .ok (.iload_n 3, 1) := by decide +kernel
theorem dX6_send_97 : decode cX6_send 97 = .ok (.iastore, 1) := by decide +kernel
theorem dX6_send_98 : decode cX6_send 98 = .ok (.aload_n 0, 1) := by decide +kernel
theorem dX6_send_99 : decode cX6_send 99 = .ok (.getfield 29, 3) := by decide +kernel
theorem dX6_send_102 : decode cX6_send 102 = .ok (.iload 6, 2) := by decide +kernel
theorem dX6_send_104 : decode cX6_send 104 = .ok (.iload 4, 2) := by decide +kernel
theorem dX6_send_106 : decode cX6_send 106 = .ok (.iastore, 1) := by decide +kernel
theorem dX6_send_107 : decode cX6_send 107 = .ok (.aload_n 0, 1) := by decide +kernel
theorem dX6_send_108 : decode cX6_send 108 = .ok (.getfield 32, 3) := by decide +kernel
theorem dX6_send_111 : decode cX6_send 111 = .ok (.iload 6, 2) := by decide +kernel
theorem dX6_send_113 : decode cX6_send 113 = .ok (.iload 5, 2) := by decide +kernel
theorem dX6_send_115 : decode cX6_send 115 = .ok (.iastore, 1) := by decide +kernel
theorem dX6_send_116 : decode cX6_send 116 = .ok (.aload_n 0, 1) := by decide +kernel
theorem dX6_send_117 : decode cX6_send 117 = .ok (.getfield 35, 3) := by decide +kernel
theorem dX6_send_120 : decode cX6_send 120 = .ok (.iload 6, 2) := by decide +kernel
theorem dX6_send_122 : decode cX6_send 122 = .ok (.aload_n 0, 1) := by decide +kernel
theorem dX6_send_123 : decode cX6_send 123 = .ok (.getfield 44, 3) := by decide +kernel
theorem dX6_send_126 : decode cX6_send 126 = .ok (.iload_n 1, 1) := by decide +kernel
theorem dX6_send_127 : decode cX6_send 127 = .ok (.iaload, 1) := by decide +kernel
theorem dX6_send_128 : decode cX6_send 128 = .ok (.iastore, 1) := by decide +kernel
theorem dX6_send_129 : decode cX6_send 129 = .ok (.aload_n 0, 1) := by decide +kernel
theorem dX6_send_130 : decode cX6_send 130 = .ok (.iconst 0, 1) := by decide +kernel
theorem dX6_send_131 : decode cX6_send 131 = .ok (.iload 6, 2) := by decide +kernel
theorem dX6_send_133 : decode cX6_send 133 = .ok (.iconst (-1), 1) := by decide +kernel
theorem dX6_send_134 : decode cX6_send 134 = .ok (.iconst (-1), 1) := by decide +kernel
theorem dX6_send_135 : decode cX6_send 135 = .ok (.invokevirtual 127, 3) := by decide +kernel
theorem dX6_send_138 : decode cX6_send 138 = .ok (.iload 6, 2) := by decide +kernel
theorem dX6_send_140 : decode cX6_send 140 = .ok (.ireturn, 1) := by decide +kernel
theorem dX6_comesStart_0 : decode cX6_comesStart 0 = .ok (.aload_n 0, 1) := by decide +kernel
theorem dX6_comesStart_1 : decode cX6_comesStart 1 = .ok (.getfield 47, 3) := by decide +kernel
theorem dX6_comesStart_4 : decode cX6_comesStart 4 = .ok (.iload_n 1, 1) := by decide +kernel
theorem dX6_comesStart_5 : decode cX6_comesStart 5 = .ok (.iload_n 2, 1) := by decide +kernel
theorem dX6_comesStart_6 : decode cX6_comesStart 6 = .ok (.invokestatic 105, 3) := by decide +kernel
theorem dX6_comesStart_9 : decode cX6_comesStart 9 = .ok (.baload, 1) := by decide +kernel
theorem dX6_comesStart_10 : decode cX6_comesStart 10 = .ok (.ifCond .eq 4, 3) := by decide +kernel
theorem dX6_comesStart_13 : decode cX6_comesStart 13 = .ok (.return_, 1) := by decide +kernel
theorem dX6_comesStart_14 : decode cX6_comesStart 14 = .ok (.aload_n 0, 1) := by decide +kernel
theorem dX6_comesStart_15 : decode cX6_comesStart 15 = .ok (.getfield 47, 3) := by decide +kernel
theorem dX6_comesStart_18 : decode cX6_comesStart 18 = .ok (.iload_n 1, 1) := by decide +kernel
theorem dX6_comesStart_19 : decode cX6_comesStart 19 = .ok (.iload_n 2, 1) := by decide +kernel
theorem dX6_comesStart_20 : decode cX6_comesStart 20 = .ok (.invokestatic 105, 3) := by decide +kernel
theorem dX6_comesStart_23 : decode cX6_comesStart 23 = .ok (.iconst 1, 1) := by decide +kernel
theorem dX6_comesStart_24 : decode cX6_comesStart 24 = .ok (.bastore, 1) := by decide +kernel
theorem dX6_comesStart_25 : decode cX6_comesStart 25 = .ok (.aload_n 0, 1) := by decide +kernel
theorem dX6_comesStart_26 : decode cX6_comesStart 26 = .ok (.getfield 7, 3) := by decide +kernel
theorem dX6_comesStart_29 : decode cX6_comesStart 29 = .ok (.iload_n 1, 1) := by decide +kernel
theorem dX6_comesStart_30 : decode cX6_comesStart 30 = .ok (.aload_n 0, 1) := by decide +kernel
theorem dX6_comesStart_31 : decode cX6_comesStart 31 = .ok (.getfield 7, 3) := by decide +kernel
theorem dX6_comesStart_34 : decode cX6_comesStart 34 = .ok (.iload_n 1, 1) := by decide +kernel
theorem dX6_comesStart_35 : decode cX6_comesStart 35 = .ok (.iaload, 1) := by decide +kernel
theorem dX6_comesStart_36 : decode cX6_comesStart 36 = .ok (.aload_n 0, 1) := by decide +kernel
theorem dX6_comesStart_37 : decode cX6_comesStart 37 = .ok (.getfield 35, 3) := by decide +kernel
theorem dX6_comesStart_40 : decode cX6_comesStart 40 = .ok (.iload_n 2, 1) := by decide +kernel
theorem dX6_comesStart_41 : decode cX6_comesStart 41 = .ok (.iaload, 1) := by decide +kernel
theorem dX6_comesStart_42 : decode cX6_comesStart 42 = .ok (.if_icmp .le 12, 3) := by decide +kernel
theorem dX6_comesStart_45 : decode cX6_comesStart 45 = .ok (.aload_n 0, 1) := by decide +kernel
theorem dX6_comesStart_46 : decode cX6_comesStart 46 = .ok (.getfield 7, 3) := by decide +kernel
theorem dX6_comesStart_49 : decode cX6_comesStart 49 = .ok (.iload_n 1, 1) := by decide +kernel
theorem dX6_comesStart_50 : decode cX6_comesStart 50 = .ok (.iaload, 1) := by decide +kernel
theorem dX6_comesStart_51 : decode cX6_comesStart 51 = .ok (.goto 9, 3) := by decide +kernel
theorem dX6_comesStart_54 : decode cX6_comesStart 54 = .ok (.aload_n 0, 1) := by decide +kernel
theorem dX6_comesStart_55 : decode cX6_comesStart 55 = .ok (.getfield 35, 3) := by decide +kernel
theorem dX6_comesStart_58 : decode cX6_comesStart 58 = .ok (.iload_n 2, 1) := by decide +kernel
theorem dX6_comesStart_59 : decode cX6_comesStart 59 = .ok (.iaload, 1) := by decide +kernel
theorem dX6_comesStart_60 : decode cX6_comesStart 60 = .ok (.iconst 1, 1) := by decide +kernel
theorem dX6_comesStart_61 : decode cX6_comesStart 61 = .ok (.iadd, 1) := by decide +kernel
theorem dX6_comesStart_62 : decode cX6_comesStart 62 = .ok (.iastore, 1) := by decide +kernel
theorem dX6_comesStart_63 : decode cX6_comesStart 63 = .ok (.aload_n 0, 1) := by decide +kernel
theorem dX6_comesStart_64 : decode cX6_comesStart 64 = .ok (.getfield 62, 3) := by decide +kernel
theorem dX6_comesStart_67 : decode cX6_comesStart 67 = .ok (.iload_n 1, 1) := by decide +kernel
theorem dX6_comesStart_68 : decode cX6_comesStart 68 = .ok (.iload_n 2, 1) := by decide +kernel
theorem dX6_comesStart_69 : decode cX6_comesStart 69 = .ok (.iload_n 1, 1) := by decide +kernel
theorem dX6_comesStart_70 : decode cX6_comesStart 70 = .ok (.invokestatic 131, 3) := by decide +kernel
theorem dX6_comesStart_73 : decode cX6_comesStart 73 = .ok (.aload_n 0, 1) := by decide +kernel
theorem dX6_comesStart_74 : decode cX6_comesStart 74 = .ok (.getfield 7, 3) := by decide +kernel
theorem dX6_comesStart_77 : decode cX6_comesStart 77 = .ok (.iload_n 1, 1) := by decide +kernel
theorem dX6_comesStart_78 : decode cX6_comesStart 78 = .ok (.iaload, 1) := by decide +kernel
theorem dX6_comesStart_79 : decode cX6_comesStart 79 = .ok (.iastore, 1) := by decide +kernel
theorem dX6_comesStart_80 : decode cX6_comesStart 80 = .ok (.aload_n 0, 1) := by decide +kernel
theorem dX6_comesStart_81 : decode cX6_comesStart 81 = .ok (.iconst 1, 1) := by decide +kernel
theorem dX6_comesStart_82 : decode cX6_comesStart 82 = .ok (.iload_n 2, 1) := by decide +kernel
theorem dX6_comesStart_83 : decode cX6_comesStart 83 = .ok (.iload_n 1, 1) := by decide +kernel
theorem dX6_comesStart_84 : decode cX6_comesStart 84 = .ok (.aload_n 0, 1) := by decide +kernel
theorem dX6_comesStart_85 : decode cX6_comesStart 85 = .ok (.getfield 7, 3) := by decide +kernel
theorem dX6_comesStart_88 : decode cX6_comesStart 88 = .ok (.iload_n 1, 1) := by decide +kernel
theorem dX6_comesStart_89 : decode cX6_comesStart 89 = .ok (.iaload, 1) := by decide +kernel
theorem dX6_comesStart_90 : decode cX6_comesStart 90 = .ok (.invokevirtual 127, 3) := by decide +kernel
theorem dX6_comesStart_93 : decode cX6_comesStart 93 = .ok (.return_, 1) := by decide +kernel
theorem dX6_comes_0 : decode cX6_comes 0 = .ok (.aload_n 0, 1) := by decide +kernel
theorem dX6_comes_1 : decode cX6_comes 1 = .ok (.getfield 89, 3) := by decide +kernel
theorem dX6_comes_4 : decode cX6_comes 4 = .ok (.iload_n 1, 1) := by decide +kernel
theorem dX6_comes_5 : decode cX6_comes 5 = .ok (.iaload, 1) := by decide +kernel
theorem dX6_comes_6 : decode cX6_comes 6 = .ok (.istore_n 2, 1) := by decide +kernel
theorem dX6_comes_7 : decode cX6_comes 7 = .ok (.aload_n 0, 1) := by decide +kernel
theorem dX6_comes_8 : decode cX6_comes 8 = .ok (.getfield 83, 3) := by decide +kernel
theorem dX6_comes_11 : decode cX6_comes 11 = .ok (.iload_n 1, 1) := by decide +kernel
theorem dX6_comes_12 : decode cX6_comes 12 = .ok (.iaload, 1) := by decide +kernel
theorem dX6_comes_13 : decode cX6_comes 13 = .ok (.istore_n 3, 1) := by decide +kernel
theorem dX6_comes_14 : decode cX6_comes 14 = .ok (.aload_n 0, 1) := by decide +kernel
theorem dX6_comes_15 : decode cX6_comes 15 = .ok (.getfield 80, 3) := by decide +kernel
theorem dX6_comes_18 : decode cX6_comes 18 = .ok (.iload_n 1, 1) := by decide +kernel
theorem dX6_comes_19 : decode cX6_comes 19 = .ok (.iaload, 1) := by decide +kernel
theorem dX6_comes_20 : decode cX6_comes 20 = .ok (.ifCond .ne 12, 3) := by decide +kernel
theorem dX6_comes_23 : decode cX6_comes 23 = .ok (.aload_n 0, 1) := by decide +kernel
theorem dX6_comes_24 : decode cX6_comes 24 = .ok (.iload_n 2, 1) := by decide +kernel
theorem dX6_comes_25 : decode cX6_comes 25 = .ok (.iload_n 3, 1) := by decide +kernel
theorem dX6_comes_26 : decode cX6_comes 26 = .ok (.invokevirtual 135, 3) := by decide +kernel
theorem dX6_comes_29 : decode cX6_comes 29 = .ok (.goto 118, 3) := by decide +kernel
theorem dX6_comes_32 : decode cX6_comes 32 = .ok (.aload_n 0, 1) := by decide +kernel
theorem dX6_comes_33 : decode cX6_comes 33 = .ok (.getfield 80, 3) := by decide +kernel
theorem dX6_comes_36 : decode cX6_comes 36 = .ok (.iload_n 1, 1) := by decide +kernel
theorem dX6_comes_37 : decode cX6_comes 37 = .ok (.iaload, 1) := by decide +kernel
theorem dX6_comes_38 : decode cX6_comes 38 = .ok (.iconst 1, 1) := by decide +kernel
theorem dX6_comes_39 : decode cX6_comes 39 = .ok (.if_icmp .ne 28, 3) := by decide +kernel
theorem dX6_comes_42 : decode cX6_comes 42 = .ok (.aload_n 0, 1) := by decide +kernel
theorem dX6_comes_43 : decode cX6_comes 43 = .ok (.getfield 62, 3) := by decide +kernel
theorem dX6_comes_46 : decode cX6_comes 46 = .ok (.iload_n 2, 1) := by decide +kernel
theorem dX6_comes_47 : decode cX6_comes 47 = .ok (.iload_n 3, 1) := by decide +kernel
theorem dX6_comes_48 : decode cX6_comes 48 = .ok (.aload_n 0, 1) := by decide +kernel
theorem dX6_comes_49 : decode cX6_comes 49 = .ok (.getfield 86, 3) := by decide +kernel
theorem dX6_comes_52 : decode cX6_comes 52 = .ok (.iload_n 1, 1) := by decide +kernel
theorem dX6_comes_53 : decode cX6_comes 53 = .ok (.iaload, 1) := by decide +kernel
theorem dX6_comes_54 : decode cX6_comes 54 = .ok (.invokestatic 131, 3) := by decide +kernel
theorem dX6_comes_57 : decode cX6_comes 57 = .ok (.aload_n 0, 1) := by decide +kernel
theorem dX6_comes_58 : decode cX6_comes 58 = .ok (.getfield 92, 3) := by decide +kernel
theorem dX6_comes_61 : decode cX6_comes 61 = .ok (.iload_n 1, 1) := by decide +kernel
theorem dX6_comes_62 : decode cX6_comes 62 = .ok (.iaload, 1) := by decide +kernel
theorem dX6_comes_63 : decode cX6_comes 63 = .ok (.iastore, 1) := by decide +kernel
theorem dX6_comes_64 : decode cX6_comes 64 = .ok (.goto 83, 3) := by decide +kernel
theorem dX6_comes_67 : decode cX6_comes 67 = .ok (.aload_n 0, 1) := by decide +kernel
theorem dX6_comes_68 : decode cX6_comes 68 = .ok (.getfield 65, 3) := by decide +kernel
theorem dX6_comes_71 : decode cX6_comes 71 = .ok (.iload_n 2, 1) := by decide +kernel
theorem dX6_comes_72 : decode cX6_comes 72 = .ok (.iload_n 3, 1) := by decide +kernel
theorem dX6_comes_73 : decode cX6_comes 73 = .ok (.aload_n 0, 1) := by decide +kernel
theorem dX6_comes_74 : decode cX6_comes 74 = .ok (.getfield 86, 3) := by decide +kernel
theorem dX6_comes_77 : decode cX6_comes 77 = .ok (.iload_n 1, 1) := by decide +kernel
theorem dX6_comes_78 : decode cX6_comes 78 = .ok (.iaload, 1) := by decide +kernel
theorem dX6_comes_79 : decode cX6_comes 79 = .ok (.invokestatic 131, 3) := by decide +kernel
theorem dX6_comes_82 : decode cX6_comes 82 = .ok (.baload, 1) := by decide +kernel
theorem dX6_comes_83 : decode cX6_comes 83 = .ok (.ifCond .ne 64, 3) := by decide +kernel
theorem dX6_comes_86 : decode cX6_comes 86 = .ok (.aload_n 0, 1) := by decide +kernel
theorem dX6_comes_87 : decode cX6_comes 87 = .ok (.getfield 65, 3) := by decide +kernel
theorem dX6_comes_90 : decode cX6_comes 90 = .ok (.iload_n 2, 1) := by decide +kernel
theorem dX6_comes_91 : decode cX6_comes 91 = .ok (.iload_n 3, 1) := by decide +kernel
theorem dX6_comes_92 : decode cX6_comes 92 = .ok (.aload_n 0, 1) := by decide +kernel
theorem dX6_comes_93 : decode cX6_comes 93 = .ok (.getfield 86, 3) := by decide +kernel
theorem dX6_comes_96 : decode cX6_comes 96 = .ok (.iload_n 1, 1) := by decide +kernel
theorem dX6_comes_97 : decode cX6_comes 97 = .ok (.iaload, 1) := by decide +kernel
theorem dX6_comes_98 : decode cX6_comes 98 = .ok (.invokestatic 131, 3) := by decide +kernel
theorem dX6_comes_101 : decode cX6_comes 101 = .ok (.iconst 1, 1) := by decide +kernel
theorem dX6_comes_102 : decode cX6_comes 102 = .ok (.bastore, 1) := by decide +kernel
theorem dX6_comes_103 : decode cX6_comes 103 = .ok (.aload_n 0, 1) := by decide +kernel
theorem dX6_comes_104 : decode cX6_comes 104 = .ok (.getfield 68, 3) := by decide +kernel
theorem dX6_comes_107 : decode cX6_comes 107 = .ok (.iload_n 2, 1) := by decide +kernel
theorem dX6_comes_108 : decode cX6_comes 108 = .ok (.iload_n 3, 1) := by decide +kernel
theorem dX6_comes_109 : decode cX6_comes 109 = .ok (.aload_n 0, 1) := by decide +kernel
theorem dX6_comes_110 : decode cX6_comes 110 = .ok (.getfield 86, 3) := by decide +kernel
theorem dX6_comes_113 : decode cX6_comes 113 = .ok (.iload_n 1, 1) := by decide +kernel
theorem dX6_comes_114 : decode cX6_comes 114 = .ok (.iaload, 1) := by decide +kernel
theorem dX6_comes_115 : decode cX6_comes 115 = .ok (.invokestatic 131, 3) := by decide +kernel
theorem dX6_comes_118 : decode cX6_comes 118 = .ok (.aload_n 0, 1) := by decide +kernel
theorem dX6_comes_119 : decode cX6_comes 119 = .ok (.getfield 95, 3) := by decide +kernel
theorem dX6_comes_122 : decode cX6_comes 122 = .ok (.iload_n 1, 1) := by decide +kernel
theorem dX6_comes_123 : decode cX6_comes 123 = .ok (.iaload, 1) := by decide +kernel
theorem dX6_comes_124 : decode cX6_comes 124 = .ok (.iastore, 1) := by decide +kernel
theorem dX6_comes_125 : decode cX6_comes 125 = .ok (.aload_n 0, 1) := by decide +kernel
theorem dX6_comes_126 : decode cX6_comes 126 = .ok (.getfield 71, 3) := by decide +kernel
theorem dX6_comes_129 : decode cX6_comes 129 = .ok (.iload_n 2, 1) := by decide +kernel
theorem dX6_comes_130 : decode cX6_comes 130 = .ok (.iload_n 3, 1) := by decide +kernel
theorem dX6_comes_131 : decode cX6_comes 131 = .ok (.aload_n 0, 1) := by decide +kernel
theorem dX6_comes_132 : decode cX6_comes 132 = .ok (.getfield 86, 3) := by decide +kernel
theorem dX6_comes_135 : decode cX6_comes 135 = .ok (.iload_n 1, 1) := by decide +kernel
theorem dX6_comes_136 : decode cX6_comes 136 = .ok (.iaload, 1) := by decide +kernel
theorem dX6_comes_137 : decode cX6_comes 137 = .ok (.invokestatic 131, 3) := by decide +kernel
theorem dX6_comes_140 : decode cX6_comes 140 = .ok (.aload_n 0, 1) := by decide +kernel
theorem dX6_comes_141 : decode cX6_comes 141 = .ok (.getfield 98, 3) := by decide +kernel
theorem dX6_comes_144 : decode cX6_comes 144 = .ok (.iload_n 1, 1) := by decide +kernel
theorem dX6_comes_145 : decode cX6_comes 145 = .ok (.iaload, 1) := by decide +kernel
theorem dX6_comes_146 : decode cX6_comes 146 = .ok (.iastore, 1) := by decide +kernel
theorem dX6_comes_147 : decode cX6_comes 147 = .ok (.aload_n 0, 1) := by decide +kernel
theorem dX6_comes_148 : decode cX6_comes 148 = .ok (.dup, 1) := by decide +kernel
theorem dX6_comes_149 : decode cX6_comes 149 = .ok (.getfield 139, 3) := by decide +kernel
theorem dX6_comes_152 : decode cX6_comes 152 = .ok (.iconst 1, 1) := by decide +kernel
theorem dX6_comes_153 : decode cX6_comes 153 = .ok (.iadd, 1) := by decide +kernel
theorem dX6_comes_154 : decode cX6_comes 154 = .ok (.putfield 139, 3) := by decide +kernel
theorem dX6_comes_157 : decode cX6_comes 157 = .ok (.iconst 1, 1) := by decide +kernel
theorem dX6_comes_158 : decode cX6_comes 158 = .ok (.istore 4, 2) := by decide +kernel
theorem dX6_comes_160 : decode cX6_comes 160 = .ok (.iload 4, 2) := by decide +kernel
theorem dX6_comes_162 : decode cX6_comes 162 = .ok (.ifCond .eq 37, 3) := by decide +kernel
theorem dX6_comes_165 : decode cX6_comes 165 = .ok (.aload_n 0, 1) := by decide +kernel
theorem dX6_comes_166 : decode cX6_comes 166 = .ok (.iload_n 2, 1) := by decide +kernel
theorem dX6_comes_167 : decode cX6_comes 167 = .ok (.invokevirtual 142, 3) := by decide +kernel
theorem dX6_comes_170 : decode cX6_comes 170 = .ok (.ifCond .ne 19, 3) := by decide +kernel
theorem dX6_comes_173 : decode cX6_comes 173 = .ok (.aload_n 0, 1) := by decide +kernel
theorem dX6_comes_174 : decode cX6_comes 174 = .ok (.iload_n 2, 1) := by decide +kernel
theorem dX6_comes_175 : decode cX6_comes 175 = .ok (.invokevirtual 146, 3) := by decide +kernel
theorem dX6_comes_178 : decode cX6_comes 178 = .ok (.ifCond .ne 11, 3) := by decide +kernel
theorem dX6_comes_181 : decode cX6_comes 181 = .ok (.aload_n 0, 1) := by decide +kernel
theorem dX6_comes_182 : decode cX6_comes 182 = .ok (.iload_n 2, 1) := by decide +kernel
theorem dX6_comes_183 : decode cX6_comes 183 = .ok (.invokevirtual 149, 3) := by decide +kernel
theorem dX6_comes_186 : decode cX6_comes 186 = .ok (.ifCond .eq 7, 3) := by decide +kernel
theorem dX6_comes_189 : decode cX6_comes 189 = .ok (.iconst 1, 1) := by decide +kernel
theorem dX6_comes_190 : decode cX6_comes 190 = .ok (.goto 4, 3) := by decide +kernel
theorem dX6_comes_193 : decode cX6_comes 193 = .ok (.iconst 0, 1) := by decide +kernel
theorem dX6_comes_194 : decode cX6_comes 194 = .ok (.istore 4, 2) := by decide +kernel
theorem dX6_comes_196 : decode cX6_comes 196 = .ok (.goto (-36), 3) := by decide +kernel
theorem dX6_comes_199 : decode cX6_comes 199 = .ok (.return_, 1) := by decide +kernel
theorem dX6_makesFinal_0 : decode cX6_makesFinal 0 = .ok (.iconst 0, 1) := by decide +kernel
theorem dX6_makesFinal_1 : decode cX6_makesFinal 1 = .ok (.istore_n 2, 1) := by decide +kernel
theorem dX6_makesFinal_2 : decode cX6_makesFinal 2 = .ok (.iload_n 2, 1) := by decide +kernel
theorem dX6_makesFinal_3 : decode cX6_makesFinal 3 = .ok (.aload_n 0, 1) := by decide +kernel
theorem dX6_makesFinal_4 : decode cX6_makesFinal 4 = .ok (.getfield 124, 3) := by decide +kernel
theorem dX6_makesFinal_7 : decode cX6_makesFinal 7 = .ok (.if_icmp .ge 156, 3) := by decide +kernel
theorem dX6_makesFinal_10 : decode cX6_makesFinal 10 = .ok (.aload_n 0, 1) := by decide +kernel
theorem dX6_makesFinal_11 : decode cX6_makesFinal 11 = .ok (.getfield 47, 3) := by decide +kernel
theorem dX6_makesFinal_14 : decode cX6_makesFinal 14 = .ok (.iload_n 1, 1) := by decide +kernel
theorem dX6_makesFinal_15 : decode cX6_makesFinal 15 = .ok (.iload_n 2, 1) := by decide +kernel
theorem dX6_makesFinal_16 : decode cX6_makesFinal 16 = .ok (.invokestatic 105, 3) := by decide +kernel
theorem dX6_makesFinal_19 : decode cX6_makesFinal 19 = .ok (.baload, 1) := by decide +kernel
theorem dX6_makesFinal_20 : decode cX6_makesFinal 20 = .ok (.ifCond .eq 137, 3) := by decide +kernel
theorem dX6_makesFinal_23 : decode cX6_makesFinal 23 = .ok (.aload_n 0, 1) := by decide +kernel
theorem dX6_makesFinal_24 : decode cX6_makesFinal 24 = .ok (.getfield 50, 3) := by decide +kernel
theorem dX6_makesFinal_27 : decode cX6_makesFinal 27 = .ok (.iload_n 1, 1) := by decide +kernel
theorem dX6_makesFinal_28 : decode cX6_makesFinal 28 = .ok (.iload_n 2, 1) := by decide +kernel
theorem dX6_makesFinal_29 : decode cX6_makesFinal 29 = .ok (.invokestatic 105, 3) := by decide +kernel
theorem dX6_makesFinal_32 : decode cX6_makesFinal 32 = .ok (.iaload, 1) := by decide +kernel
theorem dX6_makesFinal_33 : decode cX6_makesFinal 33 = .ok (.ifCond .ne 124, 3) := by decide +kernel
theorem dX6_makesFinal_36 : decode cX6_makesFinal 36 = .ok (.iconst 0, 1) := by decide +kernel
theorem dX6_makesFinal_37 : decode cX6_makesFinal 37 = .ok (.istore_n 3, 1) := by decide +kernel
theorem dX6_makesFinal_38 : decode cX6_makesFinal 38 = .ok (.iconst 1, 1) := by decide +kernel
theorem dX6_makesFinal_39 : decode cX6_makesFinal 39 = .ok (.istore 4, 2) := by decide +kernel
theorem dX6_makesFinal_41 : decode cX6_makesFinal 41 = .ok (.iconst 0, 1) := by decide +kernel
theorem dX6_makesFinal_42 : decode cX6_makesFinal 42 = .ok (.istore 5, 2) := by decide +kernel
theorem dX6_makesFinal_44 : decode cX6_makesFinal 44 = .ok (.iload 5, 2) := by decide +kernel
theorem dX6_makesFinal_46 : decode cX6_makesFinal 46 = .ok (.aload_n 0, 1) := by decide +kernel
theorem dX6_makesFinal_47 : decode cX6_makesFinal 47 = .ok (.getfield 101, 3) := by decide +kernel
theorem dX6_makesFinal_50 : decode cX6_makesFinal 50 = .ok (.if_icmp .ge 63, 3) := by decide +kernel
theorem dX6_makesFinal_53 : decode cX6_makesFinal 53 = .ok (.aload_n 0, 1) := by decide +kernel
theorem dX6_makesFinal_54 : decode cX6_makesFinal 54 = .ok (.iload 5, 2) := by decide +kernel
theorem dX6_makesFinal_56 : decode cX6_makesFinal 56 = .ok (.iload_n 2, 1) := by decide +kernel
theorem dX6_makesFinal_57 : decode cX6_makesFinal 57 = .ok (.invokevirtual 112, 3) := by decide +kernel
theorem dX6_makesFinal_60 : decode cX6_makesFinal 60 = .ok (.ifCond .eq 47, 3) := by decide +kernel
theorem dX6_makesFinal_63 : decode cX6_makesFinal 63 = .ok (.aload_n 0, 1) := by decide +kernel
theorem dX6_makesFinal_64 : decode cX6_makesFinal 64 = .ok (.getfield 62, 3) := by decide +kernel
theorem dX6_makesFinal_67 : decode cX6_makesFinal 67 = .ok (.iload_n 1, 1) := by decide +kernel
theorem dX6_makesFinal_68 : decode cX6_makesFinal 68 = .ok (.iload_n 2, 1) := by decide +kernel
theorem dX6_makesFinal_69 : decode cX6_makesFinal 69 = .ok (.iload 5, 2) := by decide +kernel
theorem dX6_makesFinal_71 : decode cX6_makesFinal 71 = .ok (.invokestatic 131, 3) := by decide +kernel
theorem dX6_makesFinal_74 : decode cX6_makesFinal 74 = .ok (.iaload, 1) := by decide +kernel
theorem dX6_makesFinal_75 : decode cX6_makesFinal 75 = .ok (.istore 6, 2) := by decide +kernel
theorem dX6_makesFinal_77 : decode cX6_makesFinal 77 = .ok (.iload 4, 2) := by decide +kernel
theorem dX6_makesFinal_79 : decode cX6_makesFinal 79 = .ok (.ifCond .eq 12, 3) := by decide +kernel
theorem dX6_makesFinal_82 : decode cX6_makesFinal 82 = .ok (.iload 6, 2) := by decide +kernel
theorem dX6_makesFinal_84 : decode cX6_makesFinal 84 = .ok (.ifCond .le 7, 3) := by decide +kernel
theorem dX6_makesFinal_87 : decode cX6_makesFinal 87 = .ok (.iconst 1, 1) := by decide +kernel
theorem dX6_makesFinal_88 : decode cX6_makesFinal 88 = .ok (.goto 4, 3) := by decide +kernel
theorem dX6_makesFinal_91 : decode cX6_makesFinal 91 = .ok (.iconst 0, 1) := by decide +kernel
theorem dX6_makesFinal_92 : decode cX6_makesFinal 92 = .ok (.istore 4, 2) := by decide +kernel
theorem dX6_makesFinal_94 : decode cX6_makesFinal 94 = .ok (.iload 6, 2) := by decide +kernel
theorem dX6_makesFinal_96 : decode cX6_makesFinal 96 = .ok (.iload_n 3, 1) := by decide +kernel
theorem dX6_makesFinal_97 : decode cX6_makesFinal 97 = .ok (.if_icmp .le 8, 3) := by decide +kernel
theorem dX6_makesFinal_100 : decode cX6_makesFinal 100 = .ok (.iload 6, 2) := by decide +kernel
theorem dX6_makesFinal_102 : decode cX6_makesFinal 102 = .ok (.goto 4, 3) := by decide +kernel
theorem dX6_makesFinal_105 : decode cX6_makesFinal 105 = .ok (.iload_n 3, 1) := by decide +kernel
theorem dX6_makesFinal_106 : decode cX6_makesFinal 106 = .ok (.istore_n 3, 1) := by decide +kernel
theorem dX6_makesFinal_107 : decode cX6_makesFinal 107 = .ok (.iinc 5 1, 3) := by decide +kernel
theorem dX6_makesFinal_110 : decode cX6_makesFinal 110 = .ok (.goto (-66), 3) := by decide +kernel
theorem dX6_makesFinal_113 : decode cX6_makesFinal 113 = .ok (.iload 4, 2) := by decide +kernel
theorem dX6_makesFinal_115 : decode cX6_makesFinal 115 = .ok (.ifCond .eq 42, 3) := by decide +kernel
theorem dX6_makesFinal_118 : decode cX6_makesFinal 118 = .ok (.aload_n 0, 1) := by decide +kernel
theorem dX6_makesFinal_119 : decode cX6_makesFinal 119 = .ok (.getfield 50, 3) := by decide +kernel
theorem dX6_makesFinal_122 : decode cX6_makesFinal 122 = .ok (.iload_n 1, 1) := by decide +kernel
theorem dX6_makesFinal_123 : decode cX6_makesFinal 123 = .ok (.iload_n 2, 1) := by decide +kernel
theorem dX6_makesFinal_124 : decode cX6_makesFinal 124 = .ok (.invokestatic 105, 3) := by decide +kernel
theorem dX6_makesFinal_127 : decode cX6_makesFinal 127 = .ok (.iload_n 3, 1) := by decide +kernel
theorem dX6_makesFinal_128 : decode cX6_makesFinal 128 = .ok (.iastore, 1) := by decide +kernel
theorem dX6_makesFinal_129 : decode cX6_makesFinal 129 = .ok (.aload_n 0, 1) := by decide +kernel
theorem dX6_makesFinal_130 : decode cX6_makesFinal 130 = .ok (.getfield 7, 3) := by decide +kernel
theorem dX6_makesFinal_133 : decode cX6_makesFinal 133 = .ok (.iload_n 1, 1) := by decide +kernel
theorem dX6_makesFinal_134 : decode cX6_makesFinal 134 = .ok (.aload_n 0, 1) := by decide +kernel
theorem dX6_makesFinal_135 : decode cX6_makesFinal 135 = .ok (.getfield 7, 3) := by decide +kernel
theorem dX6_makesFinal_138 : decode cX6_makesFinal 138 = .ok (.iload_n 1, 1) := by decide +kernel
theorem dX6_makesFinal_139 : decode cX6_makesFinal 139 = .ok (.iaload, 1) := by decide +kernel
theorem dX6_makesFinal_140 : decode cX6_makesFinal 140 = .ok (.iload_n 3, 1) := by decide +kernel
theorem dX6_makesFinal_141 : decode cX6_makesFinal 141 = .ok (.if_icmp .ge 7, 3) := by decide +kernel
theorem dX6_makesFinal_144 : decode cX6_makesFinal 144 = .ok (.iload_n 3, 1) := by decide +kernel
theorem dX6_makesFinal_145 : decode cX6_makesFinal 145 = .ok (.goto 9, 3) := by decide +kernel
theorem dX6_makesFinal_148 : decode cX6_makesFinal 148 = .ok (.aload_n 0, 1) := by decide +kernel
theorem dX6_makesFinal_149 : decode cX6_makesFinal 149 = .ok (.getfield 7, 3) := by decide +kernel
theorem dX6_makesFinal_152 : decode cX6_makesFinal 152 = .ok (.iload_n 1, 1) := by decide +kernel
theorem dX6_makesFinal_153 : decode cX6_makesFinal 153 = .ok (.iaload, 1) := by decide +kernel
theorem dX6_makesFinal_154 : decode cX6_makesFinal 154 = .ok (.iastore, 1) := by decide +kernel
theorem dX6_makesFinal_155 : decode cX6_makesFinal 155 = .ok (.iconst 1, 1) := by decide +kernel
theorem dX6_makesFinal_156 : decode cX6_makesFinal 156 = .ok (.ireturn, 1) := by decide +kernel
theorem dX6_makesFinal_157 : decode cX6_makesFinal 157 = .ok (.iinc 2 1, 3) := by decide +kernel
theorem dX6_makesFinal_160 : decode cX6_makesFinal 160 = .ok (.goto (-158), 3) := by decide +kernel
theorem dX6_makesFinal_163 : decode cX6_makesFinal 163 = .ok (.iconst 0, 1) := by decide +kernel
theorem dX6_makesFinal_164 : decode cX6_makesFinal 164 = .ok (.ireturn, 1) := by decide +kernel
theorem dX6_takes_0 : decode cX6_takes 0 = .ok (.iconst (-1), 1) := by decide +kernel
theorem dX6_takes_1 : decode cX6_takes 1 = .ok (.istore_n 2, 1) := by decide +kernel
theorem dX6_takes_2 : decode cX6_takes 2 = .ok (.iconst 0, 1) := by decide +kernel
theorem dX6_takes_3 : decode cX6_takes 3 = .ok (.istore_n 3, 1) := by decide +kernel
theorem dX6_takes_4 : decode cX6_takes 4 = .ok (.iconst 0, 1) := by decide +kernel
theorem dX6_takes_5 : decode cX6_takes 5 = .ok (.istore 4, 2) := by decide +kernel
theorem dX6_takes_7 : decode cX6_takes 7 = .ok (.iload 4, 2) := by decide +kernel
theorem dX6_takes_9 : decode cX6_takes 9 = .ok (.aload_n 0, 1) := by decide +kernel
theorem dX6_takes_10 : decode cX6_takes 10 = .ok (.getfield 124, 3) := by decide +kernel
theorem dX6_takes_13 : decode cX6_takes 13 = .ok (.if_icmp .ge 96, 3) := by decide +kernel
theorem dX6_takes_16 : decode cX6_takes 16 = .ok (.aload_n 0, 1) := by decide +kernel
theorem dX6_takes_17 : decode cX6_takes 17 = .ok (.getfield 47, 3) := by decide +kernel
theorem dX6_takes_20 : decode cX6_takes 20 = .ok (.iload_n 1, 1) := by decide +kernel
theorem dX6_takes_21 : decode cX6_takes 21 = .ok (.iload 4, 2) := by decide +kernel
theorem dX6_takes_23 : decode cX6_takes 23 = .ok (.invokestatic 105, 3) := by decide +kernel
theorem dX6_takes_26 : decode cX6_takes 26 = .ok (.baload, 1) := by decide +kernel
theorem dX6_takes_27 : decode cX6_takes 27 = .ok (.ifCond .eq 76, 3) := by decide +kernel
theorem dX6_takes_30 : decode cX6_takes 30 = .ok (.aload_n 0, 1) := by decide +kernel
theorem dX6_takes_31 : decode cX6_takes 31 = .ok (.getfield 53, 3) := by decide +kernel
theorem dX6_takes_34 : decode cX6_takes 34 = .ok (.iload_n 1, 1) := by decide +kernel
theorem dX6_takes_35 : decode cX6_takes 35 = .ok (.iload 4, 2) := by decide +kernel
theorem dX6_takes_37 : decode cX6_takes 37 = .ok (.invokestatic 105, 3) := by decide +kernel
theorem dX6_takes_40 : decode cX6_takes 40 = .ok (.baload, 1) := by decide +kernel
theorem dX6_takes_41 : decode cX6_takes 41 = .ok (.ifCond .ne 62, 3) := by decide +kernel
theorem dX6_takes_44 : decode cX6_takes 44 = .ok (.aload_n 0, 1) := by decide +kernel
theorem dX6_takes_45 : decode cX6_takes 45 = .ok (.getfield 50, 3) := by decide +kernel
end
section
theorem dX6_takes_48 : decode cX6_takes 48 = .ok (.iload_n 1, 1) := by decide +kernel
theorem dX6_takes_49 : decode cX6_takes 49 = .ok (.iload 4, 2) := by decide +kernel
theorem dX6_takes_51 : decode cX6_takes 51 = .ok (.invokestatic 105, 3) := by decide +kernel
theorem dX6_takes_54 : decode cX6_takes 54 = .ok (.iaload, 1) := by decide +kernel
theorem dX6_takes_55 : decode cX6_takes 55 = .ok (.ifCond .le 17, 3) := by decide +kernel
theorem dX6_takes_58 : decode cX6_takes 58 = .ok (.aload_n 0, 1) := by decide +kernel
theorem dX6_takes_59 : decode cX6_takes 59 = .ok (.getfield 50, 3) := by decide +kernel
theorem dX6_takes_62 : decode cX6_takes 62 = .ok (.iload_n 1, 1) := by decide +kernel
theorem dX6_takes_63 : decode cX6_takes 63 = .ok (.iload 4, 2) := by decide +kernel
theorem dX6_takes_65 : decode cX6_takes 65 = .ok (.invokestatic 105, 3) := by decide +kernel
theorem dX6_takes_68 : decode cX6_takes 68 = .ok (.iaload, 1) := by decide +kernel
theorem dX6_takes_69 : decode cX6_takes 69 = .ok (.goto 15, 3) := by decide +kernel
theorem dX6_takes_72 : decode cX6_takes 72 = .ok (.aload_n 0, 1) := by decide +kernel
theorem dX6_takes_73 : decode cX6_takes 73 = .ok (.getfield 62, 3) := by decide +kernel
theorem dX6_takes_76 : decode cX6_takes 76 = .ok (.iload_n 1, 1) := by decide +kernel
theorem dX6_takes_77 : decode cX6_takes 77 = .ok (.iload 4, 2) := by decide +kernel
theorem dX6_takes_79 : decode cX6_takes 79 = .ok (.iload_n 1, 1) := by decide +kernel
theorem dX6_takes_80 : decode cX6_takes 80 = .ok (.invokestatic 131, 3) := by decide +kernel
theorem dX6_takes_83 : decode cX6_takes 83 = .ok (.iaload, 1) := by decide +kernel
theorem dX6_takes_84 : decode cX6_takes 84 = .ok (.istore 5, 2) := by decide +kernel
theorem dX6_takes_86 : decode cX6_takes 86 = .ok (.iload_n 2, 1) := by decide +kernel
theorem dX6_takes_87 : decode cX6_takes 87 = .ok (.iconst (-1), 1) := by decide +kernel
theorem dX6_takes_88 : decode cX6_takes 88 = .ok (.if_icmp .eq 9, 3) := by decide +kernel
theorem dX6_takes_91 : decode cX6_takes 91 = .ok (.iload 5, 2) := by decide +kernel
theorem dX6_takes_93 : decode cX6_takes 93 = .ok (.iload_n 3, 1) := by decide +kernel
theorem dX6_takes_94 : decode cX6_takes 94 = .ok (.if_icmp .ge 9, 3) := by decide +kernel
theorem dX6_takes_97 : decode cX6_takes 97 = .ok (.iload 4, 2) := by decide +kernel
theorem dX6_takes_99 : decode cX6_takes 99 = .ok (.istore_n 2, 1) := by decide +kernel
theorem dX6_takes_100 : decode cX6_takes 100 = .ok (.iload 5, 2) := by decide +kernel
theorem dX6_takes_102 : decode cX6_takes 102 = .ok (.istore_n 3, 1) := by decide +kernel
theorem dX6_takes_103 : decode cX6_takes 103 = .ok (.iinc 4 1, 3) := by decide +kernel
theorem dX6_takes_106 : decode cX6_takes 106 = .ok (.goto (-99), 3) := by decide +kernel
theorem dX6_takes_109 : decode cX6_takes 109 = .ok (.iload_n 2, 1) := by decide +kernel
theorem dX6_takes_110 : decode cX6_takes 110 = .ok (.iconst (-1), 1) := by decide +kernel
theorem dX6_takes_111 : decode cX6_takes 111 = .ok (.if_icmp .eq 16, 3) := by decide +kernel
theorem dX6_takes_114 : decode cX6_takes 114 = .ok (.aload_n 0, 1) := by decide +kernel
theorem dX6_takes_115 : decode cX6_takes 115 = .ok (.getfield 50, 3) := by decide +kernel
theorem dX6_takes_118 : decode cX6_takes 118 = .ok (.iload_n 1, 1) := by decide +kernel
theorem dX6_takes_119 : decode cX6_takes 119 = .ok (.iload_n 2, 1) := by decide +kernel
theorem dX6_takes_120 : decode cX6_takes 120 = .ok (.invokestatic 105, 3) := by decide +kernel
theorem dX6_takes_123 : decode cX6_takes 123 = .ok (.iaload, 1) := by decide +kernel
theorem dX6_takes_124 : decode cX6_takes 124 = .ok (.ifCond .ne 5, 3) := by decide +kernel
theorem dX6_takes_127 : decode cX6_takes 127 = .ok (.iconst 0, 1) := by decide +kernel
theorem dX6_takes_128 : decode cX6_takes 128 = .ok (.ireturn, 1) := by decide +kernel
theorem dX6_takes_129 : decode cX6_takes 129 = .ok (.aload_n 0, 1) := by decide +kernel
theorem dX6_takes_130 : decode cX6_takes 130 = .ok (.getfield 53, 3) := by decide +kernel
theorem dX6_takes_133 : decode cX6_takes 133 = .ok (.iload_n 1, 1) := by decide +kernel
theorem dX6_takes_134 : decode cX6_takes 134 = .ok (.iload_n 2, 1) := by decide +kernel
theorem dX6_takes_135 : decode cX6_takes 135 = .ok (.invokestatic 105, 3) := by decide +kernel
theorem dX6_takes_138 : decode cX6_takes 138 = .ok (.iconst 1, 1) := by decide +kernel
theorem dX6_takes_139 : decode cX6_takes 139 = .ok (.bastore, 1) := by decide +kernel
theorem dX6_takes_140 : decode cX6_takes 140 = .ok (.aload_n 0, 1) := by decide +kernel
theorem dX6_takes_141 : decode cX6_takes 141 = .ok (.getfield 77, 3) := by decide +kernel
theorem dX6_takes_144 : decode cX6_takes 144 = .ok (.iload_n 1, 1) := by decide +kernel
theorem dX6_takes_145 : decode cX6_takes 145 = .ok (.aload_n 0, 1) := by decide +kernel
theorem dX6_takes_146 : decode cX6_takes 146 = .ok (.getfield 74, 3) := by decide +kernel
theorem dX6_takes_149 : decode cX6_takes 149 = .ok (.iload_n 1, 1) := by decide +kernel
theorem dX6_takes_150 : decode cX6_takes 150 = .ok (.iaload, 1) := by decide +kernel
theorem dX6_takes_151 : decode cX6_takes 151 = .ok (.invokestatic 105, 3) := by decide +kernel
theorem dX6_takes_154 : decode cX6_takes 154 = .ok (.iload_n 2, 1) := by decide +kernel
theorem dX6_takes_155 : decode cX6_takes 155 = .ok (.iastore, 1) := by decide +kernel
theorem dX6_takes_156 : decode cX6_takes 156 = .ok (.aload_n 0, 1) := by decide +kernel
theorem dX6_takes_157 : decode cX6_takes 157 = .ok (.getfield 74, 3) := by decide +kernel
theorem dX6_takes_160 : decode cX6_takes 160 = .ok (.iload_n 1, 1) := by decide +kernel
theorem dX6_takes_161 : decode cX6_takes 161 = .ok (.dup2, 1) := by decide +kernel
theorem dX6_takes_162 : decode cX6_takes 162 = .ok (.iaload, 1) := by decide +kernel
theorem dX6_takes_163 : decode cX6_takes 163 = .ok (.iconst 1, 1) := by decide +kernel
theorem dX6_takes_164 : decode cX6_takes 164 = .ok (.iadd, 1) := by decide +kernel
theorem dX6_takes_165 : decode cX6_takes 165 = .ok (.iastore, 1) := by decide +kernel
theorem dX6_takes_166 : decode cX6_takes 166 = .ok (.iconst 1, 1) := by decide +kernel
theorem dX6_takes_167 : decode cX6_takes 167 = .ok (.ireturn, 1) := by decide +kernel
theorem dX6_works_0 : decode cX6_works 0 = .ok (.iconst 0, 1) := by decide +kernel
theorem dX6_works_1 : decode cX6_works 1 = .ok (.istore_n 2, 1) := by decide +kernel
theorem dX6_works_2 : decode cX6_works 2 = .ok (.iload_n 2, 1) := by decide +kernel
theorem dX6_works_3 : decode cX6_works 3 = .ok (.aload_n 0, 1) := by decide +kernel
theorem dX6_works_4 : decode cX6_works 4 = .ok (.getfield 74, 3) := by decide +kernel
theorem dX6_works_7 : decode cX6_works 7 = .ok (.iload_n 1, 1) := by decide +kernel
theorem dX6_works_8 : decode cX6_works 8 = .ok (.iaload, 1) := by decide +kernel
theorem dX6_works_9 : decode cX6_works 9 = .ok (.if_icmp .ge 31, 3) := by decide +kernel
theorem dX6_works_12 : decode cX6_works 12 = .ok (.aload_n 0, 1) := by decide +kernel
theorem dX6_works_13 : decode cX6_works 13 = .ok (.getfield 59, 3) := by decide +kernel
theorem dX6_works_16 : decode cX6_works 16 = .ok (.iload_n 1, 1) := by decide +kernel
theorem dX6_works_17 : decode cX6_works 17 = .ok (.aload_n 0, 1) := by decide +kernel
theorem dX6_works_18 : decode cX6_works 18 = .ok (.getfield 77, 3) := by decide +kernel
theorem dX6_works_21 : decode cX6_works 21 = .ok (.iload_n 1, 1) := by decide +kernel
theorem dX6_works_22 : decode cX6_works 22 = .ok (.iload_n 2, 1) := by decide +kernel
theorem dX6_works_23 : decode cX6_works 23 = .ok (.invokestatic 105, 3) := by decide +kernel
theorem dX6_works_26 : decode cX6_works 26 = .ok (.iaload, 1) := by decide +kernel
theorem dX6_works_27 : decode cX6_works 27 = .ok (.invokestatic 105, 3) := by decide +kernel
theorem dX6_works_30 : decode cX6_works 30 = .ok (.baload, 1) := by decide +kernel
theorem dX6_works_31 : decode cX6_works 31 = .ok (.ifCond .eq 9, 3) := by decide +kernel
theorem dX6_works_34 : decode cX6_works 34 = .ok (.iinc 2 1, 3) := by decide +kernel
theorem dX6_works_37 : decode cX6_works 37 = .ok (.goto (-35), 3) := by decide +kernel
theorem dX6_works_40 : decode cX6_works 40 = .ok (.iload_n 2, 1) := by decide +kernel
theorem dX6_works_41 : decode cX6_works 41 = .ok (.aload_n 0, 1) := by decide +kernel
theorem dX6_works_42 : decode cX6_works 42 = .ok (.getfield 74, 3) := by decide +kernel
theorem dX6_works_45 : decode cX6_works 45 = .ok (.iload_n 1, 1) := by decide +kernel
theorem dX6_works_46 : decode cX6_works 46 = .ok (.iaload, 1) := by decide +kernel
theorem dX6_works_47 : decode cX6_works 47 = .ok (.if_icmp .ne 5, 3) := by decide +kernel
theorem dX6_works_50 : decode cX6_works 50 = .ok (.iconst 0, 1) := by decide +kernel
theorem dX6_works_51 : decode cX6_works 51 = .ok (.ireturn, 1) := by decide +kernel
theorem dX6_works_52 : decode cX6_works 52 = .ok (.aload_n 0, 1) := by decide +kernel
theorem dX6_works_53 : decode cX6_works 53 = .ok (.getfield 77, 3) := by decide +kernel
theorem dX6_works_56 : decode cX6_works 56 = .ok (.iload_n 1, 1) := by decide +kernel
theorem dX6_works_57 : decode cX6_works 57 = .ok (.iload_n 2, 1) := by decide +kernel
theorem dX6_works_58 : decode cX6_works 58 = .ok (.invokestatic 105, 3) := by decide +kernel
theorem dX6_works_61 : decode cX6_works 61 = .ok (.iaload, 1) := by decide +kernel
theorem dX6_works_62 : decode cX6_works 62 = .ok (.istore_n 3, 1) := by decide +kernel
theorem dX6_works_63 : decode cX6_works 63 = .ok (.aload_n 0, 1) := by decide +kernel
theorem dX6_works_64 : decode cX6_works 64 = .ok (.getfield 56, 3) := by decide +kernel
theorem dX6_works_67 : decode cX6_works 67 = .ok (.iload_n 1, 1) := by decide +kernel
theorem dX6_works_68 : decode cX6_works 68 = .ok (.iload_n 3, 1) := by decide +kernel
theorem dX6_works_69 : decode cX6_works 69 = .ok (.invokestatic 105, 3) := by decide +kernel
theorem dX6_works_72 : decode cX6_works 72 = .ok (.baload, 1) := by decide +kernel
theorem dX6_works_73 : decode cX6_works 73 = .ok (.ifCond .ne 24, 3) := by decide +kernel
theorem dX6_works_76 : decode cX6_works 76 = .ok (.aload_n 0, 1) := by decide +kernel
theorem dX6_works_77 : decode cX6_works 77 = .ok (.getfield 56, 3) := by decide +kernel
theorem dX6_works_80 : decode cX6_works 80 = .ok (.iload_n 1, 1) := by decide +kernel
theorem dX6_works_81 : decode cX6_works 81 = .ok (.iload_n 3, 1) := by decide +kernel
theorem dX6_works_82 : decode cX6_works 82 = .ok (.invokestatic 105, 3) := by decide +kernel
theorem dX6_works_85 : decode cX6_works 85 = .ok (.iconst 1, 1) := by decide +kernel
theorem dX6_works_86 : decode cX6_works 86 = .ok (.bastore, 1) := by decide +kernel
theorem dX6_works_87 : decode cX6_works 87 = .ok (.aload_n 0, 1) := by decide +kernel
theorem dX6_works_88 : decode cX6_works 88 = .ok (.iconst 2, 1) := by decide +kernel
theorem dX6_works_89 : decode cX6_works 89 = .ok (.iload_n 3, 1) := by decide +kernel
theorem dX6_works_90 : decode cX6_works 90 = .ok (.iload_n 1, 1) := by decide +kernel
theorem dX6_works_91 : decode cX6_works 91 = .ok (.iconst (-1), 1) := by decide +kernel
theorem dX6_works_92 : decode cX6_works 92 = .ok (.invokevirtual 127, 3) := by decide +kernel
theorem dX6_works_95 : decode cX6_works 95 = .ok (.iconst 1, 1) := by decide +kernel
theorem dX6_works_96 : decode cX6_works 96 = .ok (.ireturn, 1) := by decide +kernel
theorem dX6_works_97 : decode cX6_works 97 = .ok (.iconst 0, 1) := by decide +kernel
theorem dX6_works_98 : decode cX6_works 98 = .ok (.istore 4, 2) := by decide +kernel
theorem dX6_works_100 : decode cX6_works 100 = .ok (.iload 4, 2) := by decide +kernel
theorem dX6_works_102 : decode cX6_works 102 = .ok (.aload_n 0, 1) := by decide +kernel
theorem dX6_works_103 : decode cX6_works 103 = .ok (.getfield 101, 3) := by decide +kernel
theorem dX6_works_106 : decode cX6_works 106 = .ok (.if_icmp .ge 42, 3) := by decide +kernel
theorem dX6_works_109 : decode cX6_works 109 = .ok (.iload 4, 2) := by decide +kernel
theorem dX6_works_111 : decode cX6_works 111 = .ok (.iload_n 1, 1) := by decide +kernel
theorem dX6_works_112 : decode cX6_works 112 = .ok (.if_icmp .eq 30, 3) := by decide +kernel
theorem dX6_works_115 : decode cX6_works 115 = .ok (.aload_n 0, 1) := by decide +kernel
theorem dX6_works_116 : decode cX6_works 116 = .ok (.iload 4, 2) := by decide +kernel
theorem dX6_works_118 : decode cX6_works 118 = .ok (.iload_n 3, 1) := by decide +kernel
theorem dX6_works_119 : decode cX6_works 119 = .ok (.invokevirtual 112, 3) := by decide +kernel
theorem dX6_works_122 : decode cX6_works 122 = .ok (.ifCond .eq 20, 3) := by decide +kernel
theorem dX6_works_125 : decode cX6_works 125 = .ok (.aload_n 0, 1) := by decide +kernel
theorem dX6_works_126 : decode cX6_works 126 = .ok (.getfield 65, 3) := by decide +kernel
theorem dX6_works_129 : decode cX6_works 129 = .ok (.iload_n 1, 1) := by decide +kernel
theorem dX6_works_130 : decode cX6_works 130 = .ok (.iload_n 3, 1) := by decide +kernel
theorem dX6_works_131 : decode cX6_works 131 = .ok (.iload 4, 2) := by decide +kernel
theorem dX6_works_133 : decode cX6_works 133 = .ok (.invokestatic 131, 3) := by decide +kernel
theorem dX6_works_136 : decode cX6_works 136 = .ok (.baload, 1) := by decide +kernel
theorem dX6_works_137 : decode cX6_works 137 = .ok (.ifCond .ne 5, 3) := by decide +kernel
theorem dX6_works_140 : decode cX6_works 140 = .ok (.iconst 0, 1) := by decide +kernel
theorem dX6_works_141 : decode cX6_works 141 = .ok (.ireturn, 1) := by decide +kernel
theorem dX6_works_142 : decode cX6_works 142 = .ok (.iinc 4 1, 3) := by decide +kernel
theorem dX6_works_145 : decode cX6_works 145 = .ok (.goto (-45), 3) := by decide +kernel
theorem dX6_works_148 : decode cX6_works 148 = .ok (.aload_n 0, 1) := by decide +kernel
theorem dX6_works_149 : decode cX6_works 149 = .ok (.iload_n 1, 1) := by decide +kernel
theorem dX6_works_150 : decode cX6_works 150 = .ok (.iload_n 3, 1) := by decide +kernel
theorem dX6_works_151 : decode cX6_works 151 = .ok (.invokevirtual 152, 3) := by decide +kernel
theorem dX6_works_154 : decode cX6_works 154 = .ok (.iconst 1, 1) := by decide +kernel
theorem dX6_works_155 : decode cX6_works 155 = .ok (.ireturn, 1) := by decide +kernel
theorem dX6_workOut_0 : decode cX6_workOut 0 = .ok (.aload_n 0, 1) := by decide +kernel
theorem dX6_workOut_1 : decode cX6_workOut 1 = .ok (.getfield 26, 3) := by decide +kernel
theorem dX6_workOut_4 : decode cX6_workOut 4 = .ok (.iload_n 2, 1) := by decide +kernel
theorem dX6_workOut_5 : decode cX6_workOut 5 = .ok (.iaload, 1) := by decide +kernel
theorem dX6_workOut_6 : decode cX6_workOut 6 = .ok (.istore_n 3, 1) := by decide +kernel
theorem dX6_workOut_7 : decode cX6_workOut 7 = .ok (.aload_n 0, 1) := by decide +kernel
theorem dX6_workOut_8 : decode cX6_workOut 8 = .ok (.getfield 29, 3) := by decide +kernel
theorem dX6_workOut_11 : decode cX6_workOut 11 = .ok (.iload_n 2, 1) := by decide +kernel
theorem dX6_workOut_12 : decode cX6_workOut 12 = .ok (.iaload, 1) := by decide +kernel
theorem dX6_workOut_13 : decode cX6_workOut 13 = .ok (.istore 4, 2) := by decide +kernel
theorem dX6_workOut_15 : decode cX6_workOut 15 = .ok (.iload_n 3, 1) := by decide +kernel
theorem dX6_workOut_16 : decode cX6_workOut 16 = .ok (.aload_n 0, 1) := by decide +kernel
theorem dX6_workOut_17 : decode cX6_workOut 17 = .ok (.getfield 101, 3) := by decide +kernel
theorem dX6_workOut_20 : decode cX6_workOut 20 = .ok (.irem, 1) := by decide +kernel
theorem dX6_workOut_21 : decode cX6_workOut 21 = .ok (.iload_n 1, 1) := by decide +kernel
theorem dX6_workOut_22 : decode cX6_workOut 22 = .ok (.if_icmp .ne 12, 3) := by decide +kernel
theorem dX6_workOut_25 : decode cX6_workOut 25 = .ok (.aload_n 0, 1) := by decide +kernel
theorem dX6_workOut_26 : decode cX6_workOut 26 = .ok (.getfield 17, 3) := by decide +kernel
theorem dX6_workOut_29 : decode cX6_workOut 29 = .ok (.iload_n 3, 1) := by decide +kernel
theorem dX6_workOut_30 : decode cX6_workOut 30 = .ok (.iaload, 1) := by decide +kernel
theorem dX6_workOut_31 : decode cX6_workOut 31 = .ok (.goto 19, 3) := by decide +kernel
theorem dX6_workOut_34 : decode cX6_workOut 34 = .ok (.aload_n 0, 1) := by decide +kernel
theorem dX6_workOut_35 : decode cX6_workOut 35 = .ok (.getfield 68, 3) := by decide +kernel
theorem dX6_workOut_38 : decode cX6_workOut 38 = .ok (.iload_n 1, 1) := by decide +kernel
theorem dX6_workOut_39 : decode cX6_workOut 39 = .ok (.iload_n 2, 1) := by decide +kernel
theorem dX6_workOut_40 : decode cX6_workOut 40 = .ok (.iload_n 3, 1) := by decide +kernel
theorem dX6_workOut_41 : decode cX6_workOut 41 = .ok (.aload_n 0, 1) := by decide +kernel
theorem dX6_workOut_42 : decode cX6_workOut 42 = .ok (.getfield 101, 3) := by decide +kernel
theorem dX6_workOut_45 : decode cX6_workOut 45 = .ok (.irem, 1) := by decide +kernel
theorem dX6_workOut_46 : decode cX6_workOut 46 = .ok (.invokestatic 131, 3) := by decide +kernel
theorem dX6_workOut_49 : decode cX6_workOut 49 = .ok (.iaload, 1) := by decide +kernel
theorem dX6_workOut_50 : decode cX6_workOut 50 = .ok (.istore 5, 2) := by decide +kernel
theorem dX6_workOut_52 : decode cX6_workOut 52 = .ok (.iload 4, 2) := by decide +kernel
theorem dX6_workOut_54 : decode cX6_workOut 54 = .ok (.aload_n 0, 1) := by decide +kernel
theorem dX6_workOut_55 : decode cX6_workOut 55 = .ok (.getfield 101, 3) := by decide +kernel
theorem dX6_workOut_58 : decode cX6_workOut 58 = .ok (.irem, 1) := by decide +kernel
theorem dX6_workOut_59 : decode cX6_workOut 59 = .ok (.iload_n 1, 1) := by decide +kernel
theorem dX6_workOut_60 : decode cX6_workOut 60 = .ok (.if_icmp .ne 13, 3) := by decide +kernel
theorem dX6_workOut_63 : decode cX6_workOut 63 = .ok (.aload_n 0, 1) := by decide +kernel
theorem dX6_workOut_64 : decode cX6_workOut 64 = .ok (.getfield 17, 3) := by decide +kernel
theorem dX6_workOut_67 : decode cX6_workOut 67 = .ok (.iload 4, 2) := by decide +kernel
theorem dX6_workOut_69 : decode cX6_workOut 69 = .ok (.iaload, 1) := by decide +kernel
theorem dX6_workOut_70 : decode cX6_workOut 70 = .ok (.goto 20, 3) := by decide +kernel
theorem dX6_workOut_73 : decode cX6_workOut 73 = .ok (.aload_n 0, 1) := by decide +kernel
theorem dX6_workOut_74 : decode cX6_workOut 74 = .ok (.getfield 71, 3) := by decide +kernel
theorem dX6_workOut_77 : decode cX6_workOut 77 = .ok (.iload_n 1, 1) := by decide +kernel
theorem dX6_workOut_78 : decode cX6_workOut 78 = .ok (.iload_n 2, 1) := by decide +kernel
theorem dX6_workOut_79 : decode cX6_workOut 79 = .ok (.iload 4, 2) := by decide +kernel
theorem dX6_workOut_81 : decode cX6_workOut 81 = .ok (.aload_n 0, 1) := by decide +kernel
theorem dX6_workOut_82 : decode cX6_workOut 82 = .ok (.getfield 101, 3) := by decide +kernel
theorem dX6_workOut_85 : decode cX6_workOut 85 = .ok (.irem, 1) := by decide +kernel
theorem dX6_workOut_86 : decode cX6_workOut 86 = .ok (.invokestatic 131, 3) := by decide +kernel
theorem dX6_workOut_89 : decode cX6_workOut 89 = .ok (.iaload, 1) := by decide +kernel
theorem dX6_workOut_90 : decode cX6_workOut 90 = .ok (.istore 6, 2) := by decide +kernel
theorem dX6_workOut_92 : decode cX6_workOut 92 = .ok (.aload_n 0, 1) := by decide +kernel
theorem dX6_workOut_93 : decode cX6_workOut 93 = .ok (.getfield 23, 3) := by decide +kernel
theorem dX6_workOut_96 : decode cX6_workOut 96 = .ok (.iload_n 2, 1) := by decide +kernel
theorem dX6_workOut_97 : decode cX6_workOut 97 = .ok (.iaload, 1) := by decide +kernel
theorem dX6_workOut_98 : decode cX6_workOut 98 = .ok (.ifCond .ne 36, 3) := by decide +kernel
theorem dX6_workOut_101 : decode cX6_workOut 101 = .ok (.iload 5, 2) := by decide +kernel
theorem dX6_workOut_103 : decode cX6_workOut 103 = .ok (.aload_n 0, 1) := by decide +kernel
theorem dX6_workOut_104 : decode cX6_workOut 104 = .ok (.getfield 32, 3) := by decide +kernel
theorem dX6_workOut_107 : decode cX6_workOut 107 = .ok (.iload_n 2, 1) := by decide +kernel
theorem dX6_workOut_108 : decode cX6_workOut 108 = .ok (.iaload, 1) := by decide +kernel
theorem dX6_workOut_109 : decode cX6_workOut 109 = .ok (.iadd, 1) := by decide +kernel
theorem dX6_workOut_110 : decode cX6_workOut 110 = .ok (.istore 5, 2) := by decide +kernel
theorem dX6_workOut_112 : decode cX6_workOut 112 = .ok (.iload 5, 2) := by decide +kernel
theorem dX6_workOut_114 : decode cX6_workOut 114 = .ok (.istore 7, 2) := by decide +kernel
theorem dX6_workOut_116 : decode cX6_workOut 116 = .ok (.iload_n 3, 1) := by decide +kernel
theorem dX6_workOut_117 : decode cX6_workOut 117 = .ok (.iload 4, 2) := by decide +kernel
theorem dX6_workOut_119 : decode cX6_workOut 119 = .ok (.if_icmp .ne 8, 3) := by decide +kernel
theorem dX6_workOut_122 : decode cX6_workOut 122 = .ok (.iload 5, 2) := by decide +kernel
theorem dX6_workOut_124 : decode cX6_workOut 124 = .ok (.goto 5, 3) := by decide +kernel
theorem dX6_workOut_127 : decode cX6_workOut 127 = .ok (.iload 6, 2) := by decide +kernel
theorem dX6_workOut_129 : decode cX6_workOut 129 = .ok (.istore 6, 2) := by decide +kernel
theorem dX6_workOut_131 : decode cX6_workOut 131 = .ok (.goto 104, 3) := by decide +kernel
theorem dX6_workOut_134 : decode cX6_workOut 134 = .ok (.aload_n 0, 1) := by decide +kernel
theorem dX6_workOut_135 : decode cX6_workOut 135 = .ok (.getfield 23, 3) := by decide +kernel
theorem dX6_workOut_138 : decode cX6_workOut 138 = .ok (.iload_n 2, 1) := by decide +kernel
theorem dX6_workOut_139 : decode cX6_workOut 139 = .ok (.iaload, 1) := by decide +kernel
theorem dX6_workOut_140 : decode cX6_workOut 140 = .ok (.iconst 1, 1) := by decide +kernel
theorem dX6_workOut_141 : decode cX6_workOut 141 = .ok (.if_icmp .ne 58, 3) := by decide +kernel
theorem dX6_workOut_144 : decode cX6_workOut 144 = .ok (.iload 5, 2) := by decide +kernel
theorem dX6_workOut_146 : decode cX6_workOut 146 = .ok (.aload_n 0, 1) := by decide +kernel
theorem dX6_workOut_147 : decode cX6_workOut 147 = .ok (.getfield 32, 3) := by decide +kernel
theorem dX6_workOut_150 : decode cX6_workOut 150 = .ok (.iload_n 2, 1) := by decide +kernel
theorem dX6_workOut_151 : decode cX6_workOut 151 = .ok (.iaload, 1) := by decide +kernel
theorem dX6_workOut_152 : decode cX6_workOut 152 = .ok (.if_icmp .lt 7, 3) := by decide +kernel
theorem dX6_workOut_155 : decode cX6_workOut 155 = .ok (.iconst 1, 1) := by decide +kernel
theorem dX6_workOut_156 : decode cX6_workOut 156 = .ok (.goto 4, 3) := by decide +kernel
theorem dX6_workOut_159 : decode cX6_workOut 159 = .ok (.iconst 0, 1) := by decide +kernel
theorem dX6_workOut_160 : decode cX6_workOut 160 = .ok (.istore 7, 2) := by decide +kernel
theorem dX6_workOut_162 : decode cX6_workOut 162 = .ok (.iload 7, 2) := by decide +kernel
theorem dX6_workOut_164 : decode cX6_workOut 164 = .ok (.iconst 1, 1) := by decide +kernel
theorem dX6_workOut_165 : decode cX6_workOut 165 = .ok (.if_icmp .ne 70, 3) := by decide +kernel
theorem dX6_workOut_168 : decode cX6_workOut 168 = .ok (.iload_n 3, 1) := by decide +kernel
theorem dX6_workOut_169 : decode cX6_workOut 169 = .ok (.iload 4, 2) := by decide +kernel
theorem dX6_workOut_171 : decode cX6_workOut 171 = .ok (.if_icmp .eq 64, 3) := by decide +kernel
theorem dX6_workOut_174 : decode cX6_workOut 174 = .ok (.iload 5, 2) := by decide +kernel
theorem dX6_workOut_176 : decode cX6_workOut 176 = .ok (.aload_n 0, 1) := by decide +kernel
theorem dX6_workOut_177 : decode cX6_workOut 177 = .ok (.getfield 32, 3) := by decide +kernel
theorem dX6_workOut_180 : decode cX6_workOut 180 = .ok (.iload_n 2, 1) := by decide +kernel
theorem dX6_workOut_181 : decode cX6_workOut 181 = .ok (.iaload, 1) := by decide +kernel
theorem dX6_workOut_182 : decode cX6_workOut 182 = .ok (.isub, 1) := by decide +kernel
theorem dX6_workOut_183 : decode cX6_workOut 183 = .ok (.istore 5, 2) := by decide +kernel
theorem dX6_workOut_185 : decode cX6_workOut 185 = .ok (.iload 6, 2) := by decide +kernel
theorem dX6_workOut_187 : decode cX6_workOut 187 = .ok (.aload_n 0, 1) := by decide +kernel
theorem dX6_workOut_188 : decode cX6_workOut 188 = .ok (.getfield 32, 3) := by decide +kernel
theorem dX6_workOut_191 : decode cX6_workOut 191 = .ok (.iload_n 2, 1) := by decide +kernel
theorem dX6_workOut_192 : decode cX6_workOut 192 = .ok (.iaload, 1) := by decide +kernel
theorem dX6_workOut_193 : decode cX6_workOut 193 = .ok (.iadd, 1) := by decide +kernel
theorem dX6_workOut_194 : decode cX6_workOut 194 = .ok (.istore 6, 2) := by decide +kernel
theorem dX6_workOut_196 : decode cX6_workOut 196 = .ok (.goto 39, 3) := by decide +kernel
theorem dX6_workOut_199 : decode cX6_workOut 199 = .ok (.aload_n 0, 1) := by decide +kernel
theorem dX6_workOut_200 : decode cX6_workOut 200 = .ok (.getfield 23, 3) := by decide +kernel
theorem dX6_workOut_203 : decode cX6_workOut 203 = .ok (.iload_n 2, 1) := by decide +kernel
theorem dX6_workOut_204 : decode cX6_workOut 204 = .ok (.iaload, 1) := by decide +kernel
theorem dX6_workOut_205 : decode cX6_workOut 205 = .ok (.iconst 2, 1) := by decide +kernel
theorem dX6_workOut_206 : decode cX6_workOut 206 = .ok (.if_icmp .ne 13, 3) := by decide +kernel
theorem dX6_workOut_209 : decode cX6_workOut 209 = .ok (.iload 5, 2) := by decide +kernel
theorem dX6_workOut_211 : decode cX6_workOut 211 = .ok (.iload 6, 2) := by decide +kernel
theorem dX6_workOut_213 : decode cX6_workOut 213 = .ok (.iadd, 1) := by decide +kernel
theorem dX6_workOut_214 : decode cX6_workOut 214 = .ok (.istore 7, 2) := by decide +kernel
theorem dX6_workOut_216 : decode cX6_workOut 216 = .ok (.goto 19, 3) := by decide +kernel
theorem dX6_workOut_219 : decode cX6_workOut 219 = .ok (.iload 5, 2) := by decide +kernel
theorem dX6_workOut_221 : decode cX6_workOut 221 = .ok (.istore 8, 2) := by decide +kernel
theorem dX6_workOut_223 : decode cX6_workOut 223 = .ok (.iload 6, 2) := by decide +kernel
theorem dX6_workOut_225 : decode cX6_workOut 225 = .ok (.istore 5, 2) := by decide +kernel
theorem dX6_workOut_227 : decode cX6_workOut 227 = .ok (.iload 8, 2) := by decide +kernel
theorem dX6_workOut_229 : decode cX6_workOut 229 = .ok (.istore 6, 2) := by decide +kernel
theorem dX6_workOut_231 : decode cX6_workOut 231 = .ok (.iload 5, 2) := by decide +kernel
theorem dX6_workOut_233 : decode cX6_workOut 233 = .ok (.istore 7, 2) := by decide +kernel
theorem dX6_workOut_235 : decode cX6_workOut 235 = .ok (.iload 4, 2) := by decide +kernel
theorem dX6_workOut_237 : decode cX6_workOut 237 = .ok (.aload_n 0, 1) := by decide +kernel
theorem dX6_workOut_238 : decode cX6_workOut 238 = .ok (.getfield 101, 3) := by decide +kernel
theorem dX6_workOut_241 : decode cX6_workOut 241 = .ok (.irem, 1) := by decide +kernel
theorem dX6_workOut_242 : decode cX6_workOut 242 = .ok (.iload_n 1, 1) := by decide +kernel
theorem dX6_workOut_243 : decode cX6_workOut 243 = .ok (.if_icmp .ne 21, 3) := by decide +kernel
theorem dX6_workOut_246 : decode cX6_workOut 246 = .ok (.aload_n 0, 1) := by decide +kernel
theorem dX6_workOut_247 : decode cX6_workOut 247 = .ok (.getfield 23, 3) := by decide +kernel
theorem dX6_workOut_250 : decode cX6_workOut 250 = .ok (.iload_n 2, 1) := by decide +kernel
theorem dX6_workOut_251 : decode cX6_workOut 251 = .ok (.iaload, 1) := by decide +kernel
theorem dX6_workOut_252 : decode cX6_workOut 252 = .ok (.ifCond .eq 12, 3) := by decide +kernel
theorem dX6_workOut_255 : decode cX6_workOut 255 = .ok (.aload_n 0, 1) := by decide +kernel
theorem dX6_workOut_256 : decode cX6_workOut 256 = .ok (.getfield 17, 3) := by decide +kernel
theorem dX6_workOut_259 : decode cX6_workOut 259 = .ok (.iload 4, 2) := by decide +kernel
theorem dX6_workOut_261 : decode cX6_workOut 261 = .ok (.iload 6, 2) := by decide +kernel
theorem dX6_workOut_263 : decode cX6_workOut 263 = .ok (.iastore, 1) := by decide +kernel
theorem dX6_workOut_264 : decode cX6_workOut 264 = .ok (.iload_n 3, 1) := by decide +kernel
theorem dX6_workOut_265 : decode cX6_workOut 265 = .ok (.aload_n 0, 1) := by decide +kernel
theorem dX6_workOut_266 : decode cX6_workOut 266 = .ok (.getfield 101, 3) := by decide +kernel
theorem dX6_workOut_269 : decode cX6_workOut 269 = .ok (.irem, 1) := by decide +kernel
theorem dX6_workOut_270 : decode cX6_workOut 270 = .ok (.iload_n 1, 1) := by decide +kernel
theorem dX6_workOut_271 : decode cX6_workOut 271 = .ok (.if_icmp .ne 11, 3) := by decide +kernel
theorem dX6_workOut_274 : decode cX6_workOut 274 = .ok (.aload_n 0, 1) := by decide +kernel
theorem dX6_workOut_275 : decode cX6_workOut 275 = .ok (.getfield 17, 3) := by decide +kernel
theorem dX6_workOut_278 : decode cX6_workOut 278 = .ok (.iload_n 3, 1) := by decide +kernel
theorem dX6_workOut_279 : decode cX6_workOut 279 = .ok (.iload 5, 2) := by decide +kernel
theorem dX6_workOut_281 : decode cX6_workOut 281 = .ok (.iastore, 1) := by decide +kernel
theorem dX6_workOut_282 : decode cX6_workOut 282 = .ok (.aload_n 0, 1) := by decide +kernel
theorem dX6_workOut_283 : decode cX6_workOut 283 = .ok (.getfield 59, 3) := by decide +kernel
theorem dX6_workOut_286 : decode cX6_workOut 286 = .ok (.iload_n 1, 1) := by decide +kernel
theorem dX6_workOut_287 : decode cX6_workOut 287 = .ok (.iload_n 2, 1) := by decide +kernel
theorem dX6_workOut_288 : decode cX6_workOut 288 = .ok (.invokestatic 105, 3) := by decide +kernel
theorem dX6_workOut_291 : decode cX6_workOut 291 = .ok (.iconst 1, 1) := by decide +kernel
theorem dX6_workOut_292 : decode cX6_workOut 292 = .ok (.bastore, 1) := by decide +kernel
theorem dX6_workOut_293 : decode cX6_workOut 293 = .ok (.aload_n 0, 1) := by decide +kernel
theorem dX6_workOut_294 : decode cX6_workOut 294 = .ok (.getfield 38, 3) := by decide +kernel
theorem dX6_workOut_297 : decode cX6_workOut 297 = .ok (.iload_n 2, 1) := by decide +kernel
theorem dX6_workOut_298 : decode cX6_workOut 298 = .ok (.baload, 1) := by decide +kernel
theorem dX6_workOut_299 : decode cX6_workOut 299 = .ok (.ifCond .ne 73, 3) := by decide +kernel
theorem dX6_workOut_302 : decode cX6_workOut 302 = .ok (.aload_n 0, 1) := by decide +kernel
theorem dX6_workOut_303 : decode cX6_workOut 303 = .ok (.getfield 38, 3) := by decide +kernel
theorem dX6_workOut_306 : decode cX6_workOut 306 = .ok (.iload_n 2, 1) := by decide +kernel
theorem dX6_workOut_307 : decode cX6_workOut 307 = .ok (.iconst 1, 1) := by decide +kernel
theorem dX6_workOut_308 : decode cX6_workOut 308 = .ok (.bastore, 1) := by decide +kernel
theorem dX6_workOut_309 : decode cX6_workOut 309 = .ok (.aload_n 0, 1) := by decide +kernel
theorem dX6_workOut_310 : decode cX6_workOut 310 = .ok (.getfield 41, 3) := by decide +kernel
theorem dX6_workOut_313 : decode cX6_workOut 313 = .ok (.iload_n 2, 1) := by decide +kernel
theorem dX6_workOut_314 : decode cX6_workOut 314 = .ok (.iload 7, 2) := by decide +kernel
theorem dX6_workOut_316 : decode cX6_workOut 316 = .ok (.iastore, 1) := by decide +kernel
theorem dX6_workOut_317 : decode cX6_workOut 317 = .ok (.aload_n 0, 1) := by decide +kernel
theorem dX6_workOut_318 : decode cX6_workOut 318 = .ok (.getfield 20, 3) := by decide +kernel
theorem dX6_workOut_321 : decode cX6_workOut 321 = .ok (.iload_n 2, 1) := by decide +kernel
theorem dX6_workOut_322 : decode cX6_workOut 322 = .ok (.iaload, 1) := by decide +kernel
theorem dX6_workOut_323 : decode cX6_workOut 323 = .ok (.istore 8, 2) := by decide +kernel
theorem dX6_workOut_325 : decode cX6_workOut 325 = .ok (.aload_n 0, 1) := by decide +kernel
theorem dX6_workOut_326 : decode cX6_workOut 326 = .ok (.getfield 44, 3) := by decide +kernel
theorem dX6_workOut_329 : decode cX6_workOut 329 = .ok (.iload 8, 2) := by decide +kernel
theorem dX6_workOut_331 : decode cX6_workOut 331 = .ok (.aload_n 0, 1) := by decide +kernel
theorem dX6_workOut_332 : decode cX6_workOut 332 = .ok (.getfield 44, 3) := by decide +kernel
theorem dX6_workOut_335 : decode cX6_workOut 335 = .ok (.iload 8, 2) := by decide +kernel
theorem dX6_workOut_337 : decode cX6_workOut 337 = .ok (.iaload, 1) := by decide +kernel
theorem dX6_workOut_338 : decode cX6_workOut 338 = .ok (.aload_n 0, 1) := by decide +kernel
theorem dX6_workOut_339 : decode cX6_workOut 339 = .ok (.getfield 50, 3) := by decide +kernel
theorem dX6_workOut_342 : decode cX6_workOut 342 = .ok (.iload_n 1, 1) := by decide +kernel
theorem dX6_workOut_343 : decode cX6_workOut 343 = .ok (.iload_n 2, 1) := by decide +kernel
theorem dX6_workOut_344 : decode cX6_workOut 344 = .ok (.invokestatic 105, 3) := by decide +kernel
theorem dX6_workOut_347 : decode cX6_workOut 347 = .ok (.iaload, 1) := by decide +kernel
theorem dX6_workOut_348 : decode cX6_workOut 348 = .ok (.if_icmp .ge 16, 3) := by decide +kernel
theorem dX6_workOut_351 : decode cX6_workOut 351 = .ok (.aload_n 0, 1) := by decide +kernel
theorem dX6_workOut_352 : decode cX6_workOut 352 = .ok (.getfield 50, 3) := by decide +kernel
theorem dX6_workOut_355 : decode cX6_workOut 355 = .ok (.iload_n 1, 1) := by decide +kernel
theorem dX6_workOut_356 : decode cX6_workOut 356 = .ok (.iload_n 2, 1) := by decide +kernel
theorem dX6_workOut_357 : decode cX6_workOut 357 = .ok (.invokestatic 105, 3) := by decide +kernel
theorem dX6_workOut_360 : decode cX6_workOut 360 = .ok (.iaload, 1) := by decide +kernel
theorem dX6_workOut_361 : decode cX6_workOut 361 = .ok (.goto 10, 3) := by decide +kernel
theorem dX6_workOut_364 : decode cX6_workOut 364 = .ok (.aload_n 0, 1) := by decide +kernel
theorem dX6_workOut_365 : decode cX6_workOut 365 = .ok (.getfield 44, 3) := by decide +kernel
theorem dX6_workOut_368 : decode cX6_workOut 368 = .ok (.iload 8, 2) := by decide +kernel
theorem dX6_workOut_370 : decode cX6_workOut 370 = .ok (.iaload, 1) := by decide +kernel
theorem dX6_workOut_371 : decode cX6_workOut 371 = .ok (.iastore, 1) := by decide +kernel
theorem dX6_workOut_372 : decode cX6_workOut 372 = .ok (.return_, 1) := by decide +kernel
theorem dX6_bring_0 : decode cX6_bring 0 = .ok (.iload_n 1, 1) := by decide +kernel
theorem dX6_bring_1 : decode cX6_bring 1 = .ok (.aload_n 0, 1) := by decide +kernel
theorem dX6_bring_2 : decode cX6_bring 2 = .ok (.getfield 109, 3) := by decide +kernel
theorem dX6_bring_5 : decode cX6_bring 5 = .ok (.invokestatic 120, 3) := by decide +kernel
theorem dX6_bring_8 : decode cX6_bring 8 = .ok (.ifCond .eq 17, 3) := by decide +kernel
theorem dX6_bring_11 : decode cX6_bring 11 = .ok (.aload_n 0, 1) := by decide +kernel
theorem dX6_bring_12 : decode cX6_bring 12 = .ok (.getfield 13, 3) := by decide +kernel
theorem dX6_bring_15 : decode cX6_bring 15 = .ok (.aload_n 0, 1) := by decide +kernel
theorem dX6_bring_16 : decode cX6_bring 16 = .ok (.getfield 89, 3) := by decide +kernel
theorem dX6_bring_19 : decode cX6_bring 19 = .ok (.iload_n 1, 1) := by decide +kernel
theorem dX6_bring_20 : decode cX6_bring 20 = .ok (.iaload, 1) := by decide +kernel
theorem dX6_bring_21 : decode cX6_bring 21 = .ok (.baload, 1) := by decide +kernel
theorem dX6_bring_22 : decode cX6_bring 22 = .ok (.ifCond .eq 5, 3) := by decide +kernel
theorem dX6_bring_25 : decode cX6_bring 25 = .ok (.iconst (-1), 1) := by decide +kernel
theorem dX6_bring_26 : decode cX6_bring 26 = .ok (.ireturn, 1) := by decide +kernel
theorem dX6_bring_27 : decode cX6_bring 27 = .ok (.aload_n 0, 1) := by decide +kernel
theorem dX6_bring_28 : decode cX6_bring 28 = .ok (.iload_n 1, 1) := by decide +kernel
theorem dX6_bring_29 : decode cX6_bring 29 = .ok (.sipush 399, 3) := by decide +kernel
theorem dX6_bring_32 : decode cX6_bring 32 = .ok (.invokevirtual 155, 3) := by decide +kernel
theorem dX6_bring_35 : decode cX6_bring 35 = .ok (.aload_n 0, 1) := by decide +kernel
theorem dX6_bring_36 : decode cX6_bring 36 = .ok (.dup, 1) := by decide +kernel
theorem dX6_bring_37 : decode cX6_bring 37 = .ok (.getfield 109, 3) := by decide +kernel
theorem dX6_bring_40 : decode cX6_bring 40 = .ok (.iconst 1, 1) := by decide +kernel
theorem dX6_bring_41 : decode cX6_bring 41 = .ok (.isub, 1) := by decide +kernel
theorem dX6_bring_42 : decode cX6_bring 42 = .ok (.putfield 109, 3) := by decide +kernel
theorem dX6_bring_45 : decode cX6_bring 45 = .ok (.iload_n 1, 1) := by decide +kernel
theorem dX6_bring_46 : decode cX6_bring 46 = .ok (.istore_n 2, 1) := by decide +kernel
theorem dX6_bring_47 : decode cX6_bring 47 = .ok (.iload_n 2, 1) := by decide +kernel
theorem dX6_bring_48 : decode cX6_bring 48 = .ok (.aload_n 0, 1) := by decide +kernel
theorem dX6_bring_49 : decode cX6_bring 49 = .ok (.getfield 109, 3) := by decide +kernel
theorem dX6_bring_52 : decode cX6_bring 52 = .ok (.if_icmp .ge 17, 3) := by decide +kernel
theorem dX6_bring_55 : decode cX6_bring 55 = .ok (.aload_n 0, 1) := by decide +kernel
theorem dX6_bring_56 : decode cX6_bring 56 = .ok (.iload_n 2, 1) := by decide +kernel
theorem dX6_bring_57 : decode cX6_bring 57 = .ok (.iconst 1, 1) := by decide +kernel
theorem dX6_bring_58 : decode cX6_bring 58 = .ok (.iadd, 1) := by decide +kernel
theorem dX6_bring_59 : decode cX6_bring 59 = .ok (.iload_n 2, 1) := by decide +kernel
theorem dX6_bring_60 : decode cX6_bring 60 = .ok (.invokevirtual 155, 3) := by decide +kernel
theorem dX6_bring_63 : decode cX6_bring 63 = .ok (.iinc 2 1, 3) := by decide +kernel
theorem dX6_bring_66 : decode cX6_bring 66 = .ok (.goto (-19), 3) := by decide +kernel
theorem dX6_bring_69 : decode cX6_bring 69 = .ok (.aload_n 0, 1) := by decide +kernel
theorem dX6_bring_70 : decode cX6_bring 70 = .ok (.sipush 399, 3) := by decide +kernel
theorem dX6_bring_73 : decode cX6_bring 73 = .ok (.invokevirtual 158, 3) := by decide +kernel
theorem dX6_bring_76 : decode cX6_bring 76 = .ok (.aload_n 0, 1) := by decide +kernel
theorem dX6_bring_77 : decode cX6_bring 77 = .ok (.getfield 109, 3) := by decide +kernel
theorem dX6_bring_80 : decode cX6_bring 80 = .ok (.ireturn, 1) := by decide +kernel
theorem dX6_move_0 : decode cX6_move 0 = .ok (.aload_n 0, 1) := by decide +kernel
theorem dX6_move_1 : decode cX6_move 1 = .ok (.getfield 80, 3) := by decide +kernel
theorem dX6_move_4 : decode cX6_move 4 = .ok (.iload_n 2, 1) := by decide +kernel
theorem dX6_move_5 : decode cX6_move 5 = .ok (.aload_n 0, 1) := by decide +kernel
theorem dX6_move_6 : decode cX6_move 6 = .ok (.getfield 80, 3) := by decide +kernel
theorem dX6_move_9 : decode cX6_move 9 = .ok (.iload_n 1, 1) := by decide +kernel
theorem dX6_move_10 : decode cX6_move 10 = .ok (.iaload, 1) := by decide +kernel
theorem dX6_move_11 : decode cX6_move 11 = .ok (.iastore, 1) := by decide +kernel
theorem dX6_move_12 : decode cX6_move 12 = .ok (.aload_n 0, 1) := by decide +kernel
theorem dX6_move_13 : decode cX6_move 13 = .ok (.getfield 83, 3) := by decide +kernel
theorem dX6_move_16 : decode cX6_move 16 = .ok (.iload_n 2, 1) := by decide +kernel
theorem dX6_move_17 : decode cX6_move 17 = .ok (.aload_n 0, 1) := by decide +kernel
theorem dX6_move_18 : decode cX6_move 18 = .ok (.getfield 83, 3) := by decide +kernel
theorem dX6_move_21 : decode cX6_move 21 = .ok (.iload_n 1, 1) := by decide +kernel
theorem dX6_move_22 : decode cX6_move 22 = .ok (.iaload, 1) := by decide +kernel
theorem dX6_move_23 : decode cX6_move 23 = .ok (.iastore, 1) := by decide +kernel
theorem dX6_move_24 : decode cX6_move 24 = .ok (.aload_n 0, 1) := by decide +kernel
theorem dX6_move_25 : decode cX6_move 25 = .ok (.getfield 86, 3) := by decide +kernel
theorem dX6_move_28 : decode cX6_move 28 = .ok (.iload_n 2, 1) := by decide +kernel
theorem dX6_move_29 : decode cX6_move 29 = .ok (.aload_n 0, 1) := by decide +kernel
theorem dX6_move_30 : decode cX6_move 30 = .ok (.getfield 86, 3) := by decide +kernel
theorem dX6_move_33 : decode cX6_move 33 = .ok (.iload_n 1, 1) := by decide +kernel
theorem dX6_move_34 : decode cX6_move 34 = .ok (.iaload, 1) := by decide +kernel
theorem dX6_move_35 : decode cX6_move 35 = .ok (.iastore, 1) := by decide +kernel
theorem dX6_move_36 : decode cX6_move 36 = .ok (.aload_n 0, 1) := by decide +kernel
theorem dX6_move_37 : decode cX6_move 37 = .ok (.getfield 89, 3) := by decide +kernel
theorem dX6_move_40 : decode cX6_move 40 = .ok (.iload_n 2, 1) := by decide +kernel
theorem dX6_move_41 : decode cX6_move 41 = .ok (.aload_n 0, 1) := by decide +kernel
theorem dX6_move_42 : decode cX6_move 42 = .ok (.getfield 89, 3) := by decide +kernel
theorem dX6_move_45 : decode cX6_move 45 = .ok (.iload_n 1, 1) := by decide +kernel
end
section
theorem dX6_move_46 : decode cX6_move 46 = .ok (.iaload, 1) := by decide +kernel
theorem dX6_move_47 : decode cX6_move 47 = .ok (.iastore, 1) := by decide +kernel
theorem dX6_move_48 : decode cX6_move 48 = .ok (.aload_n 0, 1) := by decide +kernel
theorem dX6_move_49 : decode cX6_move 49 = .ok (.getfield 92, 3) := by decide +kernel
theorem dX6_move_52 : decode cX6_move 52 = .ok (.iload_n 2, 1) := by decide +kernel
theorem dX6_move_53 : decode cX6_move 53 = .ok (.aload_n 0, 1) := by decide +kernel
theorem dX6_move_54 : decode cX6_move 54 = .ok (.getfield 92, 3) := by decide +kernel
theorem dX6_move_57 : decode cX6_move 57 = .ok (.iload_n 1, 1) := by decide +kernel
theorem dX6_move_58 : decode cX6_move 58 = .ok (.iaload, 1) := by decide +kernel
theorem dX6_move_59 : decode cX6_move 59 = .ok (.iastore, 1) := by decide +kernel
theorem dX6_move_60 : decode cX6_move 60 = .ok (.aload_n 0, 1) := by decide +kernel
theorem dX6_move_61 : decode cX6_move 61 = .ok (.getfield 95, 3) := by decide +kernel
theorem dX6_move_64 : decode cX6_move 64 = .ok (.iload_n 2, 1) := by decide +kernel
theorem dX6_move_65 : decode cX6_move 65 = .ok (.aload_n 0, 1) := by decide +kernel
theorem dX6_move_66 : decode cX6_move 66 = .ok (.getfield 95, 3) := by decide +kernel
theorem dX6_move_69 : decode cX6_move 69 = .ok (.iload_n 1, 1) := by decide +kernel
theorem dX6_move_70 : decode cX6_move 70 = .ok (.iaload, 1) := by decide +kernel
theorem dX6_move_71 : decode cX6_move 71 = .ok (.iastore, 1) := by decide +kernel
theorem dX6_move_72 : decode cX6_move 72 = .ok (.aload_n 0, 1) := by decide +kernel
theorem dX6_move_73 : decode cX6_move 73 = .ok (.getfield 98, 3) := by decide +kernel
theorem dX6_move_76 : decode cX6_move 76 = .ok (.iload_n 2, 1) := by decide +kernel
theorem dX6_move_77 : decode cX6_move 77 = .ok (.aload_n 0, 1) := by decide +kernel
theorem dX6_move_78 : decode cX6_move 78 = .ok (.getfield 98, 3) := by decide +kernel
theorem dX6_move_81 : decode cX6_move 81 = .ok (.iload_n 1, 1) := by decide +kernel
theorem dX6_move_82 : decode cX6_move 82 = .ok (.iaload, 1) := by decide +kernel
theorem dX6_move_83 : decode cX6_move 83 = .ok (.iastore, 1) := by decide +kernel
theorem dX6_move_84 : decode cX6_move 84 = .ok (.return_, 1) := by decide +kernel
theorem dX6_twice_0 : decode cX6_twice 0 = .ok (.iload_n 1, 1) := by decide +kernel
theorem dX6_twice_1 : decode cX6_twice 1 = .ok (.aload_n 0, 1) := by decide +kernel
theorem dX6_twice_2 : decode cX6_twice 2 = .ok (.getfield 109, 3) := by decide +kernel
theorem dX6_twice_5 : decode cX6_twice 5 = .ok (.invokestatic 120, 3) := by decide +kernel
theorem dX6_twice_8 : decode cX6_twice 8 = .ok (.ifCond .eq 17, 3) := by decide +kernel
theorem dX6_twice_11 : decode cX6_twice 11 = .ok (.aload_n 0, 1) := by decide +kernel
theorem dX6_twice_12 : decode cX6_twice 12 = .ok (.getfield 13, 3) := by decide +kernel
theorem dX6_twice_15 : decode cX6_twice 15 = .ok (.aload_n 0, 1) := by decide +kernel
theorem dX6_twice_16 : decode cX6_twice 16 = .ok (.getfield 89, 3) := by decide +kernel
theorem dX6_twice_19 : decode cX6_twice 19 = .ok (.iload_n 1, 1) := by decide +kernel
theorem dX6_twice_20 : decode cX6_twice 20 = .ok (.iaload, 1) := by decide +kernel
theorem dX6_twice_21 : decode cX6_twice 21 = .ok (.baload, 1) := by decide +kernel
theorem dX6_twice_22 : decode cX6_twice 22 = .ok (.ifCond .eq 5, 3) := by decide +kernel
theorem dX6_twice_25 : decode cX6_twice 25 = .ok (.iconst (-1), 1) := by decide +kernel
theorem dX6_twice_26 : decode cX6_twice 26 = .ok (.ireturn, 1) := by decide +kernel
theorem dX6_twice_27 : decode cX6_twice 27 = .ok (.aload_n 0, 1) := by decide +kernel
theorem dX6_twice_28 : decode cX6_twice 28 = .ok (.iload_n 1, 1) := by decide +kernel
theorem dX6_twice_29 : decode cX6_twice 29 = .ok (.invokevirtual 158, 3) := by decide +kernel
theorem dX6_twice_32 : decode cX6_twice 32 = .ok (.aload_n 0, 1) := by decide +kernel
theorem dX6_twice_33 : decode cX6_twice 33 = .ok (.getfield 109, 3) := by decide +kernel
theorem dX6_twice_36 : decode cX6_twice 36 = .ok (.ireturn, 1) := by decide +kernel
theorem dX6_up_0 : decode cX6_up 0 = .ok (.iload_n 1, 1) := by decide +kernel
theorem dX6_up_1 : decode cX6_up 1 = .ok (.aload_n 0, 1) := by decide +kernel
theorem dX6_up_2 : decode cX6_up 2 = .ok (.getfield 101, 3) := by decide +kernel
theorem dX6_up_5 : decode cX6_up 5 = .ok (.invokestatic 120, 3) := by decide +kernel
theorem dX6_up_8 : decode cX6_up 8 = .ok (.ifCond .ne 5, 3) := by decide +kernel
theorem dX6_up_11 : decode cX6_up 11 = .ok (.iconst 0, 1) := by decide +kernel
theorem dX6_up_12 : decode cX6_up 12 = .ok (.ireturn, 1) := by decide +kernel
theorem dX6_up_13 : decode cX6_up 13 = .ok (.aload_n 0, 1) := by decide +kernel
theorem dX6_up_14 : decode cX6_up 14 = .ok (.getfield 13, 3) := by decide +kernel
theorem dX6_up_17 : decode cX6_up 17 = .ok (.iload_n 1, 1) := by decide +kernel
theorem dX6_up_18 : decode cX6_up 18 = .ok (.iload_n 2, 1) := by decide +kernel
theorem dX6_up_19 : decode cX6_up 19 = .ok (.ifCond .ne 7, 3) := by decide +kernel
theorem dX6_up_22 : decode cX6_up 22 = .ok (.iconst 1, 1) := by decide +kernel
theorem dX6_up_23 : decode cX6_up 23 = .ok (.goto 4, 3) := by decide +kernel
theorem dX6_up_26 : decode cX6_up 26 = .ok (.iconst 0, 1) := by decide +kernel
theorem dX6_up_27 : decode cX6_up 27 = .ok (.bastore, 1) := by decide +kernel
theorem dX6_up_28 : decode cX6_up 28 = .ok (.iconst 1, 1) := by decide +kernel
theorem dX6_up_29 : decode cX6_up 29 = .ok (.ireturn, 1) := by decide +kernel
theorem dX6_flight_0 : decode cX6_flight 0 = .ok (.iload_n 1, 1) := by decide +kernel
theorem dX6_flight_1 : decode cX6_flight 1 = .ok (.aload_n 0, 1) := by decide +kernel
theorem dX6_flight_2 : decode cX6_flight 2 = .ok (.getfield 109, 3) := by decide +kernel
theorem dX6_flight_5 : decode cX6_flight 5 = .ok (.invokestatic 120, 3) := by decide +kernel
theorem dX6_flight_8 : decode cX6_flight 8 = .ok (.ifCond .eq 11, 3) := by decide +kernel
theorem dX6_flight_11 : decode cX6_flight 11 = .ok (.iload_n 2, 1) := by decide +kernel
theorem dX6_flight_12 : decode cX6_flight 12 = .ok (.iconst 5, 1) := by decide +kernel
theorem dX6_flight_13 : decode cX6_flight 13 = .ok (.invokestatic 120, 3) := by decide +kernel
theorem dX6_flight_16 : decode cX6_flight 16 = .ok (.ifCond .ne 5, 3) := by decide +kernel
theorem dX6_flight_19 : decode cX6_flight 19 = .ok (.iconst (-1), 1) := by decide +kernel
theorem dX6_flight_20 : decode cX6_flight 20 = .ok (.ireturn, 1) := by decide +kernel
theorem dX6_flight_21 : decode cX6_flight 21 = .ok (.iload_n 2, 1) := by decide +kernel
theorem dX6_flight_22 : decode cX6_flight 22 = .ok (.ifCond .ne 12, 3) := by decide +kernel
theorem dX6_flight_25 : decode cX6_flight 25 = .ok (.aload_n 0, 1) := by decide +kernel
theorem dX6_flight_26 : decode cX6_flight 26 = .ok (.getfield 80, 3) := by decide +kernel
theorem dX6_flight_29 : decode cX6_flight 29 = .ok (.iload_n 1, 1) := by decide +kernel
theorem dX6_flight_30 : decode cX6_flight 30 = .ok (.iaload, 1) := by decide +kernel
theorem dX6_flight_31 : decode cX6_flight 31 = .ok (.goto 51, 3) := by decide +kernel
theorem dX6_flight_34 : decode cX6_flight 34 = .ok (.iload_n 2, 1) := by decide +kernel
theorem dX6_flight_35 : decode cX6_flight 35 = .ok (.iconst 1, 1) := by decide +kernel
theorem dX6_flight_36 : decode cX6_flight 36 = .ok (.if_icmp .ne 12, 3) := by decide +kernel
theorem dX6_flight_39 : decode cX6_flight 39 = .ok (.aload_n 0, 1) := by decide +kernel
theorem dX6_flight_40 : decode cX6_flight 40 = .ok (.getfield 83, 3) := by decide +kernel
theorem dX6_flight_43 : decode cX6_flight 43 = .ok (.iload_n 1, 1) := by decide +kernel
theorem dX6_flight_44 : decode cX6_flight 44 = .ok (.iaload, 1) := by decide +kernel
theorem dX6_flight_45 : decode cX6_flight 45 = .ok (.goto 37, 3) := by decide +kernel
theorem dX6_flight_48 : decode cX6_flight 48 = .ok (.iload_n 2, 1) := by decide +kernel
theorem dX6_flight_49 : decode cX6_flight 49 = .ok (.iconst 2, 1) := by decide +kernel
theorem dX6_flight_50 : decode cX6_flight 50 = .ok (.if_icmp .ne 12, 3) := by decide +kernel
theorem dX6_flight_53 : decode cX6_flight 53 = .ok (.aload_n 0, 1) := by decide +kernel
theorem dX6_flight_54 : decode cX6_flight 54 = .ok (.getfield 86, 3) := by decide +kernel
theorem dX6_flight_57 : decode cX6_flight 57 = .ok (.iload_n 1, 1) := by decide +kernel
theorem dX6_flight_58 : decode cX6_flight 58 = .ok (.iaload, 1) := by decide +kernel
theorem dX6_flight_59 : decode cX6_flight 59 = .ok (.goto 23, 3) := by decide +kernel
theorem dX6_flight_62 : decode cX6_flight 62 = .ok (.iload_n 2, 1) := by decide +kernel
theorem dX6_flight_63 : decode cX6_flight 63 = .ok (.iconst 3, 1) := by decide +kernel
theorem dX6_flight_64 : decode cX6_flight 64 = .ok (.if_icmp .ne 12, 3) := by decide +kernel
theorem dX6_flight_67 : decode cX6_flight 67 = .ok (.aload_n 0, 1) := by decide +kernel
theorem dX6_flight_68 : decode cX6_flight 68 = .ok (.getfield 89, 3) := by decide +kernel
theorem dX6_flight_71 : decode cX6_flight 71 = .ok (.iload_n 1, 1) := by decide +kernel
theorem dX6_flight_72 : decode cX6_flight 72 = .ok (.iaload, 1) := by decide +kernel
theorem dX6_flight_73 : decode cX6_flight 73 = .ok (.goto 9, 3) := by decide +kernel
theorem dX6_flight_76 : decode cX6_flight 76 = .ok (.aload_n 0, 1) := by decide +kernel
theorem dX6_flight_77 : decode cX6_flight 77 = .ok (.getfield 92, 3) := by decide +kernel
theorem dX6_flight_80 : decode cX6_flight 80 = .ok (.iload_n 1, 1) := by decide +kernel
theorem dX6_flight_81 : decode cX6_flight 81 = .ok (.iaload, 1) := by decide +kernel
theorem dX6_flight_82 : decode cX6_flight 82 = .ok (.ireturn, 1) := by decide +kernel
theorem dX6_flying_0 : decode cX6_flying 0 = .ok (.aload_n 0, 1) := by decide +kernel
theorem dX6_flying_1 : decode cX6_flying 1 = .ok (.getfield 109, 3) := by decide +kernel
theorem dX6_flying_4 : decode cX6_flying 4 = .ok (.ireturn, 1) := by decide +kernel
theorem dX6_taken_0 : decode cX6_taken 0 = .ok (.iload_n 1, 1) := by decide +kernel
theorem dX6_taken_1 : decode cX6_taken 1 = .ok (.aload_n 0, 1) := by decide +kernel
theorem dX6_taken_2 : decode cX6_taken 2 = .ok (.getfield 101, 3) := by decide +kernel
theorem dX6_taken_5 : decode cX6_taken 5 = .ok (.invokestatic 120, 3) := by decide +kernel
theorem dX6_taken_8 : decode cX6_taken 8 = .ok (.ifCond .eq 29, 3) := by decide +kernel
theorem dX6_taken_11 : decode cX6_taken 11 = .ok (.iload_n 2, 1) := by decide +kernel
theorem dX6_taken_12 : decode cX6_taken 12 = .ok (.aload_n 0, 1) := by decide +kernel
theorem dX6_taken_13 : decode cX6_taken 13 = .ok (.getfield 74, 3) := by decide +kernel
theorem dX6_taken_16 : decode cX6_taken 16 = .ok (.iload_n 1, 1) := by decide +kernel
theorem dX6_taken_17 : decode cX6_taken 17 = .ok (.iaload, 1) := by decide +kernel
theorem dX6_taken_18 : decode cX6_taken 18 = .ok (.invokestatic 120, 3) := by decide +kernel
theorem dX6_taken_21 : decode cX6_taken 21 = .ok (.ifCond .eq 16, 3) := by decide +kernel
theorem dX6_taken_24 : decode cX6_taken 24 = .ok (.aload_n 0, 1) := by decide +kernel
theorem dX6_taken_25 : decode cX6_taken 25 = .ok (.getfield 77, 3) := by decide +kernel
theorem dX6_taken_28 : decode cX6_taken 28 = .ok (.iload_n 1, 1) := by decide +kernel
theorem dX6_taken_29 : decode cX6_taken 29 = .ok (.iload_n 2, 1) := by decide +kernel
theorem dX6_taken_30 : decode cX6_taken 30 = .ok (.invokestatic 105, 3) := by decide +kernel
theorem dX6_taken_33 : decode cX6_taken 33 = .ok (.iaload, 1) := by decide +kernel
theorem dX6_taken_34 : decode cX6_taken 34 = .ok (.goto 4, 3) := by decide +kernel
theorem dX6_taken_37 : decode cX6_taken 37 = .ok (.iconst (-1), 1) := by decide +kernel
theorem dX6_taken_38 : decode cX6_taken 38 = .ok (.ireturn, 1) := by decide +kernel
theorem dX6_answer_0 : decode cX6_answer 0 = .ok (.iload_n 1, 1) := by decide +kernel
theorem dX6_answer_1 : decode cX6_answer 1 = .ok (.aload_n 0, 1) := by decide +kernel
theorem dX6_answer_2 : decode cX6_answer 2 = .ok (.getfield 124, 3) := by decide +kernel
theorem dX6_answer_5 : decode cX6_answer 5 = .ok (.invokestatic 120, 3) := by decide +kernel
theorem dX6_answer_8 : decode cX6_answer 8 = .ok (.ifCond .eq 21, 3) := by decide +kernel
theorem dX6_answer_11 : decode cX6_answer 11 = .ok (.aload_n 0, 1) := by decide +kernel
theorem dX6_answer_12 : decode cX6_answer 12 = .ok (.getfield 38, 3) := by decide +kernel
theorem dX6_answer_15 : decode cX6_answer 15 = .ok (.iload_n 1, 1) := by decide +kernel
theorem dX6_answer_16 : decode cX6_answer 16 = .ok (.baload, 1) := by decide +kernel
theorem dX6_answer_17 : decode cX6_answer 17 = .ok (.ifCond .eq 12, 3) := by decide +kernel
theorem dX6_answer_20 : decode cX6_answer 20 = .ok (.aload_n 0, 1) := by decide +kernel
theorem dX6_answer_21 : decode cX6_answer 21 = .ok (.getfield 41, 3) := by decide +kernel
theorem dX6_answer_24 : decode cX6_answer 24 = .ok (.iload_n 1, 1) := by decide +kernel
theorem dX6_answer_25 : decode cX6_answer 25 = .ok (.iaload, 1) := by decide +kernel
theorem dX6_answer_26 : decode cX6_answer 26 = .ok (.goto 5, 3) := by decide +kernel
theorem dX6_answer_29 : decode cX6_answer 29 = .ok (.bipush (-2), 2) := by decide +kernel
theorem dX6_answer_31 : decode cX6_answer 31 = .ok (.ireturn, 1) := by decide +kernel
theorem dX6_answered_0 : decode cX6_answered 0 = .ok (.iload_n 1, 1) := by decide +kernel
theorem dX6_answered_1 : decode cX6_answered 1 = .ok (.aload_n 0, 1) := by decide +kernel
theorem dX6_answered_2 : decode cX6_answered 2 = .ok (.getfield 124, 3) := by decide +kernel
theorem dX6_answered_5 : decode cX6_answered 5 = .ok (.invokestatic 120, 3) := by decide +kernel
theorem dX6_answered_8 : decode cX6_answered 8 = .ok (.ifCond .eq 16, 3) := by decide +kernel
theorem dX6_answered_11 : decode cX6_answered 11 = .ok (.aload_n 0, 1) := by decide +kernel
theorem dX6_answered_12 : decode cX6_answered 12 = .ok (.getfield 38, 3) := by decide +kernel
theorem dX6_answered_15 : decode cX6_answered 15 = .ok (.iload_n 1, 1) := by decide +kernel
theorem dX6_answered_16 : decode cX6_answered 16 = .ok (.baload, 1) := by decide +kernel
theorem dX6_answered_17 : decode cX6_answered 17 = .ok (.ifCond .eq 7, 3) := by decide +kernel
theorem dX6_answered_20 : decode cX6_answered 20 = .ok (.iconst 1, 1) := by decide +kernel
theorem dX6_answered_21 : decode cX6_answered 21 = .ok (.goto 4, 3) := by decide +kernel
theorem dX6_answered_24 : decode cX6_answered 24 = .ok (.iconst 0, 1) := by decide +kernel
theorem dX6_answered_25 : decode cX6_answered 25 = .ok (.ireturn, 1) := by decide +kernel
theorem dX6_time_0 : decode cX6_time 0 = .ok (.iload_n 1, 1) := by decide +kernel
theorem dX6_time_1 : decode cX6_time 1 = .ok (.aload_n 0, 1) := by decide +kernel
theorem dX6_time_2 : decode cX6_time 2 = .ok (.getfield 124, 3) := by decide +kernel
theorem dX6_time_5 : decode cX6_time 5 = .ok (.invokestatic 120, 3) := by decide +kernel
theorem dX6_time_8 : decode cX6_time 8 = .ok (.ifCond .eq 22, 3) := by decide +kernel
theorem dX6_time_11 : decode cX6_time 11 = .ok (.iload_n 2, 1) := by decide +kernel
theorem dX6_time_12 : decode cX6_time 12 = .ok (.aload_n 0, 1) := by decide +kernel
theorem dX6_time_13 : decode cX6_time 13 = .ok (.getfield 101, 3) := by decide +kernel
theorem dX6_time_16 : decode cX6_time 16 = .ok (.invokestatic 120, 3) := by decide +kernel
theorem dX6_time_19 : decode cX6_time 19 = .ok (.ifCond .eq 11, 3) := by decide +kernel
theorem dX6_time_22 : decode cX6_time 22 = .ok (.iload_n 3, 1) := by decide +kernel
theorem dX6_time_23 : decode cX6_time 23 = .ok (.iconst 3, 1) := by decide +kernel
theorem dX6_time_24 : decode cX6_time 24 = .ok (.invokestatic 120, 3) := by decide +kernel
theorem dX6_time_27 : decode cX6_time 27 = .ok (.ifCond .ne 5, 3) := by decide +kernel
theorem dX6_time_30 : decode cX6_time 30 = .ok (.iconst (-1), 1) := by decide +kernel
theorem dX6_time_31 : decode cX6_time 31 = .ok (.ireturn, 1) := by decide +kernel
theorem dX6_time_32 : decode cX6_time 32 = .ok (.iload_n 3, 1) := by decide +kernel
theorem dX6_time_33 : decode cX6_time 33 = .ok (.iconst 2, 1) := by decide +kernel
theorem dX6_time_34 : decode cX6_time 34 = .ok (.if_icmp .ne 22, 3) := by decide +kernel
theorem dX6_time_37 : decode cX6_time 37 = .ok (.aload_n 0, 1) := by decide +kernel
theorem dX6_time_38 : decode cX6_time 38 = .ok (.getfield 59, 3) := by decide +kernel
theorem dX6_time_41 : decode cX6_time 41 = .ok (.iload_n 2, 1) := by decide +kernel
theorem dX6_time_42 : decode cX6_time 42 = .ok (.iload_n 1, 1) := by decide +kernel
theorem dX6_time_43 : decode cX6_time 43 = .ok (.invokestatic 105, 3) := by decide +kernel
theorem dX6_time_46 : decode cX6_time 46 = .ok (.baload, 1) := by decide +kernel
theorem dX6_time_47 : decode cX6_time 47 = .ok (.ifCond .eq 7, 3) := by decide +kernel
theorem dX6_time_50 : decode cX6_time 50 = .ok (.iconst 1, 1) := by decide +kernel
theorem dX6_time_51 : decode cX6_time 51 = .ok (.goto 4, 3) := by decide +kernel
theorem dX6_time_54 : decode cX6_time 54 = .ok (.iconst 0, 1) := by decide +kernel
theorem dX6_time_55 : decode cX6_time 55 = .ok (.ireturn, 1) := by decide +kernel
theorem dX6_time_56 : decode cX6_time 56 = .ok (.iload_n 3, 1) := by decide +kernel
theorem dX6_time_57 : decode cX6_time 57 = .ok (.ifCond .ne 17, 3) := by decide +kernel
theorem dX6_time_60 : decode cX6_time 60 = .ok (.aload_n 0, 1) := by decide +kernel
theorem dX6_time_61 : decode cX6_time 61 = .ok (.getfield 62, 3) := by decide +kernel
theorem dX6_time_64 : decode cX6_time 64 = .ok (.iload_n 2, 1) := by decide +kernel
theorem dX6_time_65 : decode cX6_time 65 = .ok (.iload_n 1, 1) := by decide +kernel
theorem dX6_time_66 : decode cX6_time 66 = .ok (.iload_n 2, 1) := by decide +kernel
theorem dX6_time_67 : decode cX6_time 67 = .ok (.invokestatic 131, 3) := by decide +kernel
theorem dX6_time_70 : decode cX6_time 70 = .ok (.iaload, 1) := by decide +kernel
theorem dX6_time_71 : decode cX6_time 71 = .ok (.goto 13, 3) := by decide +kernel
theorem dX6_time_74 : decode cX6_time 74 = .ok (.aload_n 0, 1) := by decide +kernel
theorem dX6_time_75 : decode cX6_time 75 = .ok (.getfield 50, 3) := by decide +kernel
theorem dX6_time_78 : decode cX6_time 78 = .ok (.iload_n 2, 1) := by decide +kernel
theorem dX6_time_79 : decode cX6_time 79 = .ok (.iload_n 1, 1) := by decide +kernel
theorem dX6_time_80 : decode cX6_time 80 = .ok (.invokestatic 105, 3) := by decide +kernel
theorem dX6_time_83 : decode cX6_time 83 = .ok (.iaload, 1) := by decide +kernel
theorem dX6_time_84 : decode cX6_time 84 = .ok (.istore 4, 2) := by decide +kernel
theorem dX6_time_86 : decode cX6_time 86 = .ok (.iload 4, 2) := by decide +kernel
theorem dX6_time_88 : decode cX6_time 88 = .ok (.ifCond .ne 7, 3) := by decide +kernel
theorem dX6_time_91 : decode cX6_time 91 = .ok (.iconst (-1), 1) := by decide +kernel
theorem dX6_time_92 : decode cX6_time 92 = .ok (.goto 5, 3) := by decide +kernel
theorem dX6_time_95 : decode cX6_time 95 = .ok (.iload 4, 2) := by decide +kernel
theorem dX6_time_97 : decode cX6_time 97 = .ok (.ireturn, 1) := by decide +kernel
theorem dX6_value_0 : decode cX6_value 0 = .ok (.iload_n 1, 1) := by decide +kernel
theorem dX6_value_1 : decode cX6_value 1 = .ok (.bipush 16, 2) := by decide +kernel
theorem dX6_value_3 : decode cX6_value 3 = .ok (.invokestatic 120, 3) := by decide +kernel
theorem dX6_value_6 : decode cX6_value 6 = .ok (.ifCond .eq 12, 3) := by decide +kernel
theorem dX6_value_9 : decode cX6_value 9 = .ok (.aload_n 0, 1) := by decide +kernel
theorem dX6_value_10 : decode cX6_value 10 = .ok (.getfield 17, 3) := by decide +kernel
theorem dX6_value_13 : decode cX6_value 13 = .ok (.iload_n 1, 1) := by decide +kernel
theorem dX6_value_14 : decode cX6_value 14 = .ok (.iaload, 1) := by decide +kernel
theorem dX6_value_15 : decode cX6_value 15 = .ok (.goto 4, 3) := by decide +kernel
theorem dX6_value_18 : decode cX6_value 18 = .ok (.iconst (-1), 1) := by decide +kernel
theorem dX6_value_19 : decode cX6_value 19 = .ok (.ireturn, 1) := by decide +kernel
theorem dX6_clock_0 : decode cX6_clock 0 = .ok (.iload_n 1, 1) := by decide +kernel
theorem dX6_clock_1 : decode cX6_clock 1 = .ok (.aload_n 0, 1) := by decide +kernel
theorem dX6_clock_2 : decode cX6_clock 2 = .ok (.getfield 101, 3) := by decide +kernel
theorem dX6_clock_5 : decode cX6_clock 5 = .ok (.invokestatic 120, 3) := by decide +kernel
theorem dX6_clock_8 : decode cX6_clock 8 = .ok (.ifCond .eq 12, 3) := by decide +kernel
theorem dX6_clock_11 : decode cX6_clock 11 = .ok (.aload_n 0, 1) := by decide +kernel
theorem dX6_clock_12 : decode cX6_clock 12 = .ok (.getfield 7, 3) := by decide +kernel
theorem dX6_clock_15 : decode cX6_clock 15 = .ok (.iload_n 1, 1) := by decide +kernel
theorem dX6_clock_16 : decode cX6_clock 16 = .ok (.iaload, 1) := by decide +kernel
theorem dX6_clock_17 : decode cX6_clock 17 = .ok (.goto 4, 3) := by decide +kernel
theorem dX6_clock_20 : decode cX6_clock 20 = .ok (.iconst (-1), 1) := by decide +kernel
theorem dX6_clock_21 : decode cX6_clock 21 = .ok (.ireturn, 1) := by decide +kernel
theorem dX6_seen_0 : decode cX6_seen 0 = .ok (.iload_n 1, 1) := by decide +kernel
theorem dX6_seen_1 : decode cX6_seen 1 = .ok (.iconst 4, 1) := by decide +kernel
theorem dX6_seen_2 : decode cX6_seen 2 = .ok (.invokestatic 120, 3) := by decide +kernel
theorem dX6_seen_5 : decode cX6_seen 5 = .ok (.ifCond .eq 12, 3) := by decide +kernel
theorem dX6_seen_8 : decode cX6_seen 8 = .ok (.aload_n 0, 1) := by decide +kernel
theorem dX6_seen_9 : decode cX6_seen 9 = .ok (.getfield 44, 3) := by decide +kernel
theorem dX6_seen_12 : decode cX6_seen 12 = .ok (.iload_n 1, 1) := by decide +kernel
theorem dX6_seen_13 : decode cX6_seen 13 = .ok (.iaload, 1) := by decide +kernel
theorem dX6_seen_14 : decode cX6_seen 14 = .ok (.goto 4, 3) := by decide +kernel
theorem dX6_seen_17 : decode cX6_seen 17 = .ok (.iconst (-1), 1) := by decide +kernel
theorem dX6_seen_18 : decode cX6_seen 18 = .ok (.ireturn, 1) := by decide +kernel
theorem dX6_agree_0 : decode cX6_agree 0 = .ok (.iconst 1, 1) := by decide +kernel
theorem dX6_agree_1 : decode cX6_agree 1 = .ok (.istore_n 1, 1) := by decide +kernel
theorem dX6_agree_2 : decode cX6_agree 2 = .ok (.iconst 0, 1) := by decide +kernel
theorem dX6_agree_3 : decode cX6_agree 3 = .ok (.istore_n 2, 1) := by decide +kernel
theorem dX6_agree_4 : decode cX6_agree 4 = .ok (.iload_n 2, 1) := by decide +kernel
theorem dX6_agree_5 : decode cX6_agree 5 = .ok (.aload_n 0, 1) := by decide +kernel
theorem dX6_agree_6 : decode cX6_agree 6 = .ok (.getfield 101, 3) := by decide +kernel
theorem dX6_agree_9 : decode cX6_agree 9 = .ok (.if_icmp .ge 120, 3) := by decide +kernel
theorem dX6_agree_12 : decode cX6_agree 12 = .ok (.iconst 1, 1) := by decide +kernel
theorem dX6_agree_13 : decode cX6_agree 13 = .ok (.istore_n 3, 1) := by decide +kernel
theorem dX6_agree_14 : decode cX6_agree 14 = .ok (.iload_n 3, 1) := by decide +kernel
theorem dX6_agree_15 : decode cX6_agree 15 = .ok (.aload_n 0, 1) := by decide +kernel
theorem dX6_agree_16 : decode cX6_agree 16 = .ok (.getfield 74, 3) := by decide +kernel
theorem dX6_agree_19 : decode cX6_agree 19 = .ok (.iload_n 2, 1) := by decide +kernel
theorem dX6_agree_20 : decode cX6_agree 20 = .ok (.iaload, 1) := by decide +kernel
theorem dX6_agree_21 : decode cX6_agree 21 = .ok (.if_icmp .ge 102, 3) := by decide +kernel
theorem dX6_agree_24 : decode cX6_agree 24 = .ok (.aload_n 0, 1) := by decide +kernel
theorem dX6_agree_25 : decode cX6_agree 25 = .ok (.getfield 77, 3) := by decide +kernel
theorem dX6_agree_28 : decode cX6_agree 28 = .ok (.iload_n 2, 1) := by decide +kernel
theorem dX6_agree_29 : decode cX6_agree 29 = .ok (.iload_n 3, 1) := by decide +kernel
theorem dX6_agree_30 : decode cX6_agree 30 = .ok (.invokestatic 105, 3) := by decide +kernel
theorem dX6_agree_33 : decode cX6_agree 33 = .ok (.iaload, 1) := by decide +kernel
theorem dX6_agree_34 : decode cX6_agree 34 = .ok (.istore 4, 2) := by decide +kernel
theorem dX6_agree_36 : decode cX6_agree 36 = .ok (.aload_n 0, 1) := by decide +kernel
theorem dX6_agree_37 : decode cX6_agree 37 = .ok (.getfield 77, 3) := by decide +kernel
theorem dX6_agree_40 : decode cX6_agree 40 = .ok (.iload_n 2, 1) := by decide +kernel
theorem dX6_agree_41 : decode cX6_agree 41 = .ok (.iload_n 3, 1) := by decide +kernel
theorem dX6_agree_42 : decode cX6_agree 42 = .ok (.iconst 1, 1) := by decide +kernel
theorem dX6_agree_43 : decode cX6_agree 43 = .ok (.isub, 1) := by decide +kernel
theorem dX6_agree_44 : decode cX6_agree 44 = .ok (.invokestatic 105, 3) := by decide +kernel
theorem dX6_agree_47 : decode cX6_agree 47 = .ok (.iaload, 1) := by decide +kernel
theorem dX6_agree_48 : decode cX6_agree 48 = .ok (.istore 5, 2) := by decide +kernel
theorem dX6_agree_50 : decode cX6_agree 50 = .ok (.iload_n 1, 1) := by decide +kernel
theorem dX6_agree_51 : decode cX6_agree 51 = .ok (.ifCond .eq 64, 3) := by decide +kernel
theorem dX6_agree_54 : decode cX6_agree 54 = .ok (.aload_n 0, 1) := by decide +kernel
theorem dX6_agree_55 : decode cX6_agree 55 = .ok (.getfield 50, 3) := by decide +kernel
theorem dX6_agree_58 : decode cX6_agree 58 = .ok (.iload_n 2, 1) := by decide +kernel
theorem dX6_agree_59 : decode cX6_agree 59 = .ok (.iload 5, 2) := by decide +kernel
theorem dX6_agree_61 : decode cX6_agree 61 = .ok (.invokestatic 105, 3) := by decide +kernel
theorem dX6_agree_64 : decode cX6_agree 64 = .ok (.iaload, 1) := by decide +kernel
theorem dX6_agree_65 : decode cX6_agree 65 = .ok (.aload_n 0, 1) := by decide +kernel
theorem dX6_agree_66 : decode cX6_agree 66 = .ok (.getfield 50, 3) := by decide +kernel
theorem dX6_agree_69 : decode cX6_agree 69 = .ok (.iload_n 2, 1) := by decide +kernel
theorem dX6_agree_70 : decode cX6_agree 70 = .ok (.iload 4, 2) := by decide +kernel
theorem dX6_agree_72 : decode cX6_agree 72 = .ok (.invokestatic 105, 3) := by decide +kernel
theorem dX6_agree_75 : decode cX6_agree 75 = .ok (.iaload, 1) := by decide +kernel
theorem dX6_agree_76 : decode cX6_agree 76 = .ok (.if_icmp .lt 35, 3) := by decide +kernel
theorem dX6_agree_79 : decode cX6_agree 79 = .ok (.aload_n 0, 1) := by decide +kernel
theorem dX6_agree_80 : decode cX6_agree 80 = .ok (.getfield 50, 3) := by decide +kernel
theorem dX6_agree_83 : decode cX6_agree 83 = .ok (.iload_n 2, 1) := by decide +kernel
theorem dX6_agree_84 : decode cX6_agree 84 = .ok (.iload 5, 2) := by decide +kernel
theorem dX6_agree_86 : decode cX6_agree 86 = .ok (.invokestatic 105, 3) := by decide +kernel
theorem dX6_agree_89 : decode cX6_agree 89 = .ok (.iaload, 1) := by decide +kernel
theorem dX6_agree_90 : decode cX6_agree 90 = .ok (.aload_n 0, 1) := by decide +kernel
theorem dX6_agree_91 : decode cX6_agree 91 = .ok (.getfield 50, 3) := by decide +kernel
theorem dX6_agree_94 : decode cX6_agree 94 = .ok (.iload_n 2, 1) := by decide +kernel
theorem dX6_agree_95 : decode cX6_agree 95 = .ok (.iload 4, 2) := by decide +kernel
theorem dX6_agree_97 : decode cX6_agree 97 = .ok (.invokestatic 105, 3) := by decide +kernel
theorem dX6_agree_100 : decode cX6_agree 100 = .ok (.iaload, 1) := by decide +kernel
theorem dX6_agree_101 : decode cX6_agree 101 = .ok (.if_icmp .ne 14, 3) := by decide +kernel
theorem dX6_agree_104 : decode cX6_agree 104 = .ok (.iload 5, 2) := by decide +kernel
theorem dX6_agree_106 : decode cX6_agree 106 = .ok (.iload 4, 2) := by decide +kernel
theorem dX6_agree_108 : decode cX6_agree 108 = .ok (.if_icmp .ge 7, 3) := by decide +kernel
theorem dX6_agree_111 : decode cX6_agree 111 = .ok (.iconst 1, 1) := by decide +kernel
theorem dX6_agree_112 : decode cX6_agree 112 = .ok (.goto 4, 3) := by decide +kernel
theorem dX6_agree_115 : decode cX6_agree 115 = .ok (.iconst 0, 1) := by decide +kernel
theorem dX6_agree_116 : decode cX6_agree 116 = .ok (.istore_n 1, 1) := by decide +kernel
theorem dX6_agree_117 : decode cX6_agree 117 = .ok (.iinc 3 1, 3) := by decide +kernel
theorem dX6_agree_120 : decode cX6_agree 120 = .ok (.goto (-106), 3) := by decide +kernel
theorem dX6_agree_123 : decode cX6_agree 123 = .ok (.iinc 2 1, 3) := by decide +kernel
theorem dX6_agree_126 : decode cX6_agree 126 = .ok (.goto (-122), 3) := by decide +kernel
theorem dX6_agree_129 : decode cX6_agree 129 = .ok (.iload_n 1, 1) := by decide +kernel
theorem dX6_agree_130 : decode cX6_agree 130 = .ok (.ireturn, 1) := by decide +kernel
theorem dX6_doneCount_0 : decode cX6_doneCount 0 = .ok (.iconst 0, 1) := by decide +kernel
theorem dX6_doneCount_1 : decode cX6_doneCount 1 = .ok (.istore_n 1, 1) := by decide +kernel
theorem dX6_doneCount_2 : decode cX6_doneCount 2 = .ok (.iconst 0, 1) := by decide +kernel
theorem dX6_doneCount_3 : decode cX6_doneCount 3 = .ok (.istore_n 2, 1) := by decide +kernel
theorem dX6_doneCount_4 : decode cX6_doneCount 4 = .ok (.iload_n 2, 1) := by decide +kernel
theorem dX6_doneCount_5 : decode cX6_doneCount 5 = .ok (.aload_n 0, 1) := by decide +kernel
theorem dX6_doneCount_6 : decode cX6_doneCount 6 = .ok (.getfield 124, 3) := by decide +kernel
theorem dX6_doneCount_9 : decode cX6_doneCount 9 = .ok (.if_icmp .ge 75, 3) := by decide +kernel
theorem dX6_doneCount_12 : decode cX6_doneCount 12 = .ok (.iconst 1, 1) := by decide +kernel
theorem dX6_doneCount_13 : decode cX6_doneCount 13 = .ok (.istore_n 3, 1) := by decide +kernel
theorem dX6_doneCount_14 : decode cX6_doneCount 14 = .ok (.iconst 0, 1) := by decide +kernel
theorem dX6_doneCount_15 : decode cX6_doneCount 15 = .ok (.istore 4, 2) := by decide +kernel
theorem dX6_doneCount_17 : decode cX6_doneCount 17 = .ok (.iload 4, 2) := by decide +kernel
theorem dX6_doneCount_19 : decode cX6_doneCount 19 = .ok (.aload_n 0, 1) := by decide +kernel
theorem dX6_doneCount_20 : decode cX6_doneCount 20 = .ok (.getfield 101, 3) := by decide +kernel
theorem dX6_doneCount_23 : decode cX6_doneCount 23 = .ok (.if_icmp .ge 43, 3) := by decide +kernel
theorem dX6_doneCount_26 : decode cX6_doneCount 26 = .ok (.iload_n 3, 1) := by decide +kernel
theorem dX6_doneCount_27 : decode cX6_doneCount 27 = .ok (.ifCond .eq 31, 3) := by decide +kernel
theorem dX6_doneCount_30 : decode cX6_doneCount 30 = .ok (.aload_n 0, 1) := by decide +kernel
theorem dX6_doneCount_31 : decode cX6_doneCount 31 = .ok (.iload 4, 2) := by decide +kernel
theorem dX6_doneCount_33 : decode cX6_doneCount 33 = .ok (.iload_n 2, 1) := by decide +kernel
theorem dX6_doneCount_34 : decode cX6_doneCount 34 = .ok (.invokevirtual 112, 3) := by decide +kernel
theorem dX6_doneCount_37 : decode cX6_doneCount 37 = .ok (.ifCond .eq 17, 3) := by decide +kernel
theorem dX6_doneCount_40 : decode cX6_doneCount 40 = .ok (.aload_n 0, 1) := by decide +kernel
theorem dX6_doneCount_41 : decode cX6_doneCount 41 = .ok (.getfield 59, 3) := by decide +kernel
theorem dX6_doneCount_44 : decode cX6_doneCount 44 = .ok (.iload 4, 2) := by decide +kernel
theorem dX6_doneCount_46 : decode cX6_doneCount 46 = .ok (.iload_n 2, 1) := by decide +kernel
theorem dX6_doneCount_47 : decode cX6_doneCount 47 = .ok (.invokestatic 105, 3) := by decide +kernel
theorem dX6_doneCount_50 : decode cX6_doneCount 50 = .ok (.baload, 1) := by decide +kernel
theorem dX6_doneCount_51 : decode cX6_doneCount 51 = .ok (.ifCond .eq 7, 3) := by decide +kernel
theorem dX6_doneCount_54 : decode cX6_doneCount 54 = .ok (.iconst 1, 1) := by decide +kernel
theorem dX6_doneCount_55 : decode cX6_doneCount 55 = .ok (.goto 4, 3) := by decide +kernel
theorem dX6_doneCount_58 : decode cX6_doneCount 58 = .ok (.iconst 0, 1) := by decide +kernel
theorem dX6_doneCount_59 : decode cX6_doneCount 59 = .ok (.istore_n 3, 1) := by decide +kernel
theorem dX6_doneCount_60 : decode cX6_doneCount 60 = .ok (.iinc 4 1, 3) := by decide +kernel
theorem dX6_doneCount_63 : decode cX6_doneCount 63 = .ok (.goto (-46), 3) := by decide +kernel
theorem dX6_doneCount_66 : decode cX6_doneCount 66 = .ok (.iload_n 1, 1) := by decide +kernel
theorem dX6_doneCount_67 : decode cX6_doneCount 67 = .ok (.iload_n 3, 1) := by decide +kernel
theorem dX6_doneCount_68 : decode cX6_doneCount 68 = .ok (.ifCond .eq 7, 3) := by decide +kernel
theorem dX6_doneCount_71 : decode cX6_doneCount 71 = .ok (.iconst 1, 1) := by decide +kernel
theorem dX6_doneCount_72 : decode cX6_doneCount 72 = .ok (.goto 4, 3) := by decide +kernel
theorem dX6_doneCount_75 : decode cX6_doneCount 75 = .ok (.iconst 0, 1) := by decide +kernel
theorem dX6_doneCount_76 : decode cX6_doneCount 76 = .ok (.iadd, 1) := by decide +kernel
theorem dX6_doneCount_77 : decode cX6_doneCount 77 = .ok (.istore_n 1, 1) := by decide +kernel
theorem dX6_doneCount_78 : decode cX6_doneCount 78 = .ok (.iinc 2 1, 3) := by decide +kernel
theorem dX6_doneCount_81 : decode cX6_doneCount 81 = .ok (.goto (-77), 3) := by decide +kernel
theorem dX6_doneCount_84 : decode cX6_doneCount 84 = .ok (.iload_n 1, 1) := by decide +kernel
theorem dX6_doneCount_85 : decode cX6_doneCount 85 = .ok (.ireturn, 1) := by decide +kernel
theorem dX6_count_0 : decode cX6_count 0 = .ok (.iconst 0, 1) := by decide +kernel
theorem dX6_count_1 : decode cX6_count 1 = .ok (.istore_n 2, 1) := by decide +kernel
theorem dX6_count_2 : decode cX6_count 2 = .ok (.iconst 0, 1) := by decide +kernel
theorem dX6_count_3 : decode cX6_count 3 = .ok (.istore_n 3, 1) := by decide +kernel
theorem dX6_count_4 : decode cX6_count 4 = .ok (.iload_n 3, 1) := by decide +kernel
theorem dX6_count_5 : decode cX6_count 5 = .ok (.aload_n 0, 1) := by decide +kernel
theorem dX6_count_6 : decode cX6_count 6 = .ok (.getfield 124, 3) := by decide +kernel
theorem dX6_count_9 : decode cX6_count 9 = .ok (.if_icmp .ge 26, 3) := by decide +kernel
theorem dX6_count_12 : decode cX6_count 12 = .ok (.iload_n 2, 1) := by decide +kernel
theorem dX6_count_13 : decode cX6_count 13 = .ok (.aload_n 0, 1) := by decide +kernel
theorem dX6_count_14 : decode cX6_count 14 = .ok (.getfield 38, 3) := by decide +kernel
theorem dX6_count_17 : decode cX6_count 17 = .ok (.iload_n 3, 1) := by decide +kernel
theorem dX6_count_18 : decode cX6_count 18 = .ok (.baload, 1) := by decide +kernel
theorem dX6_count_19 : decode cX6_count 19 = .ok (.ifCond .eq 7, 3) := by decide +kernel
theorem dX6_count_22 : decode cX6_count 22 = .ok (.iconst 1, 1) := by decide +kernel
theorem dX6_count_23 : decode cX6_count 23 = .ok (.goto 4, 3) := by decide +kernel
theorem dX6_count_26 : decode cX6_count 26 = .ok (.iconst 0, 1) := by decide +kernel
theorem dX6_count_27 : decode cX6_count 27 = .ok (.iadd, 1) := by decide +kernel
theorem dX6_count_28 : decode cX6_count 28 = .ok (.istore_n 2, 1) := by decide +kernel
theorem dX6_count_29 : decode cX6_count 29 = .ok (.iinc 3 1, 3) := by decide +kernel
theorem dX6_count_32 : decode cX6_count 32 = .ok (.goto (-28), 3) := by decide +kernel
theorem dX6_count_35 : decode cX6_count 35 = .ok (.iload_n 1, 1) := by decide +kernel
theorem dX6_count_36 : decode cX6_count 36 = .ok (.ifCond .ne 10, 3) := by decide +kernel
theorem dX6_count_39 : decode cX6_count 39 = .ok (.aload_n 0, 1) := by decide +kernel
theorem dX6_count_40 : decode cX6_count 40 = .ok (.getfield 101, 3) := by decide +kernel
theorem dX6_count_43 : decode cX6_count 43 = .ok (.goto 49, 3) := by decide +kernel
theorem dX6_count_46 : decode cX6_count 46 = .ok (.iload_n 1, 1) := by decide +kernel
theorem dX6_count_47 : decode cX6_count 47 = .ok (.iconst 1, 1) := by decide +kernel
theorem dX6_count_48 : decode cX6_count 48 = .ok (.if_icmp .ne 10, 3) := by decide +kernel
theorem dX6_count_51 : decode cX6_count 51 = .ok (.aload_n 0, 1) := by decide +kernel
theorem dX6_count_52 : decode cX6_count 52 = .ok (.getfield 124, 3) := by decide +kernel
theorem dX6_count_55 : decode cX6_count 55 = .ok (.goto 37, 3) := by decide +kernel
theorem dX6_count_58 : decode cX6_count 58 = .ok (.iload_n 1, 1) := by decide +kernel
theorem dX6_count_59 : decode cX6_count 59 = .ok (.iconst 2, 1) := by decide +kernel
theorem dX6_count_60 : decode cX6_count 60 = .ok (.if_icmp .ne 10, 3) := by decide +kernel
theorem dX6_count_63 : decode cX6_count 63 = .ok (.aload_n 0, 1) := by decide +kernel
theorem dX6_count_64 : decode cX6_count 64 = .ok (.getfield 139, 3) := by decide +kernel
theorem dX6_count_67 : decode cX6_count 67 = .ok (.goto 25, 3) := by decide +kernel
theorem dX6_count_70 : decode cX6_count 70 = .ok (.iload_n 1, 1) := by decide +kernel
theorem dX6_count_71 : decode cX6_count 71 = .ok (.iconst 3, 1) := by decide +kernel
theorem dX6_count_72 : decode cX6_count 72 = .ok (.if_icmp .ne 7, 3) := by decide +kernel
theorem dX6_count_75 : decode cX6_count 75 = .ok (.iload_n 2, 1) := by decide +kernel
theorem dX6_count_76 : decode cX6_count 76 = .ok (.goto 16, 3) := by decide +kernel
theorem dX6_count_79 : decode cX6_count 79 = .ok (.iload_n 1, 1) := by decide +kernel
theorem dX6_count_80 : decode cX6_count 80 = .ok (.iconst 4, 1) := by decide +kernel
theorem dX6_count_81 : decode cX6_count 81 = .ok (.if_icmp .ne 10, 3) := by decide +kernel
theorem dX6_count_84 : decode cX6_count 84 = .ok (.aload_n 0, 1) := by decide +kernel
theorem dX6_count_85 : decode cX6_count 85 = .ok (.invokevirtual 162, 3) := by decide +kernel
theorem dX6_count_88 : decode cX6_count 88 = .ok (.goto 4, 3) := by decide +kernel
theorem dX6_count_91 : decode cX6_count 91 = .ok (.iconst (-1), 1) := by decide +kernel
theorem dX6_count_92 : decode cX6_count 92 = .ok (.ireturn, 1) := by decide +kernel
theorem dJ6_compare_7cf53_0 : decode cJ6_compare_7cf53 0 = .ok (.iload_n 0, 1) := by decide +kernel
theorem dJ6_compare_7cf53_1 : decode cJ6_compare_7cf53 1 = .ok (.iload_n 1, 1) := by decide +kernel
theorem dJ6_compare_7cf53_2 : decode cJ6_compare_7cf53 2 = .ok (.if_icmp .ge 7, 3) := by decide +kernel
theorem dJ6_compare_7cf53_5 : decode cJ6_compare_7cf53 5 = .ok (.iconst (-1), 1) := by decide +kernel
theorem dJ6_compare_7cf53_6 : decode cJ6_compare_7cf53 6 = .ok (.goto 13, 3) := by decide +kernel
theorem dJ6_compare_7cf53_9 : decode cJ6_compare_7cf53 9 = .ok (.iload_n 0, 1) := by decide +kernel
theorem dJ6_compare_7cf53_10 : decode cJ6_compare_7cf53 10 = .ok (.iload_n 1, 1) := by decide +kernel
theorem dJ6_compare_7cf53_11 : decode cJ6_compare_7cf53 11 = .ok (.if_icmp .ne 7, 3) := by decide +kernel
theorem dJ6_compare_7cf53_14 : decode cJ6_compare_7cf53 14 = .ok (.iconst 0, 1) := by decide +kernel
theorem dJ6_compare_7cf53_15 : decode cJ6_compare_7cf53 15 = .ok (.goto 4, 3) := by decide +kernel
theorem dJ6_compare_7cf53_18 : decode cJ6_compare_7cf53 18 = .ok (.iconst 1, 1) := by decide +kernel
theorem dJ6_compare_7cf53_19 : decode cJ6_compare_7cf53 19 = .ok (.ireturn, 1) := by decide +kernel
theorem dJ9_max_7cf53_0 : decode cJ9_max_7cf53 0 = .ok (.iload_n 0, 1) := by decide +kernel
theorem dJ9_max_7cf53_1 : decode cJ9_max_7cf53 1 = .ok (.iload_n 1, 1) := by decide +kernel
theorem dJ9_max_7cf53_2 : decode cJ9_max_7cf53 2 = .ok (.if_icmp .lt 7, 3) := by decide +kernel
theorem dJ9_max_7cf53_5 : decode cJ9_max_7cf53 5 = .ok (.iload_n 0, 1) := by decide +kernel
theorem dJ9_max_7cf53_6 : decode cJ9_max_7cf53 6 = .ok (.goto 4, 3) := by decide +kernel
theorem dJ9_max_7cf53_9 : decode cJ9_max_7cf53 9 = .ok (.iload_n 1, 1) := by decide +kernel
theorem dJ9_max_7cf53_10 : decode cJ9_max_7cf53 10 = .ok (.ireturn, 1) := by decide +kernel
theorem dJ9_min_7cf53_0 : decode cJ9_min_7cf53 0 = .ok (.iload_n 0, 1) := by decide +kernel
theorem dJ9_min_7cf53_1 : decode cJ9_min_7cf53 1 = .ok (.iload_n 1, 1) := by decide +kernel
theorem dJ9_min_7cf53_2 : decode cJ9_min_7cf53 2 = .ok (.if_icmp .gt 7, 3) := by decide +kernel
theorem dJ9_min_7cf53_5 : decode cJ9_min_7cf53 5 = .ok (.iload_n 0, 1) := by decide +kernel
end
section
theorem dJ9_min_7cf53_6 : decode cJ9_min_7cf53 6 = .ok (.goto 4, 3) := by decide +kernel
theorem dJ9_min_7cf53_9 : decode cJ9_min_7cf53 9 = .ok (.iload_n 1, 1) := by decide +kernel
theorem dJ9_min_7cf53_10 : decode cJ9_min_7cf53 10 = .ok (.ireturn, 1) := by decide +kernel
theorem dJ7_fill_53178_0 : decode cJ7_fill_53178 0 = .ok (.iconst 0, 1) := by decide +kernel
theorem dJ7_fill_53178_1 : decode cJ7_fill_53178 1 = .ok (.istore_n 2, 1) := by decide +kernel
theorem dJ7_fill_53178_2 : decode cJ7_fill_53178 2 = .ok (.aload_n 0, 1) := by decide +kernel
theorem dJ7_fill_53178_3 : decode cJ7_fill_53178 3 = .ok (.arraylength, 1) := by decide +kernel
theorem dJ7_fill_53178_4 : decode cJ7_fill_53178 4 = .ok (.istore_n 3, 1) := by decide +kernel
theorem dJ7_fill_53178_5 : decode cJ7_fill_53178 5 = .ok (.iload_n 2, 1) := by decide +kernel
theorem dJ7_fill_53178_6 : decode cJ7_fill_53178 6 = .ok (.iload_n 3, 1) := by decide +kernel
theorem dJ7_fill_53178_7 : decode cJ7_fill_53178 7 = .ok (.if_icmp .ge 13, 3) := by decide +kernel
theorem dJ7_fill_53178_10 : decode cJ7_fill_53178 10 = .ok (.aload_n 0, 1) := by decide +kernel
theorem dJ7_fill_53178_11 : decode cJ7_fill_53178 11 = .ok (.iload_n 2, 1) := by decide +kernel
theorem dJ7_fill_53178_12 : decode cJ7_fill_53178 12 = .ok (.iload_n 1, 1) := by decide +kernel
theorem dJ7_fill_53178_13 : decode cJ7_fill_53178 13 = .ok (.iastore, 1) := by decide +kernel
theorem dJ7_fill_53178_14 : decode cJ7_fill_53178 14 = .ok (.iinc 2 1, 3) := by decide +kernel
theorem dJ7_fill_53178_17 : decode cJ7_fill_53178 17 = .ok (.goto (-12), 3) := by decide +kernel
theorem dJ7_fill_53178_20 : decode cJ7_fill_53178 20 = .ok (.return_, 1) := by decide +kernel
theorem dL_cell_0 : decode cL_cell 0 = .ok (.iload_n 1, 1) := by decide +kernel
theorem dL_cell_1 : decode cL_cell 1 = .ok (.aload_n 0, 1) := by decide +kernel
theorem dL_cell_2 : decode cL_cell 2 = .ok (.arraylength, 1) := by decide +kernel
theorem dL_cell_3 : decode cL_cell 3 = .ok (.if_icmp .ge 9, 3) := by decide +kernel
theorem dL_cell_6 : decode cL_cell 6 = .ok (.aload_n 0, 1) := by decide +kernel
theorem dL_cell_7 : decode cL_cell 7 = .ok (.iload_n 1, 1) := by decide +kernel
theorem dL_cell_8 : decode cL_cell 8 = .ok (.iaload, 1) := by decide +kernel
theorem dL_cell_9 : decode cL_cell 9 = .ok (.goto 4, 3) := by decide +kernel
theorem dL_cell_12 : decode cL_cell 12 = .ok (.iconst 0, 1) := by decide +kernel
theorem dL_cell_13 : decode cL_cell 13 = .ok (.ireturn, 1) := by decide +kernel
theorem dL_law_0 : decode cL_law 0 = .ok (.new 7, 3) := by decide +kernel
theorem dL_law_3 : decode cL_law 3 = .ok (.dup, 1) := by decide +kernel
theorem dL_law_4 : decode cL_law 4 = .ok (.aload_n 0, 1) := by decide +kernel
theorem dL_law_5 : decode cL_law 5 = .ok (.iconst 0, 1) := by decide +kernel
theorem dL_law_6 : decode cL_law 6 = .ok (.invokestatic 9, 3) := by decide +kernel
theorem dL_law_9 : decode cL_law 9 = .ok (.invokespecial 15, 3) := by decide +kernel
theorem dL_law_12 : decode cL_law 12 = .ok (.astore_n 1, 1) := by decide +kernel
theorem dL_law_13 : decode cL_law 13 = .ok (.new 18, 3) := by decide +kernel
theorem dL_law_16 : decode cL_law 16 = .ok (.dup, 1) := by decide +kernel
theorem dL_law_17 : decode cL_law 17 = .ok (.aload_n 0, 1) := by decide +kernel
theorem dL_law_18 : decode cL_law 18 = .ok (.iconst 0, 1) := by decide +kernel
theorem dL_law_19 : decode cL_law 19 = .ok (.invokestatic 9, 3) := by decide +kernel
theorem dL_law_22 : decode cL_law 22 = .ok (.invokespecial 20, 3) := by decide +kernel
theorem dL_law_25 : decode cL_law 25 = .ok (.astore_n 2, 1) := by decide +kernel
theorem dL_law_26 : decode cL_law 26 = .ok (.iconst 1, 1) := by decide +kernel
theorem dL_law_27 : decode cL_law 27 = .ok (.istore_n 3, 1) := by decide +kernel
theorem dL_law_28 : decode cL_law 28 = .ok (.iload_n 3, 1) := by decide +kernel
theorem dL_law_29 : decode cL_law 29 = .ok (.aload_n 0, 1) := by decide +kernel
theorem dL_law_30 : decode cL_law 30 = .ok (.arraylength, 1) := by decide +kernel
theorem dL_law_31 : decode cL_law 31 = .ok (.bipush 6, 2) := by decide +kernel
theorem dL_law_33 : decode cL_law 33 = .ok (.isub, 1) := by decide +kernel
theorem dL_law_34 : decode cL_law 34 = .ok (.if_icmp .gt 519, 3) := by decide +kernel
theorem dL_law_37 : decode cL_law 37 = .ok (.aload_n 0, 1) := by decide +kernel
theorem dL_law_38 : decode cL_law 38 = .ok (.iload_n 3, 1) := by decide +kernel
theorem dL_law_39 : decode cL_law 39 = .ok (.iaload, 1) := by decide +kernel
theorem dL_law_40 : decode cL_law 40 = .ok (.bipush 15, 2) := by decide +kernel
theorem dL_law_42 : decode cL_law 42 = .ok (.iand, 1) := by decide +kernel
theorem dL_law_43 : decode cL_law 43 = .ok (.tableswitch 504 0 14 #[73, 136, 159, 182, 231, 264, 277, 310, 333, 356, 399, 422, 445, 468, 481], 73) := by decide +kernel
theorem dL_law_116 : decode cL_law 116 = .ok (.aload_n 1, 1) := by decide +kernel
theorem dL_law_117 : decode cL_law 117 = .ok (.aload_n 0, 1) := by decide +kernel
theorem dL_law_118 : decode cL_law 118 = .ok (.iload_n 3, 1) := by decide +kernel
theorem dL_law_119 : decode cL_law 119 = .ok (.iconst 1, 1) := by decide +kernel
theorem dL_law_120 : decode cL_law 120 = .ok (.iadd, 1) := by decide +kernel
theorem dL_law_121 : decode cL_law 121 = .ok (.iaload, 1) := by decide +kernel
theorem dL_law_122 : decode cL_law 122 = .ok (.aload_n 0, 1) := by decide +kernel
theorem dL_law_123 : decode cL_law 123 = .ok (.iload_n 3, 1) := by decide +kernel
theorem dL_law_124 : decode cL_law 124 = .ok (.iconst 2, 1) := by decide +kernel
theorem dL_law_125 : decode cL_law 125 = .ok (.iadd, 1) := by decide +kernel
theorem dL_law_126 : decode cL_law 126 = .ok (.iaload, 1) := by decide +kernel
theorem dL_law_127 : decode cL_law 127 = .ok (.aload_n 0, 1) := by decide +kernel
theorem dL_law_128 : decode cL_law 128 = .ok (.iload_n 3, 1) := by decide +kernel
theorem dL_law_129 : decode cL_law 129 = .ok (.iconst 3, 1) := by decide +kernel
theorem dL_law_130 : decode cL_law 130 = .ok (.iadd, 1) := by decide +kernel
theorem dL_law_131 : decode cL_law 131 = .ok (.iaload, 1) := by decide +kernel
theorem dL_law_132 : decode cL_law 132 = .ok (.aload_n 0, 1) := by decide +kernel
theorem dL_law_133 : decode cL_law 133 = .ok (.iload_n 3, 1) := by decide +kernel
theorem dL_law_134 : decode cL_law 134 = .ok (.iconst 4, 1) := by decide +kernel
theorem dL_law_135 : decode cL_law 135 = .ok (.iadd, 1) := by decide +kernel
theorem dL_law_136 : decode cL_law 136 = .ok (.iaload, 1) := by decide +kernel
theorem dL_law_137 : decode cL_law 137 = .ok (.aload_n 0, 1) := by decide +kernel
theorem dL_law_138 : decode cL_law 138 = .ok (.iload_n 3, 1) := by decide +kernel
theorem dL_law_139 : decode cL_law 139 = .ok (.iconst 5, 1) := by decide +kernel
theorem dL_law_140 : decode cL_law 140 = .ok (.iadd, 1) := by decide +kernel
theorem dL_law_141 : decode cL_law 141 = .ok (.iaload, 1) := by decide +kernel
theorem dL_law_142 : decode cL_law 142 = .ok (.invokevirtual 21, 3) := by decide +kernel
theorem dL_law_145 : decode cL_law 145 = .ok (.aload_n 2, 1) := by decide +kernel
theorem dL_law_146 : decode cL_law 146 = .ok (.aload_n 0, 1) := by decide +kernel
theorem dL_law_147 : decode cL_law 147 = .ok (.iload_n 3, 1) := by decide +kernel
theorem dL_law_148 : decode cL_law 148 = .ok (.iconst 1, 1) := by decide +kernel
theorem dL_law_149 : decode cL_law 149 = .ok (.iadd, 1) := by decide +kernel
theorem dL_law_150 : decode cL_law 150 = .ok (.iaload, 1) := by decide +kernel
theorem dL_law_151 : decode cL_law 151 = .ok (.aload_n 0, 1) := by decide +kernel
theorem dL_law_152 : decode cL_law 152 = .ok (.iload_n 3, 1) := by decide +kernel
theorem dL_law_153 : decode cL_law 153 = .ok (.iconst 2, 1) := by decide +kernel
theorem dL_law_154 : decode cL_law 154 = .ok (.iadd, 1) := by decide +kernel
theorem dL_law_155 : decode cL_law 155 = .ok (.iaload, 1) := by decide +kernel
theorem dL_law_156 : decode cL_law 156 = .ok (.aload_n 0, 1) := by decide +kernel
theorem dL_law_157 : decode cL_law 157 = .ok (.iload_n 3, 1) := by decide +kernel
theorem dL_law_158 : decode cL_law 158 = .ok (.iconst 3, 1) := by decide +kernel
theorem dL_law_159 : decode cL_law 159 = .ok (.iadd, 1) := by decide +kernel
theorem dL_law_160 : decode cL_law 160 = .ok (.iaload, 1) := by decide +kernel
theorem dL_law_161 : decode cL_law 161 = .ok (.aload_n 0, 1) := by decide +kernel
theorem dL_law_162 : decode cL_law 162 = .ok (.iload_n 3, 1) := by decide +kernel
theorem dL_law_163 : decode cL_law 163 = .ok (.iconst 4, 1) := by decide +kernel
theorem dL_law_164 : decode cL_law 164 = .ok (.iadd, 1) := by decide +kernel
theorem dL_law_165 : decode cL_law 165 = .ok (.iaload, 1) := by decide +kernel
theorem dL_law_166 : decode cL_law 166 = .ok (.aload_n 0, 1) := by decide +kernel
theorem dL_law_167 : decode cL_law 167 = .ok (.iload_n 3, 1) := by decide +kernel
theorem dL_law_168 : decode cL_law 168 = .ok (.iconst 5, 1) := by decide +kernel
theorem dL_law_169 : decode cL_law 169 = .ok (.iadd, 1) := by decide +kernel
theorem dL_law_170 : decode cL_law 170 = .ok (.iaload, 1) := by decide +kernel
theorem dL_law_171 : decode cL_law 171 = .ok (.invokevirtual 25, 3) := by decide +kernel
theorem dL_law_174 : decode cL_law 174 = .ok (.if_icmp .eq 373, 3) := by decide +kernel
theorem dL_law_177 : decode cL_law 177 = .ok (.iconst 0, 1) := by decide +kernel
theorem dL_law_178 : decode cL_law 178 = .ok (.ireturn, 1) := by decide +kernel
theorem dL_law_179 : decode cL_law 179 = .ok (.aload_n 1, 1) := by decide +kernel
theorem dL_law_180 : decode cL_law 180 = .ok (.aload_n 0, 1) := by decide +kernel
theorem dL_law_181 : decode cL_law 181 = .ok (.iload_n 3, 1) := by decide +kernel
theorem dL_law_182 : decode cL_law 182 = .ok (.iconst 1, 1) := by decide +kernel
theorem dL_law_183 : decode cL_law 183 = .ok (.iadd, 1) := by decide +kernel
theorem dL_law_184 : decode cL_law 184 = .ok (.iaload, 1) := by decide +kernel
theorem dL_law_185 : decode cL_law 185 = .ok (.invokevirtual 26, 3) := by decide +kernel
theorem dL_law_188 : decode cL_law 188 = .ok (.aload_n 2, 1) := by decide +kernel
theorem dL_law_189 : decode cL_law 189 = .ok (.aload_n 0, 1) := by decide +kernel
theorem dL_law_190 : decode cL_law 190 = .ok (.iload_n 3, 1) := by decide +kernel
theorem dL_law_191 : decode cL_law 191 = .ok (.iconst 1, 1) := by decide +kernel
theorem dL_law_192 : decode cL_law 192 = .ok (.iadd, 1) := by decide +kernel
theorem dL_law_193 : decode cL_law 193 = .ok (.iaload, 1) := by decide +kernel
theorem dL_law_194 : decode cL_law 194 = .ok (.invokevirtual 30, 3) := by decide +kernel
theorem dL_law_197 : decode cL_law 197 = .ok (.if_icmp .eq 350, 3) := by decide +kernel
theorem dL_law_200 : decode cL_law 200 = .ok (.iconst 0, 1) := by decide +kernel
theorem dL_law_201 : decode cL_law 201 = .ok (.ireturn, 1) := by decide +kernel
theorem dL_law_202 : decode cL_law 202 = .ok (.aload_n 1, 1) := by decide +kernel
theorem dL_law_203 : decode cL_law 203 = .ok (.aload_n 0, 1) := by decide +kernel
theorem dL_law_204 : decode cL_law 204 = .ok (.iload_n 3, 1) := by decide +kernel
theorem dL_law_205 : decode cL_law 205 = .ok (.iconst 1, 1) := by decide +kernel
theorem dL_law_206 : decode cL_law 206 = .ok (.iadd, 1) := by decide +kernel
theorem dL_law_207 : decode cL_law 207 = .ok (.iaload, 1) := by decide +kernel
theorem dL_law_208 : decode cL_law 208 = .ok (.invokevirtual 31, 3) := by decide +kernel
theorem dL_law_211 : decode cL_law 211 = .ok (.aload_n 2, 1) := by decide +kernel
theorem dL_law_212 : decode cL_law 212 = .ok (.aload_n 0, 1) := by decide +kernel
theorem dL_law_213 : decode cL_law 213 = .ok (.iload_n 3, 1) := by decide +kernel
theorem dL_law_214 : decode cL_law 214 = .ok (.iconst 1, 1) := by decide +kernel
theorem dL_law_215 : decode cL_law 215 = .ok (.iadd, 1) := by decide +kernel
theorem dL_law_216 : decode cL_law 216 = .ok (.iaload, 1) := by decide +kernel
theorem dL_law_217 : decode cL_law 217 = .ok (.invokevirtual 34, 3) := by decide +kernel
theorem dL_law_220 : decode cL_law 220 = .ok (.if_icmp .eq 327, 3) := by decide +kernel
theorem dL_law_223 : decode cL_law 223 = .ok (.iconst 0, 1) := by decide +kernel
theorem dL_law_224 : decode cL_law 224 = .ok (.ireturn, 1) := by decide +kernel
theorem dL_law_225 : decode cL_law 225 = .ok (.aload_n 1, 1) := by decide +kernel
theorem dL_law_226 : decode cL_law 226 = .ok (.aload_n 0, 1) := by decide +kernel
theorem dL_law_227 : decode cL_law 227 = .ok (.iload_n 3, 1) := by decide +kernel
theorem dL_law_228 : decode cL_law 228 = .ok (.iconst 1, 1) := by decide +kernel
theorem dL_law_229 : decode cL_law 229 = .ok (.iadd, 1) := by decide +kernel
theorem dL_law_230 : decode cL_law 230 = .ok (.iaload, 1) := by decide +kernel
theorem dL_law_231 : decode cL_law 231 = .ok (.aload_n 0, 1) := by decide +kernel
theorem dL_law_232 : decode cL_law 232 = .ok (.iload_n 3, 1) := by decide +kernel
theorem dL_law_233 : decode cL_law 233 = .ok (.iconst 2, 1) := by decide +kernel
theorem dL_law_234 : decode cL_law 234 = .ok (.iadd, 1) := by decide +kernel
theorem dL_law_235 : decode cL_law 235 = .ok (.iaload, 1) := by decide +kernel
theorem dL_law_236 : decode cL_law 236 = .ok (.ifCond .eq 7, 3) := by decide +kernel
theorem dL_law_239 : decode cL_law 239 = .ok (.iconst 1, 1) := by decide +kernel
theorem dL_law_240 : decode cL_law 240 = .ok (.goto 4, 3) := by decide +kernel
theorem dL_law_243 : decode cL_law 243 = .ok (.iconst 0, 1) := by decide +kernel
theorem dL_law_244 : decode cL_law 244 = .ok (.invokevirtual 35, 3) := by decide +kernel
theorem dL_law_247 : decode cL_law 247 = .ok (.aload_n 2, 1) := by decide +kernel
theorem dL_law_248 : decode cL_law 248 = .ok (.aload_n 0, 1) := by decide +kernel
theorem dL_law_249 : decode cL_law 249 = .ok (.iload_n 3, 1) := by decide +kernel
theorem dL_law_250 : decode cL_law 250 = .ok (.iconst 1, 1) := by decide +kernel
theorem dL_law_251 : decode cL_law 251 = .ok (.iadd, 1) := by decide +kernel
theorem dL_law_252 : decode cL_law 252 = .ok (.iaload, 1) := by decide +kernel
theorem dL_law_253 : decode cL_law 253 = .ok (.aload_n 0, 1) := by decide +kernel
theorem dL_law_254 : decode cL_law 254 = .ok (.iload_n 3, 1) := by decide +kernel
theorem dL_law_255 : decode cL_law 255 = .ok (.iconst 2, 1) := by decide +kernel
theorem dL_law_256 : decode cL_law 256 = .ok (.iadd, 1) := by decide +kernel
theorem dL_law_257 : decode cL_law 257 = .ok (.iaload, 1) := by decide +kernel
theorem dL_law_258 : decode cL_law 258 = .ok (.ifCond .eq 7, 3) := by decide +kernel
theorem dL_law_261 : decode cL_law 261 = .ok (.iconst 1, 1) := by decide +kernel
theorem dL_law_262 : decode cL_law 262 = .ok (.goto 4, 3) := by decide +kernel
theorem dL_law_265 : decode cL_law 265 = .ok (.iconst 0, 1) := by decide +kernel
theorem dL_law_266 : decode cL_law 266 = .ok (.invokevirtual 39, 3) := by decide +kernel
theorem dL_law_269 : decode cL_law 269 = .ok (.if_icmp .eq 278, 3) := by decide +kernel
theorem dL_law_272 : decode cL_law 272 = .ok (.iconst 0, 1) := by decide +kernel
theorem dL_law_273 : decode cL_law 273 = .ok (.ireturn, 1) := by decide +kernel
theorem dL_law_274 : decode cL_law 274 = .ok (.aload_n 1, 1) := by decide +kernel
theorem dL_law_275 : decode cL_law 275 = .ok (.aload_n 0, 1) := by decide +kernel
theorem dL_law_276 : decode cL_law 276 = .ok (.iload_n 3, 1) := by decide +kernel
theorem dL_law_277 : decode cL_law 277 = .ok (.iconst 1, 1) := by decide +kernel
theorem dL_law_278 : decode cL_law 278 = .ok (.iadd, 1) := by decide +kernel
theorem dL_law_279 : decode cL_law 279 = .ok (.iaload, 1) := by decide +kernel
theorem dL_law_280 : decode cL_law 280 = .ok (.aload_n 0, 1) := by decide +kernel
theorem dL_law_281 : decode cL_law 281 = .ok (.iload_n 3, 1) := by decide +kernel
theorem dL_law_282 : decode cL_law 282 = .ok (.iconst 2, 1) := by decide +kernel
theorem dL_law_283 : decode cL_law 283 = .ok (.iadd, 1) := by decide +kernel
theorem dL_law_284 : decode cL_law 284 = .ok (.iaload, 1) := by decide +kernel
theorem dL_law_285 : decode cL_law 285 = .ok (.invokevirtual 40, 3) := by decide +kernel
theorem dL_law_288 : decode cL_law 288 = .ok (.aload_n 2, 1) := by decide +kernel
theorem dL_law_289 : decode cL_law 289 = .ok (.aload_n 0, 1) := by decide +kernel
theorem dL_law_290 : decode cL_law 290 = .ok (.iload_n 3, 1) := by decide +kernel
theorem dL_law_291 : decode cL_law 291 = .ok (.iconst 1, 1) := by decide +kernel
theorem dL_law_292 : decode cL_law 292 = .ok (.iadd, 1) := by decide +kernel
theorem dL_law_293 : decode cL_law 293 = .ok (.iaload, 1) := by decide +kernel
theorem dL_law_294 : decode cL_law 294 = .ok (.aload_n 0, 1) := by decide +kernel
theorem dL_law_295 : decode cL_law 295 = .ok (.iload_n 3, 1) := by decide +kernel
theorem dL_law_296 : decode cL_law 296 = .ok (.iconst 2, 1) := by decide +kernel
theorem dL_law_297 : decode cL_law 297 = .ok (.iadd, 1) := by decide +kernel
theorem dL_law_298 : decode cL_law 298 = .ok (.iaload, 1) := by decide +kernel
theorem dL_law_299 : decode cL_law 299 = .ok (.invokevirtual 44, 3) := by decide +kernel
theorem dL_law_302 : decode cL_law 302 = .ok (.if_icmp .eq 245, 3) := by decide +kernel
theorem dL_law_305 : decode cL_law 305 = .ok (.iconst 0, 1) := by decide +kernel
theorem dL_law_306 : decode cL_law 306 = .ok (.ireturn, 1) := by decide +kernel
theorem dL_law_307 : decode cL_law 307 = .ok (.aload_n 1, 1) := by decide +kernel
theorem dL_law_308 : decode cL_law 308 = .ok (.invokevirtual 45, 3) := by decide +kernel
theorem dL_law_311 : decode cL_law 311 = .ok (.aload_n 2, 1) := by decide +kernel
theorem dL_law_312 : decode cL_law 312 = .ok (.invokevirtual 49, 3) := by decide +kernel
theorem dL_law_315 : decode cL_law 315 = .ok (.if_icmp .eq 232, 3) := by decide +kernel
theorem dL_law_318 : decode cL_law 318 = .ok (.iconst 0, 1) := by decide +kernel
theorem dL_law_319 : decode cL_law 319 = .ok (.ireturn, 1) := by decide +kernel
theorem dL_law_320 : decode cL_law 320 = .ok (.aload_n 1, 1) := by decide +kernel
theorem dL_law_321 : decode cL_law 321 = .ok (.aload_n 0, 1) := by decide +kernel
theorem dL_law_322 : decode cL_law 322 = .ok (.iload_n 3, 1) := by decide +kernel
theorem dL_law_323 : decode cL_law 323 = .ok (.iconst 1, 1) := by decide +kernel
theorem dL_law_324 : decode cL_law 324 = .ok (.iadd, 1) := by decide +kernel
theorem dL_law_325 : decode cL_law 325 = .ok (.iaload, 1) := by decide +kernel
theorem dL_law_326 : decode cL_law 326 = .ok (.aload_n 0, 1) := by decide +kernel
theorem dL_law_327 : decode cL_law 327 = .ok (.iload_n 3, 1) := by decide +kernel
theorem dL_law_328 : decode cL_law 328 = .ok (.iconst 2, 1) := by decide +kernel
theorem dL_law_329 : decode cL_law 329 = .ok (.iadd, 1) := by decide +kernel
theorem dL_law_330 : decode cL_law 330 = .ok (.iaload, 1) := by decide +kernel
theorem dL_law_331 : decode cL_law 331 = .ok (.invokevirtual 50, 3) := by decide +kernel
theorem dL_law_334 : decode cL_law 334 = .ok (.aload_n 2, 1) := by decide +kernel
theorem dL_law_335 : decode cL_law 335 = .ok (.aload_n 0, 1) := by decide +kernel
theorem dL_law_336 : decode cL_law 336 = .ok (.iload_n 3, 1) := by decide +kernel
theorem dL_law_337 : decode cL_law 337 = .ok (.iconst 1, 1) := by decide +kernel
theorem dL_law_338 : decode cL_law 338 = .ok (.iadd, 1) := by decide +kernel
theorem dL_law_339 : decode cL_law 339 = .ok (.iaload, 1) := by decide +kernel
theorem dL_law_340 : decode cL_law 340 = .ok (.aload_n 0, 1) := by decide +kernel
theorem dL_law_341 : decode cL_law 341 = .ok (.iload_n 3, 1) := by decide +kernel
theorem dL_law_342 : decode cL_law 342 = .ok (.iconst 2, 1) := by decide +kernel
theorem dL_law_343 : decode cL_law 343 = .ok (.iadd, 1) := by decide +kernel
theorem dL_law_344 : decode cL_law 344 = .ok (.iaload, 1) := by decide +kernel
theorem dL_law_345 : decode cL_law 345 = .ok (.invokevirtual 53, 3) := by decide +kernel
theorem dL_law_348 : decode cL_law 348 = .ok (.if_icmp .eq 199, 3) := by decide +kernel
theorem dL_law_351 : decode cL_law 351 = .ok (.iconst 0, 1) := by decide +kernel
theorem dL_law_352 : decode cL_law 352 = .ok (.ireturn, 1) := by decide +kernel
theorem dL_law_353 : decode cL_law 353 = .ok (.aload_n 1, 1) := by decide +kernel
theorem dL_law_354 : decode cL_law 354 = .ok (.aload_n 0, 1) := by decide +kernel
theorem dL_law_355 : decode cL_law 355 = .ok (.iload_n 3, 1) := by decide +kernel
theorem dL_law_356 : decode cL_law 356 = .ok (.iconst 1, 1) := by decide +kernel
theorem dL_law_357 : decode cL_law 357 = .ok (.iadd, 1) := by decide +kernel
theorem dL_law_358 : decode cL_law 358 = .ok (.iaload, 1) := by decide +kernel
theorem dL_law_359 : decode cL_law 359 = .ok (.invokevirtual 54, 3) := by decide +kernel
theorem dL_law_362 : decode cL_law 362 = .ok (.aload_n 2, 1) := by decide +kernel
theorem dL_law_363 : decode cL_law 363 = .ok (.aload_n 0, 1) := by decide +kernel
theorem dL_law_364 : decode cL_law 364 = .ok (.iload_n 3, 1) := by decide +kernel
theorem dL_law_365 : decode cL_law 365 = .ok (.iconst 1, 1) := by decide +kernel
theorem dL_law_366 : decode cL_law 366 = .ok (.iadd, 1) := by decide +kernel
theorem dL_law_367 : decode cL_law 367 = .ok (.iaload, 1) := by decide +kernel
theorem dL_law_368 : decode cL_law 368 = .ok (.invokevirtual 57, 3) := by decide +kernel
theorem dL_law_371 : decode cL_law 371 = .ok (.if_icmp .eq 176, 3) := by decide +kernel
theorem dL_law_374 : decode cL_law 374 = .ok (.iconst 0, 1) := by decide +kernel
theorem dL_law_375 : decode cL_law 375 = .ok (.ireturn, 1) := by decide +kernel
theorem dL_law_376 : decode cL_law 376 = .ok (.aload_n 1, 1) := by decide +kernel
theorem dL_law_377 : decode cL_law 377 = .ok (.aload_n 0, 1) := by decide +kernel
theorem dL_law_378 : decode cL_law 378 = .ok (.iload_n 3, 1) := by decide +kernel
theorem dL_law_379 : decode cL_law 379 = .ok (.iconst 1, 1) := by decide +kernel
theorem dL_law_380 : decode cL_law 380 = .ok (.iadd, 1) := by decide +kernel
theorem dL_law_381 : decode cL_law 381 = .ok (.iaload, 1) := by decide +kernel
theorem dL_law_382 : decode cL_law 382 = .ok (.invokevirtual 58, 3) := by decide +kernel
theorem dL_law_385 : decode cL_law 385 = .ok (.aload_n 2, 1) := by decide +kernel
theorem dL_law_386 : decode cL_law 386 = .ok (.aload_n 0, 1) := by decide +kernel
theorem dL_law_387 : decode cL_law 387 = .ok (.iload_n 3, 1) := by decide +kernel
theorem dL_law_388 : decode cL_law 388 = .ok (.iconst 1, 1) := by decide +kernel
theorem dL_law_389 : decode cL_law 389 = .ok (.iadd, 1) := by decide +kernel
theorem dL_law_390 : decode cL_law 390 = .ok (.iaload, 1) := by decide +kernel
theorem dL_law_391 : decode cL_law 391 = .ok (.invokevirtual 62, 3) := by decide +kernel
theorem dL_law_394 : decode cL_law 394 = .ok (.if_icmp .eq 153, 3) := by decide +kernel
theorem dL_law_397 : decode cL_law 397 = .ok (.iconst 0, 1) := by decide +kernel
theorem dL_law_398 : decode cL_law 398 = .ok (.ireturn, 1) := by decide +kernel
theorem dL_law_399 : decode cL_law 399 = .ok (.aload_n 1, 1) := by decide +kernel
theorem dL_law_400 : decode cL_law 400 = .ok (.aload_n 0, 1) := by decide +kernel
theorem dL_law_401 : decode cL_law 401 = .ok (.iload_n 3, 1) := by decide +kernel
theorem dL_law_402 : decode cL_law 402 = .ok (.iconst 1, 1) := by decide +kernel
theorem dL_law_403 : decode cL_law 403 = .ok (.iadd, 1) := by decide +kernel
theorem dL_law_404 : decode cL_law 404 = .ok (.iaload, 1) := by decide +kernel
theorem dL_law_405 : decode cL_law 405 = .ok (.aload_n 0, 1) := by decide +kernel
theorem dL_law_406 : decode cL_law 406 = .ok (.iload_n 3, 1) := by decide +kernel
theorem dL_law_407 : decode cL_law 407 = .ok (.iconst 2, 1) := by decide +kernel
theorem dL_law_408 : decode cL_law 408 = .ok (.iadd, 1) := by decide +kernel
theorem dL_law_409 : decode cL_law 409 = .ok (.iaload, 1) := by decide +kernel
theorem dL_law_410 : decode cL_law 410 = .ok (.aload_n 0, 1) := by decide +kernel
theorem dL_law_411 : decode cL_law 411 = .ok (.iload_n 3, 1) := by decide +kernel
theorem dL_law_412 : decode cL_law 412 = .ok (.iconst 3, 1) := by decide +kernel
theorem dL_law_413 : decode cL_law 413 = .ok (.iadd, 1) := by decide +kernel
theorem dL_law_414 : decode cL_law 414 = .ok (.iaload, 1) := by decide +kernel
theorem dL_law_415 : decode cL_law 415 = .ok (.invokevirtual 63, 3) := by decide +kernel
theorem dL_law_418 : decode cL_law 418 = .ok (.aload_n 2, 1) := by decide +kernel
theorem dL_law_419 : decode cL_law 419 = .ok (.aload_n 0, 1) := by decide +kernel
theorem dL_law_420 : decode cL_law 420 = .ok (.iload_n 3, 1) := by decide +kernel
theorem dL_law_421 : decode cL_law 421 = .ok (.iconst 1, 1) := by decide +kernel
theorem dL_law_422 : decode cL_law 422 = .ok (.iadd, 1) := by decide +kernel
theorem dL_law_423 : decode cL_law 423 = .ok (.iaload, 1) := by decide +kernel
theorem dL_law_424 : decode cL_law 424 = .ok (.aload_n 0, 1) := by decide +kernel
theorem dL_law_425 : decode cL_law 425 = .ok (.iload_n 3, 1) := by decide +kernel
theorem dL_law_426 : decode cL_law 426 = .ok (.iconst 2, 1) := by decide +kernel
theorem dL_law_427 : decode cL_law 427 = .ok (.iadd, 1) := by decide +kernel
theorem dL_law_428 : decode cL_law 428 = .ok (.iaload, 1) := by decide +kernel
theorem dL_law_429 : decode cL_law 429 = .ok (.aload_n 0, 1) := by decide +kernel
theorem dL_law_430 : decode cL_law 430 = .ok (.iload_n 3, 1) := by decide +kernel
theorem dL_law_431 : decode cL_law 431 = .ok (.iconst 3, 1) := by decide +kernel
theorem dL_law_432 : decode cL_law 432 = .ok (.iadd, 1) := by decide +kernel
theorem dL_law_433 : decode cL_law 433 = .ok (.iaload, 1) := by decide +kernel
theorem dL_law_434 : decode cL_law 434 = .ok (.invokevirtual 67, 3) := by decide +kernel
theorem dL_law_437 : decode cL_law 437 = .ok (.if_icmp .eq 110, 3) := by decide +kernel
theorem dL_law_440 : decode cL_law 440 = .ok (.iconst 0, 1) := by decide +kernel
theorem dL_law_441 : decode cL_law 441 = .ok (.ireturn, 1) := by decide +kernel
theorem dL_law_442 : decode cL_law 442 = .ok (.aload_n 1, 1) := by decide +kernel
theorem dL_law_443 : decode cL_law 443 = .ok (.aload_n 0, 1) := by decide +kernel
theorem dL_law_444 : decode cL_law 444 = .ok (.iload_n 3, 1) := by decide +kernel
theorem dL_law_445 : decode cL_law 445 = .ok (.iconst 1, 1) := by decide +kernel
theorem dL_law_446 : decode cL_law 446 = .ok (.iadd, 1) := by decide +kernel
theorem dL_law_447 : decode cL_law 447 = .ok (.iaload, 1) := by decide +kernel
theorem dL_law_448 : decode cL_law 448 = .ok (.invokevirtual 68, 3) := by decide +kernel
theorem dL_law_451 : decode cL_law 451 = .ok (.aload_n 2, 1) := by decide +kernel
theorem dL_law_452 : decode cL_law 452 = .ok (.aload_n 0, 1) := by decide +kernel
theorem dL_law_453 : decode cL_law 453 = .ok (.iload_n 3, 1) := by decide +kernel
theorem dL_law_454 : decode cL_law 454 = .ok (.iconst 1, 1) := by decide +kernel
theorem dL_law_455 : decode cL_law 455 = .ok (.iadd, 1) := by decide +kernel
theorem dL_law_456 : decode cL_law 456 = .ok (.iaload, 1) := by decide +kernel
theorem dL_law_457 : decode cL_law 457 = .ok (.invokevirtual 71, 3) := by decide +kernel
theorem dL_law_460 : decode cL_law 460 = .ok (.if_icmp .eq 87, 3) := by decide +kernel
theorem dL_law_463 : decode cL_law 463 = .ok (.iconst 0, 1) := by decide +kernel
theorem dL_law_464 : decode cL_law 464 = .ok (.ireturn, 1) := by decide +kernel
theorem dL_law_465 : decode cL_law 465 = .ok (.aload_n 1, 1) := by decide +kernel
theorem dL_law_466 : decode cL_law 466 = .ok (.aload_n 0, 1) := by decide +kernel
theorem dL_law_467 : decode cL_law 467 = .ok (.iload_n 3, 1) := by decide +kernel
theorem dL_law_468 : decode cL_law 468 = .ok (.iconst 1, 1) := by decide +kernel
theorem dL_law_469 : decode cL_law 469 = .ok (.iadd, 1) := by decide +kernel
theorem dL_law_470 : decode cL_law 470 = .ok (.iaload, 1) := by decide +kernel
theorem dL_law_471 : decode cL_law 471 = .ok (.invokevirtual 72, 3) := by decide +kernel
theorem dL_law_474 : decode cL_law 474 = .ok (.aload_n 2, 1) := by decide +kernel
theorem dL_law_475 : decode cL_law 475 = .ok (.aload_n 0, 1) := by decide +kernel
theorem dL_law_476 : decode cL_law 476 = .ok (.iload_n 3, 1) := by decide +kernel
theorem dL_law_477 : decode cL_law 477 = .ok (.iconst 1, 1) := by decide +kernel
theorem dL_law_478 : decode cL_law 478 = .ok (.iadd, 1) := by decide +kernel
theorem dL_law_479 : decode cL_law 479 = .ok (.iaload, 1) := by decide +kernel
theorem dL_law_480 : decode cL_law 480 = .ok (.invokevirtual 75, 3) := by decide +kernel
theorem dL_law_483 : decode cL_law 483 = .ok (.if_icmp .eq 64, 3) := by decide +kernel
theorem dL_law_486 : decode cL_law 486 = .ok (.iconst 0, 1) := by decide +kernel
theorem dL_law_487 : decode cL_law 487 = .ok (.ireturn, 1) := by decide +kernel
theorem dL_law_488 : decode cL_law 488 = .ok (.aload_n 1, 1) := by decide +kernel
theorem dL_law_489 : decode cL_law 489 = .ok (.aload_n 0, 1) := by decide +kernel
theorem dL_law_490 : decode cL_law 490 = .ok (.iload_n 3, 1) := by decide +kernel
theorem dL_law_491 : decode cL_law 491 = .ok (.iconst 1, 1) := by decide +kernel
theorem dL_law_492 : decode cL_law 492 = .ok (.iadd, 1) := by decide +kernel
theorem dL_law_493 : decode cL_law 493 = .ok (.iaload, 1) := by decide +kernel
theorem dL_law_494 : decode cL_law 494 = .ok (.invokevirtual 76, 3) := by decide +kernel
theorem dL_law_497 : decode cL_law 497 = .ok (.aload_n 2, 1) := by decide +kernel
theorem dL_law_498 : decode cL_law 498 = .ok (.aload_n 0, 1) := by decide +kernel
theorem dL_law_499 : decode cL_law 499 = .ok (.iload_n 3, 1) := by decide +kernel
theorem dL_law_500 : decode cL_law 500 = .ok (.iconst 1, 1) := by decide +kernel
theorem dL_law_501 : decode cL_law 501 = .ok (.iadd, 1) := by decide +kernel
theorem dL_law_502 : decode cL_law 502 = .ok (.iaload, 1) := by decide +kernel
theorem dL_law_503 : decode cL_law 503 = .ok (.invokevirtual 79, 3) := by decide +kernel
theorem dL_law_506 : decode cL_law 506 = .ok (.if_icmp .eq 41, 3) := by decide +kernel
theorem dL_law_509 : decode cL_law 509 = .ok (.iconst 0, 1) := by decide +kernel
theorem dL_law_510 : decode cL_law 510 = .ok (.ireturn, 1) := by decide +kernel
theorem dL_law_511 : decode cL_law 511 = .ok (.aload_n 1, 1) := by decide +kernel
theorem dL_law_512 : decode cL_law 512 = .ok (.invokevirtual 80, 3) := by decide +kernel
theorem dL_law_515 : decode cL_law 515 = .ok (.aload_n 2, 1) := by decide +kernel
theorem dL_law_516 : decode cL_law 516 = .ok (.invokevirtual 84, 3) := by decide +kernel
theorem dL_law_519 : decode cL_law 519 = .ok (.if_icmp .eq 28, 3) := by decide +kernel
theorem dL_law_522 : decode cL_law 522 = .ok (.iconst 0, 1) := by decide +kernel
theorem dL_law_523 : decode cL_law 523 = .ok (.ireturn, 1) := by decide +kernel
theorem dL_law_524 : decode cL_law 524 = .ok (.aload_n 1, 1) := by decide +kernel
theorem dL_law_525 : decode cL_law 525 = .ok (.aload_n 0, 1) := by decide +kernel
theorem dL_law_526 : decode cL_law 526 = .ok (.iload_n 3, 1) := by decide +kernel
theorem dL_law_527 : decode cL_law 527 = .ok (.iconst 1, 1) := by decide +kernel
theorem dL_law_528 : decode cL_law 528 = .ok (.iadd, 1) := by decide +kernel
theorem dL_law_529 : decode cL_law 529 = .ok (.iaload, 1) := by decide +kernel
theorem dL_law_530 : decode cL_law 530 = .ok (.invokevirtual 85, 3) := by decide +kernel
theorem dL_law_533 : decode cL_law 533 = .ok (.aload_n 2, 1) := by decide +kernel
theorem dL_law_534 : decode cL_law 534 = .ok (.aload_n 0, 1) := by decide +kernel
theorem dL_law_535 : decode cL_law 535 = .ok (.iload_n 3, 1) := by decide +kernel
theorem dL_law_536 : decode cL_law 536 = .ok (.iconst 1, 1) := by decide +kernel
theorem dL_law_537 : decode cL_law 537 = .ok (.iadd, 1) := by decide +kernel
theorem dL_law_538 : decode cL_law 538 = .ok (.iaload, 1) := by decide +kernel
theorem dL_law_539 : decode cL_law 539 = .ok (.invokevirtual 88, 3) := by decide +kernel
theorem dL_law_542 : decode cL_law 542 = .ok (.if_icmp .eq 5, 3) := by decide +kernel
theorem dL_law_545 : decode cL_law 545 = .ok (.iconst 0, 1) := by decide +kernel
theorem dL_law_546 : decode cL_law 546 = .ok (.ireturn, 1) := by decide +kernel
theorem dL_law_547 : decode cL_law 547 = .ok (.iinc 3 6, 3) := by decide +kernel
theorem dL_law_550 : decode cL_law 550 = .ok (.goto (-522), 3) := by decide +kernel
theorem dL_law_553 : decode cL_law 553 = .ok (.iconst 1, 1) := by decide +kernel
theorem dL_law_554 : decode cL_law 554 = .ok (.ireturn, 1) := by decide +kernel
end
section
/-! the abstract state: numbers by (field, i, j); ints by (field, i, j); longs -/
abbrev gs_T : Type := (Nat → Nat → Nat → Nat) × (Nat → Nat → Nat → Int32) × (Nat → Int64)
abbrev gs_A : Type := Nat → Nat → Nat → Nat
def gs_u {α : Type} (f : Nat → Nat → Nat → α) (k i j : Nat) (v : α) : Nat → Nat → Nat → α := fun k' i' j' => if k' = k ∧ i' = i ∧ j' = j then v else f k' i' j'
theorem gs_u_ne {α : Type} {f : Nat → Nat → Nat → α} {k i j k' : Nat} {v : α} (h : k' ≠ k) : gs_u f k i j v k' = f k' := by
  funext i' j'
  simp [gs_u, h]
theorem gs_u_at {α : Type} {f : Nat → Nat → Nat → α} {k i j i' j' : Nat} {v : α} : gs_u f k i j v k i' j' = if i' = i ∧ j' = j then v else f k i' j' := by
  simp [gs_u]
theorem gs_u_1 {α : Type} {f : Nat → Nat → Nat → α} {k i : Nat} {v : α} : (fun q => gs_u f k i 0 v k q 0) = va_up (fun q => f k q 0) i v := by
  funext q
  by_cases h : q = i <;> simp [gs_u, va_up, h]
def gs_n (σ : gs_T) (f i j v : Nat) : gs_T := (gs_u σ.1 f i j v, σ.2.1, σ.2.2)
def gs_i (σ : gs_T) (f i j : Nat) (v : Int32) : gs_T := (σ.1, gs_u σ.2.1 f i j v, σ.2.2)
def gs_l (σ : gs_T) (o : Nat) (v : Int64) : gs_T := (σ.1, σ.2.1, va_up σ.2.2 o v)
def gs_op (x : Nat) (f : Nat → Nat) : Option Nat := match x with
  | 0 => none
  | y + 1 => some (f y)
def gs_sf (x : Nat) : Int32 := match x with
  | 0 => -1
  | y + 1 => nI y
def gs_cl (σ : gs_T) (A : gs_A) (k i j : Nat) : gx_E := match k with
  | 0 => gx_ob 0 [.ref (A 15 0 0), .int (nI (σ.1 2 0 0))]
  | 1 => gx_ob 1 [.int (nI i), .int (σ.2.1 6 i 0), .int (σ.2.1 7 i 0), .ref (A 13 i 0), .ref (A 14 i 0), .int (nI (σ.1 3 i 0)), .int (nI (σ.1 4 i 0))]
  | 2 => gx_ob 2 [.int (σ.2.1 16 i 0), .int (σ.2.1 17 i 0), .ref (A 4 (σ.1 8 i 0) (σ.1 9 i 0)), .int (σ.2.1 18 i 0)]
  | 3 => gx_ob 3 [.int (nI i), .int (nI (σ.1 12 i 0)), .int (σ.2.1 0 i 0), .int (nI (σ.1 13 i 0)), .int (nI (σ.1 14 i 0)), .int (σ.2.1 1 i 0), .int (σ.2.1 2 i 0), .long (σ.2.2 i), .int (σ.2.1 3 i 0), .int (σ.2.1 4 i 0)]
  | 4 => gx_ob 4 [.ref (A 3 j 0), .int (nI i), va_rf (gs_op (σ.1 7 i j) (fun g => A 4 g j)), .int (σ.2.1 8 i j), .int (σ.2.1 9 i j), .int (σ.2.1 10 i j), .int (σ.2.1 11 i j), .int (σ.2.1 12 i j), .int (σ.2.1 13 i j), .int (σ.2.1 14 i j), .int (σ.2.1 15 i j)]
  | 5 => gx_ob 5 [.ref (A 7 0 0), .ref (A 8 0 0), .ref (A 9 0 0), .ref (A 10 0 0), .ref (A 0 0 0), .int (nI (σ.1 1 0 0)), .int (σ.2.1 5 0 0), .ref (A 11 0 0), .ref (A 12 0 0)]
  | 6 => gx_ob 6 [.int (nI (σ.1 100 0 0)), .ref (A 21 0 0), .ref (A 22 0 0), .ref (A 23 0 0), .int (nI (σ.1 104 0 0)), .ref (A 25 0 0), .ref (A 26 0 0), .ref (A 27 0 0), .ref (A 28 0 0), .ref (A 29 0 0), .ref (A 30 0 0), .ref (A 31 0 0), .ref (A 32 0 0), .ref (A 33 0 0), .ref (A 34 0 0), .ref (A 35 0 0), .ref (A 36 0 0), .ref (A 37 0 0), .ref (A 38 0 0), .ref (A 39 0 0), .ref (A 40 0 0), .ref (A 41 0 0), .ref (A 42 0 0), .ref (A 43 0 0), .ref (A 44 0 0), .int (nI (σ.1 125 0 0)), .ref (A 46 0 0), .ref (A 47 0 0), .ref (A 48 0 0), .ref (A 49 0 0), .ref (A 50 0 0), .ref (A 51 0 0), .ref (A 52 0 0), .int (σ.2.1 133 0 0)]
  | 7 => gx_ar 2 (σ.1 0 0 0) (fun q => if σ.1 15 q 0 = 1 then some (A 1 q 0) else none)
  | 8 => gx_ai 0 16 (fun q => σ.2.1 19 q 0)
  | 9 => gx_ai 0 4 (fun q => σ.2.1 20 q 0)
  | 10 => gx_ar 4 40 (fun q => if σ.1 11 q 0 = 1 then some (A 3 q 0) else none)
  | 11 => gx_ai 0 16 (fun q => σ.2.1 21 q 0)
  | 12 => gx_ai 0 16 (fun q => σ.2.1 22 q 0)
  | 13 => gx_ar 5 40 (fun q => if σ.1 6 i q = 1 then some (A 4 i q) else none)
  | 14 => gx_ar 5 40 (fun q => gs_op (σ.1 5 i q) (fun x => A 4 i x))
  | 15 => gx_ar 3 240 (fun q => if σ.1 10 q 0 = 1 then some (A 2 q 0) else none)
  | 21 => gx_ai 0 4 (fun q => σ.2.1 101 q 0)
  | 22 => gx_ai 1 4 (fun q => σ.2.1 102 q 0)
  | 23 => gx_ai 0 16 (fun q => σ.2.1 103 q 0)
  | 25 => gx_ai 0 40 (fun q => nI (σ.1 105 q 0))
  | 26 => gx_ai 0 40 (fun q => σ.2.1 106 q 0)
  | 27 => gx_ai 0 40 (fun q => nI (σ.1 107 q 0))
  | 28 => gx_ai 0 40 (fun q => nI (σ.1 108 q 0))
  | 29 => gx_ai 0 40 (fun q => σ.2.1 109 q 0)
  | 30 => gx_ai 0 40 (fun q => σ.2.1 110 q 0)
  | 31 => gx_ai 1 40 (fun q => σ.2.1 111 q 0)
  | 32 => gx_ai 0 40 (fun q => σ.2.1 112 q 0)
  | 33 => gx_ai 0 4 (fun q => σ.2.1 113 q 0)
  | 34 => gx_ai 1 160 (fun q => σ.2.1 114 q 0)
  | 35 => gx_ai 0 160 (fun q => σ.2.1 115 q 0)
  | 36 => gx_ai 1 160 (fun q => σ.2.1 116 q 0)
  | 37 => gx_ai 1 160 (fun q => σ.2.1 117 q 0)
  | 38 => gx_ai 1 160 (fun q => σ.2.1 118 q 0)
  | 39 => gx_ai 0 640 (fun q => σ.2.1 119 q 0)
  | 40 => gx_ai 1 640 (fun q => σ.2.1 120 q 0)
  | 41 => gx_ai 0 640 (fun q => σ.2.1 121 q 0)
  | 42 => gx_ai 0 640 (fun q => σ.2.1 122 q 0)
  | 43 => gx_ai 0 4 (fun q => nI (σ.1 123 q 0))
  | 44 => gx_ai 0 160 (fun q => nI (σ.1 124 q 0))
  | 46 => gx_ai 0 400 (fun q => σ.2.1 126 q 0)
  | 47 => gx_ai 0 400 (fun q => nI (σ.1 127 q 0))
  | 48 => gx_ai 0 400 (fun q => gs_sf (σ.1 128 q 0))
  | 49 => gx_ai 0 400 (fun q => nI (σ.1 129 q 0))
  | 50 => gx_ai 0 400 (fun q => σ.2.1 130 q 0)
  | 51 => gx_ai 0 400 (fun q => σ.2.1 131 q 0)
  | 52 => gx_ai 0 400 (fun q => σ.2.1 132 q 0)
  | _ => gx_ob 0 []
def gs_lv (σ : gs_T) (k i j : Nat) : Prop := match k with
  | 0 => i = 0 ∧ j = 0
  | 1 => σ.1 15 i 0 = 1 ∧ j = 0
  | 2 => σ.1 10 i 0 = 1 ∧ j = 0
  | 3 => σ.1 11 i 0 = 1 ∧ j = 0
  | 4 => σ.1 6 i j = 1
  | 5 => i = 0 ∧ j = 0
  | 6 => σ.1 31 0 0 = 1 ∧ i = 0 ∧ j = 0
  | 7 => i = 0 ∧ j = 0
  | 8 => i = 0 ∧ j = 0
  | 9 => i = 0 ∧ j = 0
  | 10 => i = 0 ∧ j = 0
  | 11 => i = 0 ∧ j = 0
  | 12 => i = 0 ∧ j = 0
  | 13 => σ.1 15 i 0 = 1 ∧ j = 0
  | 14 => σ.1 15 i 0 = 1 ∧ j = 0
  | 15 => i = 0 ∧ j = 0
  | 21 => σ.1 31 0 0 = 1 ∧ i = 0 ∧ j = 0
  | 22 => σ.1 31 0 0 = 1 ∧ i = 0 ∧ j = 0
  | 23 => σ.1 31 0 0 = 1 ∧ i = 0 ∧ j = 0
  | 25 => σ.1 31 0 0 = 1 ∧ i = 0 ∧ j = 0
  | 26 => σ.1 31 0 0 = 1 ∧ i = 0 ∧ j = 0
  | 27 => σ.1 31 0 0 = 1 ∧ i = 0 ∧ j = 0
  | 28 => σ.1 31 0 0 = 1 ∧ i = 0 ∧ j = 0
  | 29 => σ.1 31 0 0 = 1 ∧ i = 0 ∧ j = 0
  | 30 => σ.1 31 0 0 = 1 ∧ i = 0 ∧ j = 0
  | 31 => σ.1 31 0 0 = 1 ∧ i = 0 ∧ j = 0
  | 32 => σ.1 31 0 0 = 1 ∧ i = 0 ∧ j = 0
  | 33 => σ.1 31 0 0 = 1 ∧ i = 0 ∧ j = 0
  | 34 => σ.1 31 0 0 = 1 ∧ i = 0 ∧ j = 0
  | 35 => σ.1 31 0 0 = 1 ∧ i = 0 ∧ j = 0
  | 36 => σ.1 31 0 0 = 1 ∧ i = 0 ∧ j = 0
  | 37 => σ.1 31 0 0 = 1 ∧ i = 0 ∧ j = 0
  | 38 => σ.1 31 0 0 = 1 ∧ i = 0 ∧ j = 0
  | 39 => σ.1 31 0 0 = 1 ∧ i = 0 ∧ j = 0
  | 40 => σ.1 31 0 0 = 1 ∧ i = 0 ∧ j = 0
  | 41 => σ.1 31 0 0 = 1 ∧ i = 0 ∧ j = 0
  | 42 => σ.1 31 0 0 = 1 ∧ i = 0 ∧ j = 0
  | 43 => σ.1 31 0 0 = 1 ∧ i = 0 ∧ j = 0
  | 44 => σ.1 31 0 0 = 1 ∧ i = 0 ∧ j = 0
  | 46 => σ.1 31 0 0 = 1 ∧ i = 0 ∧ j = 0
  | 47 => σ.1 31 0 0 = 1 ∧ i = 0 ∧ j = 0
  | 48 => σ.1 31 0 0 = 1 ∧ i = 0 ∧ j = 0
  | 49 => σ.1 31 0 0 = 1 ∧ i = 0 ∧ j = 0
  | 50 => σ.1 31 0 0 = 1 ∧ i = 0 ∧ j = 0
  | 51 => σ.1 31 0 0 = 1 ∧ i = 0 ∧ j = 0
  | 52 => σ.1 31 0 0 = 1 ∧ i = 0 ∧ j = 0
  | _ => False
def gs_wn (f : Nat) : Nat := match f with
  | 0 => 7
  | 1 => 5
  | 2 => 0
  | 3 => 1
  | 4 => 1
  | 5 => 14
  | 6 => 13
  | 7 => 4
  | 8 => 2
  | 9 => 2
  | 10 => 15
  | 11 => 10
  | 12 => 3
  | 13 => 3
  | 14 => 3
  | 15 => 7
  | 100 => 6
  | 104 => 6
  | 105 => 25
  | 107 => 27
  | 108 => 28
  | 123 => 43
  | 124 => 44
  | 125 => 6
  | 127 => 47
  | 128 => 48
  | 129 => 49
  | _ => 99
def gs_wi (f : Nat) : Nat := match f with
  | 0 => 3
  | 1 => 3
  | 2 => 3
  | 3 => 3
  | 4 => 3
  | 5 => 5
  | 6 => 1
  | 7 => 1
  | 8 => 4
  | 9 => 4
  | 10 => 4
  | 11 => 4
  | 12 => 4
  | 13 => 4
  | 14 => 4
  | 15 => 4
  | 16 => 2
  | 17 => 2
  | 18 => 2
  | 19 => 8
  | 20 => 9
  | 21 => 11
  | 22 => 12
  | 101 => 21
  | 102 => 22
  | 103 => 23
  | 106 => 26
  | 109 => 29
  | 110 => 30
  | 111 => 31
  | 112 => 32
  | 113 => 33
  | 114 => 34
  | 115 => 35
  | 116 => 36
  | 117 => 37
  | 118 => 38
  | 119 => 39
  | 120 => 40
  | 121 => 41
  | 122 => 42
  | 126 => 46
  | 130 => 50
  | 131 => 51
  | 132 => 52
  | 133 => 6
  | _ => 99
set_option maxHeartbeats 4000000 in
theorem gs_neN {σ : gs_T} {A : gs_A} {f i j : Nat} {v : Nat} {k : Nat} (hk : gs_wn f ≠ k) (i' j' : Nat) : gs_cl (gs_n σ f i j v) A k i' j' = gs_cl σ A k i' j' := by
  have hh : ∀ q, gs_wn q = k → gs_u σ.1 f i j v q = σ.1 q := fun q e => gs_u_ne (fun e2 => hk (by rw [← e2]; exact e))
  unfold gs_cl gs_n
  split
  · simp only [hh 2 rfl]
  · simp only [hh 3 rfl, hh 4 rfl]
  · simp only [hh 8 rfl, hh 9 rfl]
  · simp only [hh 12 rfl, hh 13 rfl, hh 14 rfl]
  · simp only [hh 7 rfl]
  · simp only [hh 1 rfl]
  · simp only [hh 100 rfl, hh 104 rfl, hh 125 rfl]
  · simp only [hh 0 rfl, hh 15 rfl]
  · rfl
  · rfl
  · simp only [hh 11 rfl]
  · rfl
  · rfl
  · simp only [hh 6 rfl]
  · simp only [hh 5 rfl]
  · simp only [hh 10 rfl]
  · rfl
  · rfl
  · rfl
  · simp only [hh 105 rfl]
  · rfl
  · simp only [hh 107 rfl]
  · simp only [hh 108 rfl]
  · rfl
  · rfl
  · rfl
  · rfl
  · rfl
  · rfl
  · rfl
  · rfl
  · rfl
  · rfl
  · rfl
  · rfl
  · rfl
  · rfl
  · simp only [hh 123 rfl]
  · simp only [hh 124 rfl]
  · rfl
  · simp only [hh 127 rfl]
  · simp only [hh 128 rfl]
  · simp only [hh 129 rfl]
  · rfl
  · rfl
  · rfl
  · rfl
set_option maxHeartbeats 4000000 in
theorem gs_neI {σ : gs_T} {A : gs_A} {f i j : Nat} {v : Int32} {k : Nat} (hk : gs_wi f ≠ k) (i' j' : Nat) : gs_cl (gs_i σ f i j v) A k i' j' = gs_cl σ A k i' j' := by
  have hh : ∀ q, gs_wi q = k → gs_u σ.2.1 f i j v q = σ.2.1 q := fun q e => gs_u_ne (fun e2 => hk (by rw [← e2]; exact e))
  unfold gs_cl gs_i
  split
  · rfl
  · simp only [hh 6 rfl, hh 7 rfl]
  · simp only [hh 16 rfl, hh 17 rfl, hh 18 rfl]
  · simp only [hh 0 rfl, hh 1 rfl, hh 2 rfl, hh 3 rfl, hh 4 rfl]
  · simp only [hh 8 rfl, hh 9 rfl, hh 10 rfl, hh 11 rfl, hh 12 rfl, hh 13 rfl, hh 14 rfl, hh 15 rfl]
  · simp only [hh 5 rfl]
  · simp only [hh 133 rfl]
  · rfl
  · simp only [hh 19 rfl]
  · simp only [hh 20 rfl]
  · rfl
  · simp only [hh 21 rfl]
  · simp only [hh 22 rfl]
  · rfl
  · rfl
  · rfl
  · simp only [hh 101 rfl]
  · simp only [hh 102 rfl]
  · simp only [hh 103 rfl]
  · rfl
  · simp only [hh 106 rfl]
  · rfl
  · rfl
  · simp only [hh 109 rfl]
  · simp only [hh 110 rfl]
  · simp only [hh 111 rfl]
  · simp only [hh 112 rfl]
  · simp only [hh 113 rfl]
  · simp only [hh 114 rfl]
  · simp only [hh 115 rfl]
  · simp only [hh 116 rfl]
  · simp only [hh 117 rfl]
  · simp only [hh 118 rfl]
  · simp only [hh 119 rfl]
  · simp only [hh 120 rfl]
  · simp only [hh 121 rfl]
  · simp only [hh 122 rfl]
  · rfl
  · rfl
  · simp only [hh 126 rfl]
  · rfl
  · rfl
  · rfl
  · simp only [hh 130 rfl]
  · simp only [hh 131 rfl]
  · simp only [hh 132 rfl]
  · rfl
theorem gs_neL {σ : gs_T} {A : gs_A} {q : Nat} {v : Int64} {k : Nat} (hk : k ≠ 3) (i' j' : Nat) : gs_cl (gs_l σ q v) A k i' j' = gs_cl σ A k i' j' := by
  unfold gs_cl gs_l
  split
  any_goals rfl
  exact absurd rfl hk
theorem gs_cl2 {σ : gs_T} {A : gs_A} {k i j : Nat} {fs : List Value} (h : gs_cl σ A k i j = gx_ob 2 fs) : k = 2 := by
  unfold gs_cl at h
  split at h
  all_goals first | rfl | (cases h; done) | (injection h with h1; injection h1 with h2 h3; omega)
/-- the heap h holds the state σ, its objects at the addresses A -/
def gs_R (h : gx_H) (σ : gs_T) (A : gs_A) : Prop := (∀ k i j, gs_lv σ k i j → A k i j < h.1 ∧ h.2.2 (A k i j) = some (gs_cl σ A k i j)) ∧ ∀ k i j k' i' j', k ≠ 2 → k' ≠ 2 → gs_lv σ k i j → gs_lv σ k' i' j' → A k i j = A k' i' j' → k = k' ∧ i = i' ∧ j = j'
theorem gs_R.set {h : gx_H} {σ σ' : gs_T} {A : gs_A} (R : gs_R h σ A) {k i j : Nat} {e : gx_E} (hk : k ≠ 2) (hl : gs_lv σ k i j) (hlv : ∀ k' i' j', gs_lv σ' k' i' j' → gs_lv σ k' i' j') (he : gs_cl σ' A k i j = e) (ho : ∀ k' i' j', gs_lv σ k' i' j' → ¬ (k' = k ∧ i' = i ∧ j' = j) → gs_cl σ' A k' i' j' = gs_cl σ A k' i' j') : gs_R (gx_set h (A k i j) e) σ' A := by
  refine ⟨fun k' i' j' hl' => ?_, fun k1 i1 j1 k2 i2 j2 g1 g2 l1 l2 => R.2 k1 i1 j1 k2 i2 j2 g1 g2 (hlv _ _ _ l1) (hlv _ _ _ l2)⟩
  have hl' := hlv _ _ _ hl'
  refine ⟨(R.1 k' i' j' hl').1, ?_⟩
  by_cases hs : k' = k ∧ i' = i ∧ j' = j
  · obtain ⟨rfl, rfl, rfl⟩ := hs
    simp [gx_set, va_up, he]
  · have hA : A k' i' j' ≠ A k i j := by
      intro hA
      by_cases h2 : k' = 2
      · subst h2
        have e1 := (R.1 2 i' j' hl').2
        have e2 := (R.1 k i j hl).2
        rw [hA, e2] at e1
        exact hk (gs_cl2 (Option.some.inj e1))
      · exact hs (R.2 k' i' j' k i j h2 hk hl' hl hA)
    rw [ho k' i' j' hl' hs]
    simp only [gx_set, va_up, if_neg hA]
    exact (R.1 k' i' j' hl').2
theorem gs_g0 {h : gx_H} {σ : gs_T} {A : gs_A} (R : gs_R h σ A)  : h.2.2 (A 0 0 0) = some (gx_ob 0 [.ref (A 15 0 0), .int (nI (σ.1 2 0 0))]) := (R.1 0 0 0 ⟨rfl, rfl⟩).2
theorem gs_g1 {h : gx_H} {σ : gs_T} {A : gs_A} (R : gs_R h σ A) {i : Nat} (hl : σ.1 15 i 0 = 1) : h.2.2 (A 1 i 0) = some (gx_ob 1 [.int (nI i), .int (σ.2.1 6 i 0), .int (σ.2.1 7 i 0), .ref (A 13 i 0), .ref (A 14 i 0), .int (nI (σ.1 3 i 0)), .int (nI (σ.1 4 i 0))]) := (R.1 1 i 0 ⟨hl, rfl⟩).2
theorem gs_g2 {h : gx_H} {σ : gs_T} {A : gs_A} (R : gs_R h σ A) {i : Nat} (hl : σ.1 10 i 0 = 1) : h.2.2 (A 2 i 0) = some (gx_ob 2 [.int (σ.2.1 16 i 0), .int (σ.2.1 17 i 0), .ref (A 4 (σ.1 8 i 0) (σ.1 9 i 0)), .int (σ.2.1 18 i 0)]) := (R.1 2 i 0 ⟨hl, rfl⟩).2
theorem gs_g3 {h : gx_H} {σ : gs_T} {A : gs_A} (R : gs_R h σ A) {i : Nat} (hl : σ.1 11 i 0 = 1) : h.2.2 (A 3 i 0) = some (gx_ob 3 [.int (nI i), .int (nI (σ.1 12 i 0)), .int (σ.2.1 0 i 0), .int (nI (σ.1 13 i 0)), .int (nI (σ.1 14 i 0)), .int (σ.2.1 1 i 0), .int (σ.2.1 2 i 0), .long (σ.2.2 i), .int (σ.2.1 3 i 0), .int (σ.2.1 4 i 0)]) := (R.1 3 i 0 ⟨hl, rfl⟩).2
theorem gs_g4 {h : gx_H} {σ : gs_T} {A : gs_A} (R : gs_R h σ A) {i j : Nat} (hl : σ.1 6 i j = 1) : h.2.2 (A 4 i j) = some (gx_ob 4 [.ref (A 3 j 0), .int (nI i), va_rf (gs_op (σ.1 7 i j) (fun g => A 4 g j)), .int (σ.2.1 8 i j), .int (σ.2.1 9 i j), .int (σ.2.1 10 i j), .int (σ.2.1 11 i j), .int (σ.2.1 12 i j), .int (σ.2.1 13 i j), .int (σ.2.1 14 i j), .int (σ.2.1 15 i j)]) := (R.1 4 i j hl).2
theorem gs_g5 {h : gx_H} {σ : gs_T} {A : gs_A} (R : gs_R h σ A)  : h.2.2 (A 5 0 0) = some (gx_ob 5 [.ref (A 7 0 0), .ref (A 8 0 0), .ref (A 9 0 0), .ref (A 10 0 0), .ref (A 0 0 0), .int (nI (σ.1 1 0 0)), .int (σ.2.1 5 0 0), .ref (A 11 0 0), .ref (A 12 0 0)]) := (R.1 5 0 0 ⟨rfl, rfl⟩).2
theorem gs_g6 {h : gx_H} {σ : gs_T} {A : gs_A} (R : gs_R h σ A) (hl : σ.1 31 0 0 = 1) : h.2.2 (A 6 0 0) = some (gx_ob 6 [.int (nI (σ.1 100 0 0)), .ref (A 21 0 0), .ref (A 22 0 0), .ref (A 23 0 0), .int (nI (σ.1 104 0 0)), .ref (A 25 0 0), .ref (A 26 0 0), .ref (A 27 0 0), .ref (A 28 0 0), .ref (A 29 0 0), .ref (A 30 0 0), .ref (A 31 0 0), .ref (A 32 0 0), .ref (A 33 0 0), .ref (A 34 0 0), .ref (A 35 0 0), .ref (A 36 0 0), .ref (A 37 0 0), .ref (A 38 0 0), .ref (A 39 0 0), .ref (A 40 0 0), .ref (A 41 0 0), .ref (A 42 0 0), .ref (A 43 0 0), .ref (A 44 0 0), .int (nI (σ.1 125 0 0)), .ref (A 46 0 0), .ref (A 47 0 0), .ref (A 48 0 0), .ref (A 49 0 0), .ref (A 50 0 0), .ref (A 51 0 0), .ref (A 52 0 0), .int (σ.2.1 133 0 0)]) := (R.1 6 0 0 ⟨hl, rfl, rfl⟩).2
theorem gs_g7 {h : gx_H} {σ : gs_T} {A : gs_A} (R : gs_R h σ A)  : h.2.2 (A 7 0 0) = some (gx_ar 2 (σ.1 0 0 0) (fun q => if σ.1 15 q 0 = 1 then some (A 1 q 0) else none)) := (R.1 7 0 0 ⟨rfl, rfl⟩).2
theorem gs_g8 {h : gx_H} {σ : gs_T} {A : gs_A} (R : gs_R h σ A)  : h.2.2 (A 8 0 0) = some (gx_ai 0 16 (fun q => σ.2.1 19 q 0)) := (R.1 8 0 0 ⟨rfl, rfl⟩).2
theorem gs_g9 {h : gx_H} {σ : gs_T} {A : gs_A} (R : gs_R h σ A)  : h.2.2 (A 9 0 0) = some (gx_ai 0 4 (fun q => σ.2.1 20 q 0)) := (R.1 9 0 0 ⟨rfl, rfl⟩).2
theorem gs_g10 {h : gx_H} {σ : gs_T} {A : gs_A} (R : gs_R h σ A)  : h.2.2 (A 10 0 0) = some (gx_ar 4 40 (fun q => if σ.1 11 q 0 = 1 then some (A 3 q 0) else none)) := (R.1 10 0 0 ⟨rfl, rfl⟩).2
theorem gs_g11 {h : gx_H} {σ : gs_T} {A : gs_A} (R : gs_R h σ A)  : h.2.2 (A 11 0 0) = some (gx_ai 0 16 (fun q => σ.2.1 21 q 0)) := (R.1 11 0 0 ⟨rfl, rfl⟩).2
theorem gs_g12 {h : gx_H} {σ : gs_T} {A : gs_A} (R : gs_R h σ A)  : h.2.2 (A 12 0 0) = some (gx_ai 0 16 (fun q => σ.2.1 22 q 0)) := (R.1 12 0 0 ⟨rfl, rfl⟩).2
theorem gs_g13 {h : gx_H} {σ : gs_T} {A : gs_A} (R : gs_R h σ A) {i : Nat} (hl : σ.1 15 i 0 = 1) : h.2.2 (A 13 i 0) = some (gx_ar 5 40 (fun q => if σ.1 6 i q = 1 then some (A 4 i q) else none)) := (R.1 13 i 0 ⟨hl, rfl⟩).2
theorem gs_g14 {h : gx_H} {σ : gs_T} {A : gs_A} (R : gs_R h σ A) {i : Nat} (hl : σ.1 15 i 0 = 1) : h.2.2 (A 14 i 0) = some (gx_ar 5 40 (fun q => gs_op (σ.1 5 i q) (fun x => A 4 i x))) := (R.1 14 i 0 ⟨hl, rfl⟩).2
theorem gs_g15 {h : gx_H} {σ : gs_T} {A : gs_A} (R : gs_R h σ A)  : h.2.2 (A 15 0 0) = some (gx_ar 3 240 (fun q => if σ.1 10 q 0 = 1 then some (A 2 q 0) else none)) := (R.1 15 0 0 ⟨rfl, rfl⟩).2
theorem gs_g21 {h : gx_H} {σ : gs_T} {A : gs_A} (R : gs_R h σ A) (hl : σ.1 31 0 0 = 1) : h.2.2 (A 21 0 0) = some (gx_ai 0 4 (fun q => σ.2.1 101 q 0)) := (R.1 21 0 0 ⟨hl, rfl, rfl⟩).2
theorem gs_g22 {h : gx_H} {σ : gs_T} {A : gs_A} (R : gs_R h σ A) (hl : σ.1 31 0 0 = 1) : h.2.2 (A 22 0 0) = some (gx_ai 1 4 (fun q => σ.2.1 102 q 0)) := (R.1 22 0 0 ⟨hl, rfl, rfl⟩).2
theorem gs_g23 {h : gx_H} {σ : gs_T} {A : gs_A} (R : gs_R h σ A) (hl : σ.1 31 0 0 = 1) : h.2.2 (A 23 0 0) = some (gx_ai 0 16 (fun q => σ.2.1 103 q 0)) := (R.1 23 0 0 ⟨hl, rfl, rfl⟩).2
theorem gs_g25 {h : gx_H} {σ : gs_T} {A : gs_A} (R : gs_R h σ A) (hl : σ.1 31 0 0 = 1) : h.2.2 (A 25 0 0) = some (gx_ai 0 40 (fun q => nI (σ.1 105 q 0))) := (R.1 25 0 0 ⟨hl, rfl, rfl⟩).2
theorem gs_g26 {h : gx_H} {σ : gs_T} {A : gs_A} (R : gs_R h σ A) (hl : σ.1 31 0 0 = 1) : h.2.2 (A 26 0 0) = some (gx_ai 0 40 (fun q => σ.2.1 106 q 0)) := (R.1 26 0 0 ⟨hl, rfl, rfl⟩).2
theorem gs_g27 {h : gx_H} {σ : gs_T} {A : gs_A} (R : gs_R h σ A) (hl : σ.1 31 0 0 = 1) : h.2.2 (A 27 0 0) = some (gx_ai 0 40 (fun q => nI (σ.1 107 q 0))) := (R.1 27 0 0 ⟨hl, rfl, rfl⟩).2
theorem gs_g28 {h : gx_H} {σ : gs_T} {A : gs_A} (R : gs_R h σ A) (hl : σ.1 31 0 0 = 1) : h.2.2 (A 28 0 0) = some (gx_ai 0 40 (fun q => nI (σ.1 108 q 0))) := (R.1 28 0 0 ⟨hl, rfl, rfl⟩).2
theorem gs_g29 {h : gx_H} {σ : gs_T} {A : gs_A} (R : gs_R h σ A) (hl : σ.1 31 0 0 = 1) : h.2.2 (A 29 0 0) = some (gx_ai 0 40 (fun q => σ.2.1 109 q 0)) := (R.1 29 0 0 ⟨hl, rfl, rfl⟩).2
theorem gs_g30 {h : gx_H} {σ : gs_T} {A : gs_A} (R : gs_R h σ A) (hl : σ.1 31 0 0 = 1) : h.2.2 (A 30 0 0) = some (gx_ai 0 40 (fun q => σ.2.1 110 q 0)) := (R.1 30 0 0 ⟨hl, rfl, rfl⟩).2
theorem gs_g31 {h : gx_H} {σ : gs_T} {A : gs_A} (R : gs_R h σ A) (hl : σ.1 31 0 0 = 1) : h.2.2 (A 31 0 0) = some (gx_ai 1 40 (fun q => σ.2.1 111 q 0)) := (R.1 31 0 0 ⟨hl, rfl, rfl⟩).2
theorem gs_g32 {h : gx_H} {σ : gs_T} {A : gs_A} (R : gs_R h σ A) (hl : σ.1 31 0 0 = 1) : h.2.2 (A 32 0 0) = some (gx_ai 0 40 (fun q => σ.2.1 112 q 0)) := (R.1 32 0 0 ⟨hl, rfl, rfl⟩).2
theorem gs_g33 {h : gx_H} {σ : gs_T} {A : gs_A} (R : gs_R h σ A) (hl : σ.1 31 0 0 = 1) : h.2.2 (A 33 0 0) = some (gx_ai 0 4 (fun q => σ.2.1 113 q 0)) := (R.1 33 0 0 ⟨hl, rfl, rfl⟩).2
theorem gs_g34 {h : gx_H} {σ : gs_T} {A : gs_A} (R : gs_R h σ A) (hl : σ.1 31 0 0 = 1) : h.2.2 (A 34 0 0) = some (gx_ai 1 160 (fun q => σ.2.1 114 q 0)) := (R.1 34 0 0 ⟨hl, rfl, rfl⟩).2
theorem gs_g35 {h : gx_H} {σ : gs_T} {A : gs_A} (R : gs_R h σ A) (hl : σ.1 31 0 0 = 1) : h.2.2 (A 35 0 0) = some (gx_ai 0 160 (fun q => σ.2.1 115 q 0)) := (R.1 35 0 0 ⟨hl, rfl, rfl⟩).2
theorem gs_g36 {h : gx_H} {σ : gs_T} {A : gs_A} (R : gs_R h σ A) (hl : σ.1 31 0 0 = 1) : h.2.2 (A 36 0 0) = some (gx_ai 1 160 (fun q => σ.2.1 116 q 0)) := (R.1 36 0 0 ⟨hl, rfl, rfl⟩).2
theorem gs_g37 {h : gx_H} {σ : gs_T} {A : gs_A} (R : gs_R h σ A) (hl : σ.1 31 0 0 = 1) : h.2.2 (A 37 0 0) = some (gx_ai 1 160 (fun q => σ.2.1 117 q 0)) := (R.1 37 0 0 ⟨hl, rfl, rfl⟩).2
theorem gs_g38 {h : gx_H} {σ : gs_T} {A : gs_A} (R : gs_R h σ A) (hl : σ.1 31 0 0 = 1) : h.2.2 (A 38 0 0) = some (gx_ai 1 160 (fun q => σ.2.1 118 q 0)) := (R.1 38 0 0 ⟨hl, rfl, rfl⟩).2
theorem gs_g39 {h : gx_H} {σ : gs_T} {A : gs_A} (R : gs_R h σ A) (hl : σ.1 31 0 0 = 1) : h.2.2 (A 39 0 0) = some (gx_ai 0 640 (fun q => σ.2.1 119 q 0)) := (R.1 39 0 0 ⟨hl, rfl, rfl⟩).2
theorem gs_g40 {h : gx_H} {σ : gs_T} {A : gs_A} (R : gs_R h σ A) (hl : σ.1 31 0 0 = 1) : h.2.2 (A 40 0 0) = some (gx_ai 1 640 (fun q => σ.2.1 120 q 0)) := (R.1 40 0 0 ⟨hl, rfl, rfl⟩).2
theorem gs_g41 {h : gx_H} {σ : gs_T} {A : gs_A} (R : gs_R h σ A) (hl : σ.1 31 0 0 = 1) : h.2.2 (A 41 0 0) = some (gx_ai 0 640 (fun q => σ.2.1 121 q 0)) := (R.1 41 0 0 ⟨hl, rfl, rfl⟩).2
theorem gs_g42 {h : gx_H} {σ : gs_T} {A : gs_A} (R : gs_R h σ A) (hl : σ.1 31 0 0 = 1) : h.2.2 (A 42 0 0) = some (gx_ai 0 640 (fun q => σ.2.1 122 q 0)) := (R.1 42 0 0 ⟨hl, rfl, rfl⟩).2
theorem gs_g43 {h : gx_H} {σ : gs_T} {A : gs_A} (R : gs_R h σ A) (hl : σ.1 31 0 0 = 1) : h.2.2 (A 43 0 0) = some (gx_ai 0 4 (fun q => nI (σ.1 123 q 0))) := (R.1 43 0 0 ⟨hl, rfl, rfl⟩).2
theorem gs_g44 {h : gx_H} {σ : gs_T} {A : gs_A} (R : gs_R h σ A) (hl : σ.1 31 0 0 = 1) : h.2.2 (A 44 0 0) = some (gx_ai 0 160 (fun q => nI (σ.1 124 q 0))) := (R.1 44 0 0 ⟨hl, rfl, rfl⟩).2
theorem gs_g46 {h : gx_H} {σ : gs_T} {A : gs_A} (R : gs_R h σ A) (hl : σ.1 31 0 0 = 1) : h.2.2 (A 46 0 0) = some (gx_ai 0 400 (fun q => σ.2.1 126 q 0)) := (R.1 46 0 0 ⟨hl, rfl, rfl⟩).2
theorem gs_g47 {h : gx_H} {σ : gs_T} {A : gs_A} (R : gs_R h σ A) (hl : σ.1 31 0 0 = 1) : h.2.2 (A 47 0 0) = some (gx_ai 0 400 (fun q => nI (σ.1 127 q 0))) := (R.1 47 0 0 ⟨hl, rfl, rfl⟩).2
theorem gs_g48 {h : gx_H} {σ : gs_T} {A : gs_A} (R : gs_R h σ A) (hl : σ.1 31 0 0 = 1) : h.2.2 (A 48 0 0) = some (gx_ai 0 400 (fun q => gs_sf (σ.1 128 q 0))) := (R.1 48 0 0 ⟨hl, rfl, rfl⟩).2
theorem gs_g49 {h : gx_H} {σ : gs_T} {A : gs_A} (R : gs_R h σ A) (hl : σ.1 31 0 0 = 1) : h.2.2 (A 49 0 0) = some (gx_ai 0 400 (fun q => nI (σ.1 129 q 0))) := (R.1 49 0 0 ⟨hl, rfl, rfl⟩).2
theorem gs_g50 {h : gx_H} {σ : gs_T} {A : gs_A} (R : gs_R h σ A) (hl : σ.1 31 0 0 = 1) : h.2.2 (A 50 0 0) = some (gx_ai 0 400 (fun q => σ.2.1 130 q 0)) := (R.1 50 0 0 ⟨hl, rfl, rfl⟩).2
theorem gs_g51 {h : gx_H} {σ : gs_T} {A : gs_A} (R : gs_R h σ A) (hl : σ.1 31 0 0 = 1) : h.2.2 (A 51 0 0) = some (gx_ai 0 400 (fun q => σ.2.1 131 q 0)) := (R.1 51 0 0 ⟨hl, rfl, rfl⟩).2
theorem gs_g52 {h : gx_H} {σ : gs_T} {A : gs_A} (R : gs_R h σ A) (hl : σ.1 31 0 0 = 1) : h.2.2 (A 52 0 0) = some (gx_ai 0 400 (fun q => σ.2.1 132 q 0)) := (R.1 52 0 0 ⟨hl, rfl, rfl⟩).2
end
section
/-! writing rows over the state -/
def gs_sm (h h' : gx_H) : Prop := h'.1 = h.1 ∧ h'.2.1 = h.2.1
theorem gs_sm.rfl {h : gx_H} : gs_sm h h := ⟨Eq.refl _, Eq.refl _⟩
theorem gs_sm.trans {a b c : gx_H} (h1 : gs_sm a b) (h2 : gs_sm b c) : gs_sm a c := ⟨h2.1.trans h1.1, h2.2.trans h1.2⟩
theorem gs_lvI {σ : gs_T} {f i j : Nat} {v : Int32} : ∀ k' i' j', gs_lv (gs_i σ f i j v) k' i' j' → gs_lv σ k' i' j' := fun _ _ _ h => h
theorem gs_lvL {σ : gs_T} {q : Nat} {v : Int64} : ∀ k' i' j', gs_lv (gs_l σ q v) k' i' j' → gs_lv σ k' i' j' := fun _ _ _ h => h
def gs_fl (f : Nat) : Bool := f == 6 || f == 10 || f == 11 || f == 15 || f == 31
theorem gs_lvN {σ : gs_T} {f i j v : Nat} (hf : gs_fl f = false) : ∀ k' i' j', gs_lv (gs_n σ f i j v) k' i' j' → gs_lv σ k' i' j' := by
  intro k' i' j' h
  have e1 : gs_u σ.1 f i j v 6 = σ.1 6 := gs_u_ne (fun e => by subst e; cases hf)
  have e2 : gs_u σ.1 f i j v 10 = σ.1 10 := gs_u_ne (fun e => by subst e; cases hf)
  have e3 : gs_u σ.1 f i j v 11 = σ.1 11 := gs_u_ne (fun e => by subst e; cases hf)
  have e4 : gs_u σ.1 f i j v 15 = σ.1 15 := gs_u_ne (fun e => by subst e; cases hf)
  have e5 : gs_u σ.1 f i j v 31 = σ.1 31 := gs_u_ne (fun e => by subst e; cases hf)
  simpa only [gs_lv, gs_n, e1, e2, e3, e4, e5] using h
theorem gp_I6 {S : gx_S} {M : gx_M} {d pc : Nat} {L : List (Option Value)} {st : List Value} {h : gx_H} {Q : Option Value → gx_H → Prop} {σ : gs_T} {A : gs_A} {idx : Nat}  {i : Nat} {v : Int32} (hl : σ.1 15 i 0 = 1)  (hd : decode M.2.2.1 pc = .ok (.putfield idx, 3)) (hf : gx_FL M.1 idx 1 1 (.boolean) false) (R : gs_R h σ A) (hv : v = 0 ∨ v = 1) (kk : ∀ h', gs_R h' (gs_i σ 6 i 0 v) A → gs_sm h h' → gx_Ev S M d (pc + 3) L st h' Q) : gx_Ev S M d pc L (.int v :: .ref (A 1 i 0) :: st) h Q := by
  skip
  refine gx_put hd hf (gs_g1 R hl) (by simp) (by rcases hv with rfl | rfl <;> rfl) (by rcases hv with rfl | rfl <;> rfl) (kk _ ?_ ⟨rfl, rfl⟩)
  refine R.set (k := 1) (by decide) ⟨hl, rfl⟩ gs_lvI ?_ (fun k' i' j' hl' hne => ?_)
  · simp [gs_cl, gs_i, gs_u, gs_op, gs_sf, va_rf]
  · by_cases hk : k' = 1
    · subst hk
      simp only [gs_lv] at hl'
      have hne2 : ¬ (i' = i ∧ j' = 0) := fun e => hne ⟨rfl, e.1, e.2⟩
      try simp only [hl'.2] at hne2 ⊢
      try simp only [hl'.1] at hne2 ⊢
      simp_all [gs_cl, gs_i, gs_u]
    · exact gs_neI (show gs_wi 6 ≠ k' from fun e => hk e.symm) _ _
theorem gp_I7 {S : gx_S} {M : gx_M} {d pc : Nat} {L : List (Option Value)} {st : List Value} {h : gx_H} {Q : Option Value → gx_H → Prop} {σ : gs_T} {A : gs_A} {idx : Nat}  {i : Nat} {v : Int32} (hl : σ.1 15 i 0 = 1)  (hd : decode M.2.2.1 pc = .ok (.putfield idx, 3)) (hf : gx_FL M.1 idx 1 2 (.int) false) (R : gs_R h σ A) (kk : ∀ h', gs_R h' (gs_i σ 7 i 0 v) A → gs_sm h h' → gx_Ev S M d (pc + 3) L st h' Q) : gx_Ev S M d pc L (.int v :: .ref (A 1 i 0) :: st) h Q := by
  skip
  refine gx_put hd hf (gs_g1 R hl) (by simp) rfl rfl (kk _ ?_ ⟨rfl, rfl⟩)
  refine R.set (k := 1) (by decide) ⟨hl, rfl⟩ gs_lvI ?_ (fun k' i' j' hl' hne => ?_)
  · simp [gs_cl, gs_i, gs_u, gs_op, gs_sf, va_rf]
  · by_cases hk : k' = 1
    · subst hk
      simp only [gs_lv] at hl'
      have hne2 : ¬ (i' = i ∧ j' = 0) := fun e => hne ⟨rfl, e.1, e.2⟩
      try simp only [hl'.2] at hne2 ⊢
      try simp only [hl'.1] at hne2 ⊢
      simp_all [gs_cl, gs_i, gs_u]
    · exact gs_neI (show gs_wi 7 ≠ k' from fun e => hk e.symm) _ _
theorem gp_I3 {S : gx_S} {M : gx_M} {d pc : Nat} {L : List (Option Value)} {st : List Value} {h : gx_H} {Q : Option Value → gx_H → Prop} {σ : gs_T} {A : gs_A} {idx : Nat}  {i : Nat} {v : Int32} (hl : σ.1 11 i 0 = 1)  (hd : decode M.2.2.1 pc = .ok (.putfield idx, 3)) (hf : gx_FL M.1 idx 3 8 (.boolean) false) (R : gs_R h σ A) (hv : v = 0 ∨ v = 1) (kk : ∀ h', gs_R h' (gs_i σ 3 i 0 v) A → gs_sm h h' → gx_Ev S M d (pc + 3) L st h' Q) : gx_Ev S M d pc L (.int v :: .ref (A 3 i 0) :: st) h Q := by
  skip
  refine gx_put hd hf (gs_g3 R hl) (by simp) (by rcases hv with rfl | rfl <;> rfl) (by rcases hv with rfl | rfl <;> rfl) (kk _ ?_ ⟨rfl, rfl⟩)
  refine R.set (k := 3) (by decide) ⟨hl, rfl⟩ gs_lvI ?_ (fun k' i' j' hl' hne => ?_)
  · simp [gs_cl, gs_i, gs_u, gs_op, gs_sf, va_rf]
  · by_cases hk : k' = 3
    · subst hk
      simp only [gs_lv] at hl'
      have hne2 : ¬ (i' = i ∧ j' = 0) := fun e => hne ⟨rfl, e.1, e.2⟩
      try simp only [hl'.2] at hne2 ⊢
      try simp only [hl'.1] at hne2 ⊢
      simp_all [gs_cl, gs_i, gs_u]
    · exact gs_neI (show gs_wi 3 ≠ k' from fun e => hk e.symm) _ _
theorem gp_I4 {S : gx_S} {M : gx_M} {d pc : Nat} {L : List (Option Value)} {st : List Value} {h : gx_H} {Q : Option Value → gx_H → Prop} {σ : gs_T} {A : gs_A} {idx : Nat}  {i : Nat} {v : Int32} (hl : σ.1 11 i 0 = 1)  (hd : decode M.2.2.1 pc = .ok (.putfield idx, 3)) (hf : gx_FL M.1 idx 3 9 (.int) false) (R : gs_R h σ A) (kk : ∀ h', gs_R h' (gs_i σ 4 i 0 v) A → gs_sm h h' → gx_Ev S M d (pc + 3) L st h' Q) : gx_Ev S M d pc L (.int v :: .ref (A 3 i 0) :: st) h Q := by
  skip
  refine gx_put hd hf (gs_g3 R hl) (by simp) rfl rfl (kk _ ?_ ⟨rfl, rfl⟩)
  refine R.set (k := 3) (by decide) ⟨hl, rfl⟩ gs_lvI ?_ (fun k' i' j' hl' hne => ?_)
  · simp [gs_cl, gs_i, gs_u, gs_op, gs_sf, va_rf]
  · by_cases hk : k' = 3
    · subst hk
      simp only [gs_lv] at hl'
      have hne2 : ¬ (i' = i ∧ j' = 0) := fun e => hne ⟨rfl, e.1, e.2⟩
      try simp only [hl'.2] at hne2 ⊢
      try simp only [hl'.1] at hne2 ⊢
      simp_all [gs_cl, gs_i, gs_u]
    · exact gs_neI (show gs_wi 4 ≠ k' from fun e => hk e.symm) _ _
theorem gp_I8 {S : gx_S} {M : gx_M} {d pc : Nat} {L : List (Option Value)} {st : List Value} {h : gx_H} {Q : Option Value → gx_H → Prop} {σ : gs_T} {A : gs_A} {idx : Nat}  {i j : Nat} {v : Int32} (hl : σ.1 6 i j = 1)  (hd : decode M.2.2.1 pc = .ok (.putfield idx, 3)) (hf : gx_FL M.1 idx 4 3 (.int) false) (R : gs_R h σ A) (kk : ∀ h', gs_R h' (gs_i σ 8 i j v) A → gs_sm h h' → gx_Ev S M d (pc + 3) L st h' Q) : gx_Ev S M d pc L (.int v :: .ref (A 4 i j) :: st) h Q := by
  skip
  refine gx_put hd hf (gs_g4 R hl) (by simp) rfl rfl (kk _ ?_ ⟨rfl, rfl⟩)
  refine R.set (k := 4) (by decide) hl gs_lvI ?_ (fun k' i' j' hl' hne => ?_)
  · simp [gs_cl, gs_i, gs_u, gs_op, gs_sf, va_rf]
  · by_cases hk : k' = 4
    · subst hk
      simp only [gs_lv] at hl'
      have hne2 : ¬ (i' = i ∧ j' = j) := fun e => hne ⟨rfl, e.1, e.2⟩
      try simp only [hl'.2] at hne2 ⊢
      try simp only [hl'.1] at hne2 ⊢
      simp_all [gs_cl, gs_i, gs_u]
    · exact gs_neI (show gs_wi 8 ≠ k' from fun e => hk e.symm) _ _
theorem gp_I9 {S : gx_S} {M : gx_M} {d pc : Nat} {L : List (Option Value)} {st : List Value} {h : gx_H} {Q : Option Value → gx_H → Prop} {σ : gs_T} {A : gs_A} {idx : Nat}  {i j : Nat} {v : Int32} (hl : σ.1 6 i j = 1)  (hd : decode M.2.2.1 pc = .ok (.putfield idx, 3)) (hf : gx_FL M.1 idx 4 4 (.int) false) (R : gs_R h σ A) (kk : ∀ h', gs_R h' (gs_i σ 9 i j v) A → gs_sm h h' → gx_Ev S M d (pc + 3) L st h' Q) : gx_Ev S M d pc L (.int v :: .ref (A 4 i j) :: st) h Q := by
  skip
  refine gx_put hd hf (gs_g4 R hl) (by simp) rfl rfl (kk _ ?_ ⟨rfl, rfl⟩)
  refine R.set (k := 4) (by decide) hl gs_lvI ?_ (fun k' i' j' hl' hne => ?_)
  · simp [gs_cl, gs_i, gs_u, gs_op, gs_sf, va_rf]
  · by_cases hk : k' = 4
    · subst hk
      simp only [gs_lv] at hl'
      have hne2 : ¬ (i' = i ∧ j' = j) := fun e => hne ⟨rfl, e.1, e.2⟩
      try simp only [hl'.2] at hne2 ⊢
      try simp only [hl'.1] at hne2 ⊢
      simp_all [gs_cl, gs_i, gs_u]
    · exact gs_neI (show gs_wi 9 ≠ k' from fun e => hk e.symm) _ _
theorem gp_I10 {S : gx_S} {M : gx_M} {d pc : Nat} {L : List (Option Value)} {st : List Value} {h : gx_H} {Q : Option Value → gx_H → Prop} {σ : gs_T} {A : gs_A} {idx : Nat}  {i j : Nat} {v : Int32} (hl : σ.1 6 i j = 1)  (hd : decode M.2.2.1 pc = .ok (.putfield idx, 3)) (hf : gx_FL M.1 idx 4 5 (.int) false) (R : gs_R h σ A) (kk : ∀ h', gs_R h' (gs_i σ 10 i j v) A → gs_sm h h' → gx_Ev S M d (pc + 3) L st h' Q) : gx_Ev S M d pc L (.int v :: .ref (A 4 i j) :: st) h Q := by
  skip
  refine gx_put hd hf (gs_g4 R hl) (by simp) rfl rfl (kk _ ?_ ⟨rfl, rfl⟩)
  refine R.set (k := 4) (by decide) hl gs_lvI ?_ (fun k' i' j' hl' hne => ?_)
  · simp [gs_cl, gs_i, gs_u, gs_op, gs_sf, va_rf]
  · by_cases hk : k' = 4
    · subst hk
      simp only [gs_lv] at hl'
      have hne2 : ¬ (i' = i ∧ j' = j) := fun e => hne ⟨rfl, e.1, e.2⟩
      try simp only [hl'.2] at hne2 ⊢
      try simp only [hl'.1] at hne2 ⊢
      simp_all [gs_cl, gs_i, gs_u]
    · exact gs_neI (show gs_wi 10 ≠ k' from fun e => hk e.symm) _ _
theorem gp_I11 {S : gx_S} {M : gx_M} {d pc : Nat} {L : List (Option Value)} {st : List Value} {h : gx_H} {Q : Option Value → gx_H → Prop} {σ : gs_T} {A : gs_A} {idx : Nat}  {i j : Nat} {v : Int32} (hl : σ.1 6 i j = 1)  (hd : decode M.2.2.1 pc = .ok (.putfield idx, 3)) (hf : gx_FL M.1 idx 4 6 (.boolean) false) (R : gs_R h σ A) (hv : v = 0 ∨ v = 1) (kk : ∀ h', gs_R h' (gs_i σ 11 i j v) A → gs_sm h h' → gx_Ev S M d (pc + 3) L st h' Q) : gx_Ev S M d pc L (.int v :: .ref (A 4 i j) :: st) h Q := by
  skip
  refine gx_put hd hf (gs_g4 R hl) (by simp) (by rcases hv with rfl | rfl <;> rfl) (by rcases hv with rfl | rfl <;> rfl) (kk _ ?_ ⟨rfl, rfl⟩)
  refine R.set (k := 4) (by decide) hl gs_lvI ?_ (fun k' i' j' hl' hne => ?_)
  · simp [gs_cl, gs_i, gs_u, gs_op, gs_sf, va_rf]
  · by_cases hk : k' = 4
    · subst hk
      simp only [gs_lv] at hl'
      have hne2 : ¬ (i' = i ∧ j' = j) := fun e => hne ⟨rfl, e.1, e.2⟩
      try simp only [hl'.2] at hne2 ⊢
      try simp only [hl'.1] at hne2 ⊢
      simp_all [gs_cl, gs_i, gs_u]
    · exact gs_neI (show gs_wi 11 ≠ k' from fun e => hk e.symm) _ _
theorem gp_I12 {S : gx_S} {M : gx_M} {d pc : Nat} {L : List (Option Value)} {st : List Value} {h : gx_H} {Q : Option Value → gx_H → Prop} {σ : gs_T} {A : gs_A} {idx : Nat}  {i j : Nat} {v : Int32} (hl : σ.1 6 i j = 1)  (hd : decode M.2.2.1 pc = .ok (.putfield idx, 3)) (hf : gx_FL M.1 idx 4 7 (.boolean) false) (R : gs_R h σ A) (hv : v = 0 ∨ v = 1) (kk : ∀ h', gs_R h' (gs_i σ 12 i j v) A → gs_sm h h' → gx_Ev S M d (pc + 3) L st h' Q) : gx_Ev S M d pc L (.int v :: .ref (A 4 i j) :: st) h Q := by
  skip
  refine gx_put hd hf (gs_g4 R hl) (by simp) (by rcases hv with rfl | rfl <;> rfl) (by rcases hv with rfl | rfl <;> rfl) (kk _ ?_ ⟨rfl, rfl⟩)
  refine R.set (k := 4) (by decide) hl gs_lvI ?_ (fun k' i' j' hl' hne => ?_)
  · simp [gs_cl, gs_i, gs_u, gs_op, gs_sf, va_rf]
  · by_cases hk : k' = 4
    · subst hk
      simp only [gs_lv] at hl'
      have hne2 : ¬ (i' = i ∧ j' = j) := fun e => hne ⟨rfl, e.1, e.2⟩
      try simp only [hl'.2] at hne2 ⊢
      try simp only [hl'.1] at hne2 ⊢
      simp_all [gs_cl, gs_i, gs_u]
    · exact gs_neI (show gs_wi 12 ≠ k' from fun e => hk e.symm) _ _
theorem gp_I13 {S : gx_S} {M : gx_M} {d pc : Nat} {L : List (Option Value)} {st : List Value} {h : gx_H} {Q : Option Value → gx_H → Prop} {σ : gs_T} {A : gs_A} {idx : Nat}  {i j : Nat} {v : Int32} (hl : σ.1 6 i j = 1)  (hd : decode M.2.2.1 pc = .ok (.putfield idx, 3)) (hf : gx_FL M.1 idx 4 8 (.boolean) false) (R : gs_R h σ A) (hv : v = 0 ∨ v = 1) (kk : ∀ h', gs_R h' (gs_i σ 13 i j v) A → gs_sm h h' → gx_Ev S M d (pc + 3) L st h' Q) : gx_Ev S M d pc L (.int v :: .ref (A 4 i j) :: st) h Q := by
  skip
  refine gx_put hd hf (gs_g4 R hl) (by simp) (by rcases hv with rfl | rfl <;> rfl) (by rcases hv with rfl | rfl <;> rfl) (kk _ ?_ ⟨rfl, rfl⟩)
  refine R.set (k := 4) (by decide) hl gs_lvI ?_ (fun k' i' j' hl' hne => ?_)
  · simp [gs_cl, gs_i, gs_u, gs_op, gs_sf, va_rf]
  · by_cases hk : k' = 4
    · subst hk
      simp only [gs_lv] at hl'
      have hne2 : ¬ (i' = i ∧ j' = j) := fun e => hne ⟨rfl, e.1, e.2⟩
      try simp only [hl'.2] at hne2 ⊢
      try simp only [hl'.1] at hne2 ⊢
      simp_all [gs_cl, gs_i, gs_u]
    · exact gs_neI (show gs_wi 13 ≠ k' from fun e => hk e.symm) _ _
theorem gp_I14 {S : gx_S} {M : gx_M} {d pc : Nat} {L : List (Option Value)} {st : List Value} {h : gx_H} {Q : Option Value → gx_H → Prop} {σ : gs_T} {A : gs_A} {idx : Nat}  {i j : Nat} {v : Int32} (hl : σ.1 6 i j = 1)  (hd : decode M.2.2.1 pc = .ok (.putfield idx, 3)) (hf : gx_FL M.1 idx 4 9 (.int) false) (R : gs_R h σ A) (kk : ∀ h', gs_R h' (gs_i σ 14 i j v) A → gs_sm h h' → gx_Ev S M d (pc + 3) L st h' Q) : gx_Ev S M d pc L (.int v :: .ref (A 4 i j) :: st) h Q := by
  skip
  refine gx_put hd hf (gs_g4 R hl) (by simp) rfl rfl (kk _ ?_ ⟨rfl, rfl⟩)
  refine R.set (k := 4) (by decide) hl gs_lvI ?_ (fun k' i' j' hl' hne => ?_)
  · simp [gs_cl, gs_i, gs_u, gs_op, gs_sf, va_rf]
  · by_cases hk : k' = 4
    · subst hk
      simp only [gs_lv] at hl'
      have hne2 : ¬ (i' = i ∧ j' = j) := fun e => hne ⟨rfl, e.1, e.2⟩
      try simp only [hl'.2] at hne2 ⊢
      try simp only [hl'.1] at hne2 ⊢
      simp_all [gs_cl, gs_i, gs_u]
    · exact gs_neI (show gs_wi 14 ≠ k' from fun e => hk e.symm) _ _
theorem gp_I15 {S : gx_S} {M : gx_M} {d pc : Nat} {L : List (Option Value)} {st : List Value} {h : gx_H} {Q : Option Value → gx_H → Prop} {σ : gs_T} {A : gs_A} {idx : Nat}  {i j : Nat} {v : Int32} (hl : σ.1 6 i j = 1)  (hd : decode M.2.2.1 pc = .ok (.putfield idx, 3)) (hf : gx_FL M.1 idx 4 10 (.boolean) false) (R : gs_R h σ A) (hv : v = 0 ∨ v = 1) (kk : ∀ h', gs_R h' (gs_i σ 15 i j v) A → gs_sm h h' → gx_Ev S M d (pc + 3) L st h' Q) : gx_Ev S M d pc L (.int v :: .ref (A 4 i j) :: st) h Q := by
  skip
  refine gx_put hd hf (gs_g4 R hl) (by simp) (by rcases hv with rfl | rfl <;> rfl) (by rcases hv with rfl | rfl <;> rfl) (kk _ ?_ ⟨rfl, rfl⟩)
  refine R.set (k := 4) (by decide) hl gs_lvI ?_ (fun k' i' j' hl' hne => ?_)
  · simp [gs_cl, gs_i, gs_u, gs_op, gs_sf, va_rf]
  · by_cases hk : k' = 4
    · subst hk
      simp only [gs_lv] at hl'
      have hne2 : ¬ (i' = i ∧ j' = j) := fun e => hne ⟨rfl, e.1, e.2⟩
      try simp only [hl'.2] at hne2 ⊢
      try simp only [hl'.1] at hne2 ⊢
      simp_all [gs_cl, gs_i, gs_u]
    · exact gs_neI (show gs_wi 15 ≠ k' from fun e => hk e.symm) _ _
theorem gp_I5 {S : gx_S} {M : gx_M} {d pc : Nat} {L : List (Option Value)} {st : List Value} {h : gx_H} {Q : Option Value → gx_H → Prop} {σ : gs_T} {A : gs_A} {idx : Nat}  {v : Int32}  (hd : decode M.2.2.1 pc = .ok (.putfield idx, 3)) (hf : gx_FL M.1 idx 5 6 (.int) false) (R : gs_R h σ A) (kk : ∀ h', gs_R h' (gs_i σ 5 0 0 v) A → gs_sm h h' → gx_Ev S M d (pc + 3) L st h' Q) : gx_Ev S M d pc L (.int v :: .ref (A 5 0 0) :: st) h Q := by
  skip
  refine gx_put hd hf (gs_g5 R ) (by simp) rfl rfl (kk _ ?_ ⟨rfl, rfl⟩)
  refine R.set (k := 5) (by decide) ⟨rfl, rfl⟩ gs_lvI ?_ (fun k' i' j' hl' hne => ?_)
  · simp [gs_cl, gs_i, gs_u, gs_op, gs_sf, va_rf]
  · by_cases hk : k' = 5
    · subst hk
      simp only [gs_lv] at hl'
      have hne2 : ¬ (i' = 0 ∧ j' = 0) := fun e => hne ⟨rfl, e.1, e.2⟩
      try simp only [hl'.2] at hne2 ⊢
      try simp only [hl'.1] at hne2 ⊢
      simp_all [gs_cl, gs_i, gs_u]
    · exact gs_neI (show gs_wi 5 ≠ k' from fun e => hk e.symm) _ _
theorem gp_N1 {S : gx_S} {M : gx_M} {d pc : Nat} {L : List (Option Value)} {st : List Value} {h : gx_H} {Q : Option Value → gx_H → Prop} {σ : gs_T} {A : gs_A} {idx : Nat} {y : Int32} {v : Nat}  (hd : decode M.2.2.1 pc = .ok (.putfield idx, 3)) (hf : gx_FL M.1 idx 5 5 (.int) false) (R : gs_R h σ A) (hy : y = nI v) (kk : ∀ h', gs_R h' (gs_n σ 1 0 0 v) A → gs_sm h h' → gx_Ev S M d (pc + 3) L st h' Q) : gx_Ev S M d pc L (.int y :: .ref (A 5 0 0) :: st) h Q := by
  subst hy
  refine gx_put hd hf (gs_g5 R ) (by simp) rfl rfl (kk _ ?_ ⟨rfl, rfl⟩)
  refine R.set (k := 5) (by decide) ⟨rfl, rfl⟩ (gs_lvN (by decide)) ?_ (fun k' i' j' hl' hne => ?_)
  · simp [gs_cl, gs_n, gs_u, gs_op, gs_sf, va_rf]
  · by_cases hk : k' = 5
    · subst hk
      simp only [gs_lv] at hl'
      have hne2 : ¬ (i' = 0 ∧ j' = 0) := fun e => hne ⟨rfl, e.1, e.2⟩
      try simp only [hl'.2] at hne2 ⊢
      try simp only [hl'.1] at hne2 ⊢
      simp_all [gs_cl, gs_n, gs_u]
    · exact gs_neN (show gs_wn 1 ≠ k' from fun e => hk e.symm) _ _
theorem gp_N2 {S : gx_S} {M : gx_M} {d pc : Nat} {L : List (Option Value)} {st : List Value} {h : gx_H} {Q : Option Value → gx_H → Prop} {σ : gs_T} {A : gs_A} {idx : Nat} {y : Int32} {v : Nat}  (hd : decode M.2.2.1 pc = .ok (.putfield idx, 3)) (hf : gx_FL M.1 idx 0 1 (.int) false) (R : gs_R h σ A) (hy : y = nI v) (kk : ∀ h', gs_R h' (gs_n σ 2 0 0 v) A → gs_sm h h' → gx_Ev S M d (pc + 3) L st h' Q) : gx_Ev S M d pc L (.int y :: .ref (A 0 0 0) :: st) h Q := by
  subst hy
  refine gx_put hd hf (gs_g0 R ) (by simp) rfl rfl (kk _ ?_ ⟨rfl, rfl⟩)
  refine R.set (k := 0) (by decide) ⟨rfl, rfl⟩ (gs_lvN (by decide)) ?_ (fun k' i' j' hl' hne => ?_)
  · simp [gs_cl, gs_n, gs_u, gs_op, gs_sf, va_rf]
  · by_cases hk : k' = 0
    · subst hk
      simp only [gs_lv] at hl'
      have hne2 : ¬ (i' = 0 ∧ j' = 0) := fun e => hne ⟨rfl, e.1, e.2⟩
      try simp only [hl'.2] at hne2 ⊢
      try simp only [hl'.1] at hne2 ⊢
      simp_all [gs_cl, gs_n, gs_u]
    · exact gs_neN (show gs_wn 2 ≠ k' from fun e => hk e.symm) _ _
theorem gp_N3 {S : gx_S} {M : gx_M} {d pc : Nat} {L : List (Option Value)} {st : List Value} {h : gx_H} {Q : Option Value → gx_H → Prop} {σ : gs_T} {A : gs_A} {idx : Nat} {y : Int32} {i : Nat} {v : Nat} (hl : σ.1 15 i 0 = 1)  (hd : decode M.2.2.1 pc = .ok (.putfield idx, 3)) (hf : gx_FL M.1 idx 1 5 (.int) false) (R : gs_R h σ A) (hy : y = nI v) (kk : ∀ h', gs_R h' (gs_n σ 3 i 0 v) A → gs_sm h h' → gx_Ev S M d (pc + 3) L st h' Q) : gx_Ev S M d pc L (.int y :: .ref (A 1 i 0) :: st) h Q := by
  subst hy
  refine gx_put hd hf (gs_g1 R hl) (by simp) rfl rfl (kk _ ?_ ⟨rfl, rfl⟩)
  refine R.set (k := 1) (by decide) ⟨hl, rfl⟩ (gs_lvN (by decide)) ?_ (fun k' i' j' hl' hne => ?_)
  · simp [gs_cl, gs_n, gs_u, gs_op, gs_sf, va_rf]
  · by_cases hk : k' = 1
    · subst hk
      simp only [gs_lv] at hl'
      have hne2 : ¬ (i' = i ∧ j' = 0) := fun e => hne ⟨rfl, e.1, e.2⟩
      try simp only [hl'.2] at hne2 ⊢
      try simp only [hl'.1] at hne2 ⊢
      simp_all [gs_cl, gs_n, gs_u]
    · exact gs_neN (show gs_wn 3 ≠ k' from fun e => hk e.symm) _ _
theorem gp_N4 {S : gx_S} {M : gx_M} {d pc : Nat} {L : List (Option Value)} {st : List Value} {h : gx_H} {Q : Option Value → gx_H → Prop} {σ : gs_T} {A : gs_A} {idx : Nat} {y : Int32} {i : Nat} {v : Nat} (hl : σ.1 15 i 0 = 1)  (hd : decode M.2.2.1 pc = .ok (.putfield idx, 3)) (hf : gx_FL M.1 idx 1 6 (.int) false) (R : gs_R h σ A) (hy : y = nI v) (kk : ∀ h', gs_R h' (gs_n σ 4 i 0 v) A → gs_sm h h' → gx_Ev S M d (pc + 3) L st h' Q) : gx_Ev S M d pc L (.int y :: .ref (A 1 i 0) :: st) h Q := by
  subst hy
  refine gx_put hd hf (gs_g1 R hl) (by simp) rfl rfl (kk _ ?_ ⟨rfl, rfl⟩)
  refine R.set (k := 1) (by decide) ⟨hl, rfl⟩ (gs_lvN (by decide)) ?_ (fun k' i' j' hl' hne => ?_)
  · simp [gs_cl, gs_n, gs_u, gs_op, gs_sf, va_rf]
  · by_cases hk : k' = 1
    · subst hk
      simp only [gs_lv] at hl'
      have hne2 : ¬ (i' = i ∧ j' = 0) := fun e => hne ⟨rfl, e.1, e.2⟩
      try simp only [hl'.2] at hne2 ⊢
      try simp only [hl'.1] at hne2 ⊢
      simp_all [gs_cl, gs_n, gs_u]
    · exact gs_neN (show gs_wn 4 ≠ k' from fun e => hk e.symm) _ _
theorem gp_N104 {S : gx_S} {M : gx_M} {d pc : Nat} {L : List (Option Value)} {st : List Value} {h : gx_H} {Q : Option Value → gx_H → Prop} {σ : gs_T} {A : gs_A} {idx : Nat} {y : Int32} {v : Nat} (hl : σ.1 31 0 0 = 1)  (hd : decode M.2.2.1 pc = .ok (.putfield idx, 3)) (hf : gx_FL M.1 idx 6 4 (.int) false) (R : gs_R h σ A) (hy : y = nI v) (kk : ∀ h', gs_R h' (gs_n σ 104 0 0 v) A → gs_sm h h' → gx_Ev S M d (pc + 3) L st h' Q) : gx_Ev S M d pc L (.int y :: .ref (A 6 0 0) :: st) h Q := by
  subst hy
  refine gx_put hd hf (gs_g6 R hl) (by simp) rfl rfl (kk _ ?_ ⟨rfl, rfl⟩)
  refine R.set (k := 6) (by decide) ⟨hl, rfl, rfl⟩ (gs_lvN (by decide)) ?_ (fun k' i' j' hl' hne => ?_)
  · simp [gs_cl, gs_n, gs_u, gs_op, gs_sf, va_rf]
  · by_cases hk : k' = 6
    · subst hk
      simp only [gs_lv] at hl'
      have hne2 : ¬ (i' = 0 ∧ j' = 0) := fun e => hne ⟨rfl, e.1, e.2⟩
      try simp only [hl'.2] at hne2 ⊢
      try simp only [hl'.1] at hne2 ⊢
      simp_all [gs_cl, gs_n, gs_u]
    · exact gs_neN (show gs_wn 104 ≠ k' from fun e => hk e.symm) _ _
theorem gp_N125 {S : gx_S} {M : gx_M} {d pc : Nat} {L : List (Option Value)} {st : List Value} {h : gx_H} {Q : Option Value → gx_H → Prop} {σ : gs_T} {A : gs_A} {idx : Nat} {y : Int32} {v : Nat} (hl : σ.1 31 0 0 = 1)  (hd : decode M.2.2.1 pc = .ok (.putfield idx, 3)) (hf : gx_FL M.1 idx 6 25 (.int) false) (R : gs_R h σ A) (hy : y = nI v) (kk : ∀ h', gs_R h' (gs_n σ 125 0 0 v) A → gs_sm h h' → gx_Ev S M d (pc + 3) L st h' Q) : gx_Ev S M d pc L (.int y :: .ref (A 6 0 0) :: st) h Q := by
  subst hy
  refine gx_put hd hf (gs_g6 R hl) (by simp) rfl rfl (kk _ ?_ ⟨rfl, rfl⟩)
  refine R.set (k := 6) (by decide) ⟨hl, rfl, rfl⟩ (gs_lvN (by decide)) ?_ (fun k' i' j' hl' hne => ?_)
  · simp [gs_cl, gs_n, gs_u, gs_op, gs_sf, va_rf]
  · by_cases hk : k' = 6
    · subst hk
      simp only [gs_lv] at hl'
      have hne2 : ¬ (i' = 0 ∧ j' = 0) := fun e => hne ⟨rfl, e.1, e.2⟩
      try simp only [hl'.2] at hne2 ⊢
      try simp only [hl'.1] at hne2 ⊢
      simp_all [gs_cl, gs_n, gs_u]
    · exact gs_neN (show gs_wn 125 ≠ k' from fun e => hk e.symm) _ _
theorem gp_I133 {S : gx_S} {M : gx_M} {d pc : Nat} {L : List (Option Value)} {st : List Value} {h : gx_H} {Q : Option Value → gx_H → Prop} {σ : gs_T} {A : gs_A} {idx : Nat}  {v : Int32} (hl : σ.1 31 0 0 = 1)  (hd : decode M.2.2.1 pc = .ok (.putfield idx, 3)) (hf : gx_FL M.1 idx 6 33 (.int) false) (R : gs_R h σ A) (kk : ∀ h', gs_R h' (gs_i σ 133 0 0 v) A → gs_sm h h' → gx_Ev S M d (pc + 3) L st h' Q) : gx_Ev S M d pc L (.int v :: .ref (A 6 0 0) :: st) h Q := by
  skip
  refine gx_put hd hf (gs_g6 R hl) (by simp) rfl rfl (kk _ ?_ ⟨rfl, rfl⟩)
  refine R.set (k := 6) (by decide) ⟨hl, rfl, rfl⟩ gs_lvI ?_ (fun k' i' j' hl' hne => ?_)
  · simp [gs_cl, gs_i, gs_u, gs_op, gs_sf, va_rf]
  · by_cases hk : k' = 6
    · subst hk
      simp only [gs_lv] at hl'
      have hne2 : ¬ (i' = 0 ∧ j' = 0) := fun e => hne ⟨rfl, e.1, e.2⟩
      try simp only [hl'.2] at hne2 ⊢
      try simp only [hl'.1] at hne2 ⊢
      simp_all [gs_cl, gs_i, gs_u]
    · exact gs_neI (show gs_wi 133 ≠ k' from fun e => hk e.symm) _ _
theorem gp_N7 {S : gx_S} {M : gx_M} {d pc : Nat} {L : List (Option Value)} {st : List Value} {h : gx_H} {Q : Option Value → gx_H → Prop} {σ : gs_T} {A : gs_A} {idx g : Nat} {i j : Nat} (hl : σ.1 6 i j = 1) (hd : decode M.2.2.1 pc = .ok (.putfield idx, 3)) (hf : gx_FL M.1 idx 4 2 (.object "GroupOrder$Part") false) (R : gs_R h σ A) (kk : ∀ h', gs_R h' (gs_n σ 7 i j (g + 1)) A → gs_sm h h' → gx_Ev S M d (pc + 3) L st h' Q) : gx_Ev S M d pc L (.ref (A 4 g j) :: .ref (A 4 i j) :: st) h Q := by
  refine gx_put hd hf (gs_g4 R hl) (by simp) rfl rfl (kk _ ?_ ⟨rfl, rfl⟩)
  refine R.set (k := 4) (by decide) hl (gs_lvN (by decide)) ?_ (fun k' i' j' hl' hne => ?_)
  · simp [gs_cl, gs_n, gs_u, gs_op, va_rf]
  · by_cases hk : k' = 4
    · subst hk
      have hne2 : ¬ (i' = i ∧ j' = j) := fun e => hne ⟨rfl, e.1, e.2⟩
      have e7 : gs_u σ.1 7 i j (g + 1) 7 i' j' = σ.1 7 i' j' := by rw [gs_u_at, if_neg hne2]
      simp only [gs_cl, gs_n, e7]
    · exact gs_neN (show gs_wn 7 ≠ k' from fun e => hk e.symm) _ _
theorem ga_I19 {S : gx_S} {M : gx_M} {d pc : Nat} {L : List (Option Value)} {st : List Value} {h : gx_H} {Q : Option Value → gx_H → Prop} {σ : gs_T} {A : gs_A} {q : Nat} {x  : Int32} {v : Int32}  (hd : decode M.2.2.1 pc = .ok (.iastore, 1)) (R : gs_R h σ A) (hx : x = nI q) (hq : q < 16) (kk : ∀ h', gs_R h' (gs_i σ 19 q 0 v) A → gs_sm h h' → gx_Ev S M d (pc + 1) L st h' Q) : gx_Ev S M d pc L (.int (v) :: .int x :: .ref (A 8 0 0) :: st) h Q := by
  subst hx
  skip
  refine gx_iast hd (gs_g8 R ) (vp_in_nI hq (by omega)) (kk _ ?_ ⟨rfl, rfl⟩)
  rw [nI_clamp (by omega)]
  refine R.set (k := 8) (by decide) ⟨rfl, rfl⟩ gs_lvI ?_ (fun k' i' j' hl' hne => ?_)
  · show gx_ai _ _ (fun y => _) = _
    congr 4
    funext y
    by_cases hy : y = q <;> simp [gs_i, gs_u, va_up, hy]
  · by_cases hk : k' = 8
    · subst hk
      exact absurd ⟨rfl, hl'.1, hl'.2⟩ hne
    · exact gs_neI (show gs_wi 19 ≠ k' from fun e => hk e.symm) _ _
theorem ga_I20 {S : gx_S} {M : gx_M} {d pc : Nat} {L : List (Option Value)} {st : List Value} {h : gx_H} {Q : Option Value → gx_H → Prop} {σ : gs_T} {A : gs_A} {q : Nat} {x  : Int32} {v : Int32}  (hd : decode M.2.2.1 pc = .ok (.iastore, 1)) (R : gs_R h σ A) (hx : x = nI q) (hq : q < 4) (kk : ∀ h', gs_R h' (gs_i σ 20 q 0 v) A → gs_sm h h' → gx_Ev S M d (pc + 1) L st h' Q) : gx_Ev S M d pc L (.int (v) :: .int x :: .ref (A 9 0 0) :: st) h Q := by
  subst hx
  skip
  refine gx_iast hd (gs_g9 R ) (vp_in_nI hq (by omega)) (kk _ ?_ ⟨rfl, rfl⟩)
  rw [nI_clamp (by omega)]
  refine R.set (k := 9) (by decide) ⟨rfl, rfl⟩ gs_lvI ?_ (fun k' i' j' hl' hne => ?_)
  · show gx_ai _ _ (fun y => _) = _
    congr 4
    funext y
    by_cases hy : y = q <;> simp [gs_i, gs_u, va_up, hy]
  · by_cases hk : k' = 9
    · subst hk
      exact absurd ⟨rfl, hl'.1, hl'.2⟩ hne
    · exact gs_neI (show gs_wi 20 ≠ k' from fun e => hk e.symm) _ _
theorem ga_I21 {S : gx_S} {M : gx_M} {d pc : Nat} {L : List (Option Value)} {st : List Value} {h : gx_H} {Q : Option Value → gx_H → Prop} {σ : gs_T} {A : gs_A} {q : Nat} {x  : Int32} {v : Int32}  (hd : decode M.2.2.1 pc = .ok (.iastore, 1)) (R : gs_R h σ A) (hx : x = nI q) (hq : q < 16) (kk : ∀ h', gs_R h' (gs_i σ 21 q 0 v) A → gs_sm h h' → gx_Ev S M d (pc + 1) L st h' Q) : gx_Ev S M d pc L (.int (v) :: .int x :: .ref (A 11 0 0) :: st) h Q := by
  subst hx
  skip
  refine gx_iast hd (gs_g11 R ) (vp_in_nI hq (by omega)) (kk _ ?_ ⟨rfl, rfl⟩)
  rw [nI_clamp (by omega)]
  refine R.set (k := 11) (by decide) ⟨rfl, rfl⟩ gs_lvI ?_ (fun k' i' j' hl' hne => ?_)
  · show gx_ai _ _ (fun y => _) = _
    congr 4
    funext y
    by_cases hy : y = q <;> simp [gs_i, gs_u, va_up, hy]
  · by_cases hk : k' = 11
    · subst hk
      exact absurd ⟨rfl, hl'.1, hl'.2⟩ hne
    · exact gs_neI (show gs_wi 21 ≠ k' from fun e => hk e.symm) _ _
theorem ga_I22 {S : gx_S} {M : gx_M} {d pc : Nat} {L : List (Option Value)} {st : List Value} {h : gx_H} {Q : Option Value → gx_H → Prop} {σ : gs_T} {A : gs_A} {q : Nat} {x  : Int32} {v : Int32}  (hd : decode M.2.2.1 pc = .ok (.iastore, 1)) (R : gs_R h σ A) (hx : x = nI q) (hq : q < 16) (kk : ∀ h', gs_R h' (gs_i σ 22 q 0 v) A → gs_sm h h' → gx_Ev S M d (pc + 1) L st h' Q) : gx_Ev S M d pc L (.int (v) :: .int x :: .ref (A 12 0 0) :: st) h Q := by
  subst hx
  skip
  refine gx_iast hd (gs_g12 R ) (vp_in_nI hq (by omega)) (kk _ ?_ ⟨rfl, rfl⟩)
  rw [nI_clamp (by omega)]
  refine R.set (k := 12) (by decide) ⟨rfl, rfl⟩ gs_lvI ?_ (fun k' i' j' hl' hne => ?_)
  · show gx_ai _ _ (fun y => _) = _
    congr 4
    funext y
    by_cases hy : y = q <;> simp [gs_i, gs_u, va_up, hy]
  · by_cases hk : k' = 12
    · subst hk
      exact absurd ⟨rfl, hl'.1, hl'.2⟩ hne
    · exact gs_neI (show gs_wi 22 ≠ k' from fun e => hk e.symm) _ _
theorem ga_I101 {S : gx_S} {M : gx_M} {d pc : Nat} {L : List (Option Value)} {st : List Value} {h : gx_H} {Q : Option Value → gx_H → Prop} {σ : gs_T} {A : gs_A} {q : Nat} {x  : Int32} {v : Int32} (hl : σ.1 31 0 0 = 1) (hd : decode M.2.2.1 pc = .ok (.iastore, 1)) (R : gs_R h σ A) (hx : x = nI q) (hq : q < 4) (kk : ∀ h', gs_R h' (gs_i σ 101 q 0 v) A → gs_sm h h' → gx_Ev S M d (pc + 1) L st h' Q) : gx_Ev S M d pc L (.int (v) :: .int x :: .ref (A 21 0 0) :: st) h Q := by
  subst hx
  skip
  refine gx_iast hd (gs_g21 R hl) (vp_in_nI hq (by omega)) (kk _ ?_ ⟨rfl, rfl⟩)
  rw [nI_clamp (by omega)]
  refine R.set (k := 21) (by decide) ⟨hl, rfl, rfl⟩ gs_lvI ?_ (fun k' i' j' hl' hne => ?_)
  · show gx_ai _ _ (fun y => _) = _
    congr 4
    funext y
    by_cases hy : y = q <;> simp [gs_i, gs_u, va_up, hy]
  · by_cases hk : k' = 21
    · subst hk
      exact absurd ⟨rfl, hl'.2.1, hl'.2.2⟩ hne
    · exact gs_neI (show gs_wi 101 ≠ k' from fun e => hk e.symm) _ _
theorem ga_I102 {S : gx_S} {M : gx_M} {d pc : Nat} {L : List (Option Value)} {st : List Value} {h : gx_H} {Q : Option Value → gx_H → Prop} {σ : gs_T} {A : gs_A} {q : Nat} {x  : Int32} {v : Int32} (hl : σ.1 31 0 0 = 1) (hd : decode M.2.2.1 pc = .ok (.bastore, 1)) (R : gs_R h σ A) (hv : v = 0 ∨ v = 1) (hx : x = nI q) (hq : q < 4) (kk : ∀ h', gs_R h' (gs_i σ 102 q 0 v) A → gs_sm h h' → gx_Ev S M d (pc + 1) L st h' Q) : gx_Ev S M d pc L (.int (v) :: .int x :: .ref (A 22 0 0) :: st) h Q := by
  subst hx
  skip
  refine gx_zast hd (gs_g22 R hl) (vp_in_nI hq (by omega)) hv (kk _ ?_ ⟨rfl, rfl⟩)
  rw [nI_clamp (by omega)]
  refine R.set (k := 22) (by decide) ⟨hl, rfl, rfl⟩ gs_lvI ?_ (fun k' i' j' hl' hne => ?_)
  · show gx_ai _ _ (fun y => _) = _
    congr 4
    funext y
    by_cases hy : y = q <;> simp [gs_i, gs_u, va_up, hy]
  · by_cases hk : k' = 22
    · subst hk
      exact absurd ⟨rfl, hl'.2.1, hl'.2.2⟩ hne
    · exact gs_neI (show gs_wi 102 ≠ k' from fun e => hk e.symm) _ _
theorem ga_I103 {S : gx_S} {M : gx_M} {d pc : Nat} {L : List (Option Value)} {st : List Value} {h : gx_H} {Q : Option Value → gx_H → Prop} {σ : gs_T} {A : gs_A} {q : Nat} {x  : Int32} {v : Int32} (hl : σ.1 31 0 0 = 1) (hd : decode M.2.2.1 pc = .ok (.iastore, 1)) (R : gs_R h σ A) (hx : x = nI q) (hq : q < 16) (kk : ∀ h', gs_R h' (gs_i σ 103 q 0 v) A → gs_sm h h' → gx_Ev S M d (pc + 1) L st h' Q) : gx_Ev S M d pc L (.int (v) :: .int x :: .ref (A 23 0 0) :: st) h Q := by
  subst hx
  skip
  refine gx_iast hd (gs_g23 R hl) (vp_in_nI hq (by omega)) (kk _ ?_ ⟨rfl, rfl⟩)
  rw [nI_clamp (by omega)]
  refine R.set (k := 23) (by decide) ⟨hl, rfl, rfl⟩ gs_lvI ?_ (fun k' i' j' hl' hne => ?_)
  · show gx_ai _ _ (fun y => _) = _
    congr 4
    funext y
    by_cases hy : y = q <;> simp [gs_i, gs_u, va_up, hy]
  · by_cases hk : k' = 23
    · subst hk
      exact absurd ⟨rfl, hl'.2.1, hl'.2.2⟩ hne
    · exact gs_neI (show gs_wi 103 ≠ k' from fun e => hk e.symm) _ _
theorem ga_N105 {S : gx_S} {M : gx_M} {d pc : Nat} {L : List (Option Value)} {st : List Value} {h : gx_H} {Q : Option Value → gx_H → Prop} {σ : gs_T} {A : gs_A} {q : Nat} {x y : Int32} {v : Nat} (hl : σ.1 31 0 0 = 1) (hd : decode M.2.2.1 pc = .ok (.iastore, 1)) (R : gs_R h σ A) (hy : y = nI v) (hx : x = nI q) (hq : q < 40) (kk : ∀ h', gs_R h' (gs_n σ 105 q 0 v) A → gs_sm h h' → gx_Ev S M d (pc + 1) L st h' Q) : gx_Ev S M d pc L (.int (y) :: .int x :: .ref (A 25 0 0) :: st) h Q := by
  subst hx
  subst hy
  refine gx_iast hd (gs_g25 R hl) (vp_in_nI hq (by omega)) (kk _ ?_ ⟨rfl, rfl⟩)
  rw [nI_clamp (by omega)]
  refine R.set (k := 25) (by decide) ⟨hl, rfl, rfl⟩ (gs_lvN (by decide)) ?_ (fun k' i' j' hl' hne => ?_)
  · show gx_ai _ _ (fun y => _) = _
    congr 4
    funext y
    by_cases hy : y = q <;> simp [gs_n, gs_u, va_up, hy]
  · by_cases hk : k' = 25
    · subst hk
      exact absurd ⟨rfl, hl'.2.1, hl'.2.2⟩ hne
    · exact gs_neN (show gs_wn 105 ≠ k' from fun e => hk e.symm) _ _
theorem ga_I106 {S : gx_S} {M : gx_M} {d pc : Nat} {L : List (Option Value)} {st : List Value} {h : gx_H} {Q : Option Value → gx_H → Prop} {σ : gs_T} {A : gs_A} {q : Nat} {x  : Int32} {v : Int32} (hl : σ.1 31 0 0 = 1) (hd : decode M.2.2.1 pc = .ok (.iastore, 1)) (R : gs_R h σ A) (hx : x = nI q) (hq : q < 40) (kk : ∀ h', gs_R h' (gs_i σ 106 q 0 v) A → gs_sm h h' → gx_Ev S M d (pc + 1) L st h' Q) : gx_Ev S M d pc L (.int (v) :: .int x :: .ref (A 26 0 0) :: st) h Q := by
  subst hx
  skip
  refine gx_iast hd (gs_g26 R hl) (vp_in_nI hq (by omega)) (kk _ ?_ ⟨rfl, rfl⟩)
  rw [nI_clamp (by omega)]
  refine R.set (k := 26) (by decide) ⟨hl, rfl, rfl⟩ gs_lvI ?_ (fun k' i' j' hl' hne => ?_)
  · show gx_ai _ _ (fun y => _) = _
    congr 4
    funext y
    by_cases hy : y = q <;> simp [gs_i, gs_u, va_up, hy]
  · by_cases hk : k' = 26
    · subst hk
      exact absurd ⟨rfl, hl'.2.1, hl'.2.2⟩ hne
    · exact gs_neI (show gs_wi 106 ≠ k' from fun e => hk e.symm) _ _
theorem ga_N107 {S : gx_S} {M : gx_M} {d pc : Nat} {L : List (Option Value)} {st : List Value} {h : gx_H} {Q : Option Value → gx_H → Prop} {σ : gs_T} {A : gs_A} {q : Nat} {x y : Int32} {v : Nat} (hl : σ.1 31 0 0 = 1) (hd : decode M.2.2.1 pc = .ok (.iastore, 1)) (R : gs_R h σ A) (hy : y = nI v) (hx : x = nI q) (hq : q < 40) (kk : ∀ h', gs_R h' (gs_n σ 107 q 0 v) A → gs_sm h h' → gx_Ev S M d (pc + 1) L st h' Q) : gx_Ev S M d pc L (.int (y) :: .int x :: .ref (A 27 0 0) :: st) h Q := by
  subst hx
  subst hy
  refine gx_iast hd (gs_g27 R hl) (vp_in_nI hq (by omega)) (kk _ ?_ ⟨rfl, rfl⟩)
  rw [nI_clamp (by omega)]
  refine R.set (k := 27) (by decide) ⟨hl, rfl, rfl⟩ (gs_lvN (by decide)) ?_ (fun k' i' j' hl' hne => ?_)
  · show gx_ai _ _ (fun y => _) = _
    congr 4
    funext y
    by_cases hy : y = q <;> simp [gs_n, gs_u, va_up, hy]
  · by_cases hk : k' = 27
    · subst hk
      exact absurd ⟨rfl, hl'.2.1, hl'.2.2⟩ hne
    · exact gs_neN (show gs_wn 107 ≠ k' from fun e => hk e.symm) _ _
theorem ga_N108 {S : gx_S} {M : gx_M} {d pc : Nat} {L : List (Option Value)} {st : List Value} {h : gx_H} {Q : Option Value → gx_H → Prop} {σ : gs_T} {A : gs_A} {q : Nat} {x y : Int32} {v : Nat} (hl : σ.1 31 0 0 = 1) (hd : decode M.2.2.1 pc = .ok (.iastore, 1)) (R : gs_R h σ A) (hy : y = nI v) (hx : x = nI q) (hq : q < 40) (kk : ∀ h', gs_R h' (gs_n σ 108 q 0 v) A → gs_sm h h' → gx_Ev S M d (pc + 1) L st h' Q) : gx_Ev S M d pc L (.int (y) :: .int x :: .ref (A 28 0 0) :: st) h Q := by
  subst hx
  subst hy
  refine gx_iast hd (gs_g28 R hl) (vp_in_nI hq (by omega)) (kk _ ?_ ⟨rfl, rfl⟩)
  rw [nI_clamp (by omega)]
  refine R.set (k := 28) (by decide) ⟨hl, rfl, rfl⟩ (gs_lvN (by decide)) ?_ (fun k' i' j' hl' hne => ?_)
  · show gx_ai _ _ (fun y => _) = _
    congr 4
    funext y
    by_cases hy : y = q <;> simp [gs_n, gs_u, va_up, hy]
  · by_cases hk : k' = 28
    · subst hk
      exact absurd ⟨rfl, hl'.2.1, hl'.2.2⟩ hne
    · exact gs_neN (show gs_wn 108 ≠ k' from fun e => hk e.symm) _ _
theorem ga_I109 {S : gx_S} {M : gx_M} {d pc : Nat} {L : List (Option Value)} {st : List Value} {h : gx_H} {Q : Option Value → gx_H → Prop} {σ : gs_T} {A : gs_A} {q : Nat} {x  : Int32} {v : Int32} (hl : σ.1 31 0 0 = 1) (hd : decode M.2.2.1 pc = .ok (.iastore, 1)) (R : gs_R h σ A) (hx : x = nI q) (hq : q < 40) (kk : ∀ h', gs_R h' (gs_i σ 109 q 0 v) A → gs_sm h h' → gx_Ev S M d (pc + 1) L st h' Q) : gx_Ev S M d pc L (.int (v) :: .int x :: .ref (A 29 0 0) :: st) h Q := by
  subst hx
  skip
  refine gx_iast hd (gs_g29 R hl) (vp_in_nI hq (by omega)) (kk _ ?_ ⟨rfl, rfl⟩)
  rw [nI_clamp (by omega)]
  refine R.set (k := 29) (by decide) ⟨hl, rfl, rfl⟩ gs_lvI ?_ (fun k' i' j' hl' hne => ?_)
  · show gx_ai _ _ (fun y => _) = _
    congr 4
    funext y
    by_cases hy : y = q <;> simp [gs_i, gs_u, va_up, hy]
  · by_cases hk : k' = 29
    · subst hk
      exact absurd ⟨rfl, hl'.2.1, hl'.2.2⟩ hne
    · exact gs_neI (show gs_wi 109 ≠ k' from fun e => hk e.symm) _ _
theorem ga_I110 {S : gx_S} {M : gx_M} {d pc : Nat} {L : List (Option Value)} {st : List Value} {h : gx_H} {Q : Option Value → gx_H → Prop} {σ : gs_T} {A : gs_A} {q : Nat} {x  : Int32} {v : Int32} (hl : σ.1 31 0 0 = 1) (hd : decode M.2.2.1 pc = .ok (.iastore, 1)) (R : gs_R h σ A) (hx : x = nI q) (hq : q < 40) (kk : ∀ h', gs_R h' (gs_i σ 110 q 0 v) A → gs_sm h h' → gx_Ev S M d (pc + 1) L st h' Q) : gx_Ev S M d pc L (.int (v) :: .int x :: .ref (A 30 0 0) :: st) h Q := by
  subst hx
  skip
  refine gx_iast hd (gs_g30 R hl) (vp_in_nI hq (by omega)) (kk _ ?_ ⟨rfl, rfl⟩)
  rw [nI_clamp (by omega)]
  refine R.set (k := 30) (by decide) ⟨hl, rfl, rfl⟩ gs_lvI ?_ (fun k' i' j' hl' hne => ?_)
  · show gx_ai _ _ (fun y => _) = _
    congr 4
    funext y
    by_cases hy : y = q <;> simp [gs_i, gs_u, va_up, hy]
  · by_cases hk : k' = 30
    · subst hk
      exact absurd ⟨rfl, hl'.2.1, hl'.2.2⟩ hne
    · exact gs_neI (show gs_wi 110 ≠ k' from fun e => hk e.symm) _ _
theorem ga_I111 {S : gx_S} {M : gx_M} {d pc : Nat} {L : List (Option Value)} {st : List Value} {h : gx_H} {Q : Option Value → gx_H → Prop} {σ : gs_T} {A : gs_A} {q : Nat} {x  : Int32} {v : Int32} (hl : σ.1 31 0 0 = 1) (hd : decode M.2.2.1 pc = .ok (.bastore, 1)) (R : gs_R h σ A) (hv : v = 0 ∨ v = 1) (hx : x = nI q) (hq : q < 40) (kk : ∀ h', gs_R h' (gs_i σ 111 q 0 v) A → gs_sm h h' → gx_Ev S M d (pc + 1) L st h' Q) : gx_Ev S M d pc L (.int (v) :: .int x :: .ref (A 31 0 0) :: st) h Q := by
  subst hx
  skip
  refine gx_zast hd (gs_g31 R hl) (vp_in_nI hq (by omega)) hv (kk _ ?_ ⟨rfl, rfl⟩)
  rw [nI_clamp (by omega)]
  refine R.set (k := 31) (by decide) ⟨hl, rfl, rfl⟩ gs_lvI ?_ (fun k' i' j' hl' hne => ?_)
  · show gx_ai _ _ (fun y => _) = _
    congr 4
    funext y
    by_cases hy : y = q <;> simp [gs_i, gs_u, va_up, hy]
  · by_cases hk : k' = 31
    · subst hk
      exact absurd ⟨rfl, hl'.2.1, hl'.2.2⟩ hne
    · exact gs_neI (show gs_wi 111 ≠ k' from fun e => hk e.symm) _ _
theorem ga_I112 {S : gx_S} {M : gx_M} {d pc : Nat} {L : List (Option Value)} {st : List Value} {h : gx_H} {Q : Option Value → gx_H → Prop} {σ : gs_T} {A : gs_A} {q : Nat} {x  : Int32} {v : Int32} (hl : σ.1 31 0 0 = 1) (hd : decode M.2.2.1 pc = .ok (.iastore, 1)) (R : gs_R h σ A) (hx : x = nI q) (hq : q < 40) (kk : ∀ h', gs_R h' (gs_i σ 112 q 0 v) A → gs_sm h h' → gx_Ev S M d (pc + 1) L st h' Q) : gx_Ev S M d pc L (.int (v) :: .int x :: .ref (A 32 0 0) :: st) h Q := by
  subst hx
  skip
  refine gx_iast hd (gs_g32 R hl) (vp_in_nI hq (by omega)) (kk _ ?_ ⟨rfl, rfl⟩)
  rw [nI_clamp (by omega)]
  refine R.set (k := 32) (by decide) ⟨hl, rfl, rfl⟩ gs_lvI ?_ (fun k' i' j' hl' hne => ?_)
  · show gx_ai _ _ (fun y => _) = _
    congr 4
    funext y
    by_cases hy : y = q <;> simp [gs_i, gs_u, va_up, hy]
  · by_cases hk : k' = 32
    · subst hk
      exact absurd ⟨rfl, hl'.2.1, hl'.2.2⟩ hne
    · exact gs_neI (show gs_wi 112 ≠ k' from fun e => hk e.symm) _ _
theorem ga_I113 {S : gx_S} {M : gx_M} {d pc : Nat} {L : List (Option Value)} {st : List Value} {h : gx_H} {Q : Option Value → gx_H → Prop} {σ : gs_T} {A : gs_A} {q : Nat} {x  : Int32} {v : Int32} (hl : σ.1 31 0 0 = 1) (hd : decode M.2.2.1 pc = .ok (.iastore, 1)) (R : gs_R h σ A) (hx : x = nI q) (hq : q < 4) (kk : ∀ h', gs_R h' (gs_i σ 113 q 0 v) A → gs_sm h h' → gx_Ev S M d (pc + 1) L st h' Q) : gx_Ev S M d pc L (.int (v) :: .int x :: .ref (A 33 0 0) :: st) h Q := by
  subst hx
  skip
  refine gx_iast hd (gs_g33 R hl) (vp_in_nI hq (by omega)) (kk _ ?_ ⟨rfl, rfl⟩)
  rw [nI_clamp (by omega)]
  refine R.set (k := 33) (by decide) ⟨hl, rfl, rfl⟩ gs_lvI ?_ (fun k' i' j' hl' hne => ?_)
  · show gx_ai _ _ (fun y => _) = _
    congr 4
    funext y
    by_cases hy : y = q <;> simp [gs_i, gs_u, va_up, hy]
  · by_cases hk : k' = 33
    · subst hk
      exact absurd ⟨rfl, hl'.2.1, hl'.2.2⟩ hne
    · exact gs_neI (show gs_wi 113 ≠ k' from fun e => hk e.symm) _ _
theorem ga_I114 {S : gx_S} {M : gx_M} {d pc : Nat} {L : List (Option Value)} {st : List Value} {h : gx_H} {Q : Option Value → gx_H → Prop} {σ : gs_T} {A : gs_A} {q : Nat} {x  : Int32} {v : Int32} (hl : σ.1 31 0 0 = 1) (hd : decode M.2.2.1 pc = .ok (.bastore, 1)) (R : gs_R h σ A) (hv : v = 0 ∨ v = 1) (hx : x = nI q) (hq : q < 160) (kk : ∀ h', gs_R h' (gs_i σ 114 q 0 v) A → gs_sm h h' → gx_Ev S M d (pc + 1) L st h' Q) : gx_Ev S M d pc L (.int (v) :: .int x :: .ref (A 34 0 0) :: st) h Q := by
  subst hx
  skip
  refine gx_zast hd (gs_g34 R hl) (vp_in_nI hq (by omega)) hv (kk _ ?_ ⟨rfl, rfl⟩)
  rw [nI_clamp (by omega)]
  refine R.set (k := 34) (by decide) ⟨hl, rfl, rfl⟩ gs_lvI ?_ (fun k' i' j' hl' hne => ?_)
  · show gx_ai _ _ (fun y => _) = _
    congr 4
    funext y
    by_cases hy : y = q <;> simp [gs_i, gs_u, va_up, hy]
  · by_cases hk : k' = 34
    · subst hk
      exact absurd ⟨rfl, hl'.2.1, hl'.2.2⟩ hne
    · exact gs_neI (show gs_wi 114 ≠ k' from fun e => hk e.symm) _ _
theorem ga_I115 {S : gx_S} {M : gx_M} {d pc : Nat} {L : List (Option Value)} {st : List Value} {h : gx_H} {Q : Option Value → gx_H → Prop} {σ : gs_T} {A : gs_A} {q : Nat} {x  : Int32} {v : Int32} (hl : σ.1 31 0 0 = 1) (hd : decode M.2.2.1 pc = .ok (.iastore, 1)) (R : gs_R h σ A) (hx : x = nI q) (hq : q < 160) (kk : ∀ h', gs_R h' (gs_i σ 115 q 0 v) A → gs_sm h h' → gx_Ev S M d (pc + 1) L st h' Q) : gx_Ev S M d pc L (.int (v) :: .int x :: .ref (A 35 0 0) :: st) h Q := by
  subst hx
  skip
  refine gx_iast hd (gs_g35 R hl) (vp_in_nI hq (by omega)) (kk _ ?_ ⟨rfl, rfl⟩)
  rw [nI_clamp (by omega)]
  refine R.set (k := 35) (by decide) ⟨hl, rfl, rfl⟩ gs_lvI ?_ (fun k' i' j' hl' hne => ?_)
  · show gx_ai _ _ (fun y => _) = _
    congr 4
    funext y
    by_cases hy : y = q <;> simp [gs_i, gs_u, va_up, hy]
  · by_cases hk : k' = 35
    · subst hk
      exact absurd ⟨rfl, hl'.2.1, hl'.2.2⟩ hne
    · exact gs_neI (show gs_wi 115 ≠ k' from fun e => hk e.symm) _ _
theorem ga_I116 {S : gx_S} {M : gx_M} {d pc : Nat} {L : List (Option Value)} {st : List Value} {h : gx_H} {Q : Option Value → gx_H → Prop} {σ : gs_T} {A : gs_A} {q : Nat} {x  : Int32} {v : Int32} (hl : σ.1 31 0 0 = 1) (hd : decode M.2.2.1 pc = .ok (.bastore, 1)) (R : gs_R h σ A) (hv : v = 0 ∨ v = 1) (hx : x = nI q) (hq : q < 160) (kk : ∀ h', gs_R h' (gs_i σ 116 q 0 v) A → gs_sm h h' → gx_Ev S M d (pc + 1) L st h' Q) : gx_Ev S M d pc L (.int (v) :: .int x :: .ref (A 36 0 0) :: st) h Q := by
  subst hx
  skip
  refine gx_zast hd (gs_g36 R hl) (vp_in_nI hq (by omega)) hv (kk _ ?_ ⟨rfl, rfl⟩)
  rw [nI_clamp (by omega)]
  refine R.set (k := 36) (by decide) ⟨hl, rfl, rfl⟩ gs_lvI ?_ (fun k' i' j' hl' hne => ?_)
  · show gx_ai _ _ (fun y => _) = _
    congr 4
    funext y
    by_cases hy : y = q <;> simp [gs_i, gs_u, va_up, hy]
  · by_cases hk : k' = 36
    · subst hk
      exact absurd ⟨rfl, hl'.2.1, hl'.2.2⟩ hne
    · exact gs_neI (show gs_wi 116 ≠ k' from fun e => hk e.symm) _ _
theorem ga_I117 {S : gx_S} {M : gx_M} {d pc : Nat} {L : List (Option Value)} {st : List Value} {h : gx_H} {Q : Option Value → gx_H → Prop} {σ : gs_T} {A : gs_A} {q : Nat} {x  : Int32} {v : Int32} (hl : σ.1 31 0 0 = 1) (hd : decode M.2.2.1 pc = .ok (.bastore, 1)) (R : gs_R h σ A) (hv : v = 0 ∨ v = 1) (hx : x = nI q) (hq : q < 160) (kk : ∀ h', gs_R h' (gs_i σ 117 q 0 v) A → gs_sm h h' → gx_Ev S M d (pc + 1) L st h' Q) : gx_Ev S M d pc L (.int (v) :: .int x :: .ref (A 37 0 0) :: st) h Q := by
  subst hx
  skip
  refine gx_zast hd (gs_g37 R hl) (vp_in_nI hq (by omega)) hv (kk _ ?_ ⟨rfl, rfl⟩)
  rw [nI_clamp (by omega)]
  refine R.set (k := 37) (by decide) ⟨hl, rfl, rfl⟩ gs_lvI ?_ (fun k' i' j' hl' hne => ?_)
  · show gx_ai _ _ (fun y => _) = _
    congr 4
    funext y
    by_cases hy : y = q <;> simp [gs_i, gs_u, va_up, hy]
  · by_cases hk : k' = 37
    · subst hk
      exact absurd ⟨rfl, hl'.2.1, hl'.2.2⟩ hne
    · exact gs_neI (show gs_wi 117 ≠ k' from fun e => hk e.symm) _ _
theorem ga_I118 {S : gx_S} {M : gx_M} {d pc : Nat} {L : List (Option Value)} {st : List Value} {h : gx_H} {Q : Option Value → gx_H → Prop} {σ : gs_T} {A : gs_A} {q : Nat} {x  : Int32} {v : Int32} (hl : σ.1 31 0 0 = 1) (hd : decode M.2.2.1 pc = .ok (.bastore, 1)) (R : gs_R h σ A) (hv : v = 0 ∨ v = 1) (hx : x = nI q) (hq : q < 160) (kk : ∀ h', gs_R h' (gs_i σ 118 q 0 v) A → gs_sm h h' → gx_Ev S M d (pc + 1) L st h' Q) : gx_Ev S M d pc L (.int (v) :: .int x :: .ref (A 38 0 0) :: st) h Q := by
  subst hx
  skip
  refine gx_zast hd (gs_g38 R hl) (vp_in_nI hq (by omega)) hv (kk _ ?_ ⟨rfl, rfl⟩)
  rw [nI_clamp (by omega)]
  refine R.set (k := 38) (by decide) ⟨hl, rfl, rfl⟩ gs_lvI ?_ (fun k' i' j' hl' hne => ?_)
  · show gx_ai _ _ (fun y => _) = _
    congr 4
    funext y
    by_cases hy : y = q <;> simp [gs_i, gs_u, va_up, hy]
  · by_cases hk : k' = 38
    · subst hk
      exact absurd ⟨rfl, hl'.2.1, hl'.2.2⟩ hne
    · exact gs_neI (show gs_wi 118 ≠ k' from fun e => hk e.symm) _ _
theorem ga_I119 {S : gx_S} {M : gx_M} {d pc : Nat} {L : List (Option Value)} {st : List Value} {h : gx_H} {Q : Option Value → gx_H → Prop} {σ : gs_T} {A : gs_A} {q : Nat} {x  : Int32} {v : Int32} (hl : σ.1 31 0 0 = 1) (hd : decode M.2.2.1 pc = .ok (.iastore, 1)) (R : gs_R h σ A) (hx : x = nI q) (hq : q < 640) (kk : ∀ h', gs_R h' (gs_i σ 119 q 0 v) A → gs_sm h h' → gx_Ev S M d (pc + 1) L st h' Q) : gx_Ev S M d pc L (.int (v) :: .int x :: .ref (A 39 0 0) :: st) h Q := by
  subst hx
  skip
  refine gx_iast hd (gs_g39 R hl) (vp_in_nI hq (by omega)) (kk _ ?_ ⟨rfl, rfl⟩)
  rw [nI_clamp (by omega)]
  refine R.set (k := 39) (by decide) ⟨hl, rfl, rfl⟩ gs_lvI ?_ (fun k' i' j' hl' hne => ?_)
  · show gx_ai _ _ (fun y => _) = _
    congr 4
    funext y
    by_cases hy : y = q <;> simp [gs_i, gs_u, va_up, hy]
  · by_cases hk : k' = 39
    · subst hk
      exact absurd ⟨rfl, hl'.2.1, hl'.2.2⟩ hne
    · exact gs_neI (show gs_wi 119 ≠ k' from fun e => hk e.symm) _ _
theorem ga_I120 {S : gx_S} {M : gx_M} {d pc : Nat} {L : List (Option Value)} {st : List Value} {h : gx_H} {Q : Option Value → gx_H → Prop} {σ : gs_T} {A : gs_A} {q : Nat} {x  : Int32} {v : Int32} (hl : σ.1 31 0 0 = 1) (hd : decode M.2.2.1 pc = .ok (.bastore, 1)) (R : gs_R h σ A) (hv : v = 0 ∨ v = 1) (hx : x = nI q) (hq : q < 640) (kk : ∀ h', gs_R h' (gs_i σ 120 q 0 v) A → gs_sm h h' → gx_Ev S M d (pc + 1) L st h' Q) : gx_Ev S M d pc L (.int (v) :: .int x :: .ref (A 40 0 0) :: st) h Q := by
  subst hx
  skip
  refine gx_zast hd (gs_g40 R hl) (vp_in_nI hq (by omega)) hv (kk _ ?_ ⟨rfl, rfl⟩)
  rw [nI_clamp (by omega)]
  refine R.set (k := 40) (by decide) ⟨hl, rfl, rfl⟩ gs_lvI ?_ (fun k' i' j' hl' hne => ?_)
  · show gx_ai _ _ (fun y => _) = _
    congr 4
    funext y
    by_cases hy : y = q <;> simp [gs_i, gs_u, va_up, hy]
  · by_cases hk : k' = 40
    · subst hk
      exact absurd ⟨rfl, hl'.2.1, hl'.2.2⟩ hne
    · exact gs_neI (show gs_wi 120 ≠ k' from fun e => hk e.symm) _ _
theorem ga_I121 {S : gx_S} {M : gx_M} {d pc : Nat} {L : List (Option Value)} {st : List Value} {h : gx_H} {Q : Option Value → gx_H → Prop} {σ : gs_T} {A : gs_A} {q : Nat} {x  : Int32} {v : Int32} (hl : σ.1 31 0 0 = 1) (hd : decode M.2.2.1 pc = .ok (.iastore, 1)) (R : gs_R h σ A) (hx : x = nI q) (hq : q < 640) (kk : ∀ h', gs_R h' (gs_i σ 121 q 0 v) A → gs_sm h h' → gx_Ev S M d (pc + 1) L st h' Q) : gx_Ev S M d pc L (.int (v) :: .int x :: .ref (A 41 0 0) :: st) h Q := by
  subst hx
  skip
  refine gx_iast hd (gs_g41 R hl) (vp_in_nI hq (by omega)) (kk _ ?_ ⟨rfl, rfl⟩)
  rw [nI_clamp (by omega)]
  refine R.set (k := 41) (by decide) ⟨hl, rfl, rfl⟩ gs_lvI ?_ (fun k' i' j' hl' hne => ?_)
  · show gx_ai _ _ (fun y => _) = _
    congr 4
    funext y
    by_cases hy : y = q <;> simp [gs_i, gs_u, va_up, hy]
  · by_cases hk : k' = 41
    · subst hk
      exact absurd ⟨rfl, hl'.2.1, hl'.2.2⟩ hne
    · exact gs_neI (show gs_wi 121 ≠ k' from fun e => hk e.symm) _ _
theorem ga_I122 {S : gx_S} {M : gx_M} {d pc : Nat} {L : List (Option Value)} {st : List Value} {h : gx_H} {Q : Option Value → gx_H → Prop} {σ : gs_T} {A : gs_A} {q : Nat} {x  : Int32} {v : Int32} (hl : σ.1 31 0 0 = 1) (hd : decode M.2.2.1 pc = .ok (.iastore, 1)) (R : gs_R h σ A) (hx : x = nI q) (hq : q < 640) (kk : ∀ h', gs_R h' (gs_i σ 122 q 0 v) A → gs_sm h h' → gx_Ev S M d (pc + 1) L st h' Q) : gx_Ev S M d pc L (.int (v) :: .int x :: .ref (A 42 0 0) :: st) h Q := by
  subst hx
  skip
  refine gx_iast hd (gs_g42 R hl) (vp_in_nI hq (by omega)) (kk _ ?_ ⟨rfl, rfl⟩)
  rw [nI_clamp (by omega)]
  refine R.set (k := 42) (by decide) ⟨hl, rfl, rfl⟩ gs_lvI ?_ (fun k' i' j' hl' hne => ?_)
  · show gx_ai _ _ (fun y => _) = _
    congr 4
    funext y
    by_cases hy : y = q <;> simp [gs_i, gs_u, va_up, hy]
  · by_cases hk : k' = 42
    · subst hk
      exact absurd ⟨rfl, hl'.2.1, hl'.2.2⟩ hne
    · exact gs_neI (show gs_wi 122 ≠ k' from fun e => hk e.symm) _ _
theorem ga_N123 {S : gx_S} {M : gx_M} {d pc : Nat} {L : List (Option Value)} {st : List Value} {h : gx_H} {Q : Option Value → gx_H → Prop} {σ : gs_T} {A : gs_A} {q : Nat} {x y : Int32} {v : Nat} (hl : σ.1 31 0 0 = 1) (hd : decode M.2.2.1 pc = .ok (.iastore, 1)) (R : gs_R h σ A) (hy : y = nI v) (hx : x = nI q) (hq : q < 4) (kk : ∀ h', gs_R h' (gs_n σ 123 q 0 v) A → gs_sm h h' → gx_Ev S M d (pc + 1) L st h' Q) : gx_Ev S M d pc L (.int (y) :: .int x :: .ref (A 43 0 0) :: st) h Q := by
  subst hx
  subst hy
  refine gx_iast hd (gs_g43 R hl) (vp_in_nI hq (by omega)) (kk _ ?_ ⟨rfl, rfl⟩)
  rw [nI_clamp (by omega)]
  refine R.set (k := 43) (by decide) ⟨hl, rfl, rfl⟩ (gs_lvN (by decide)) ?_ (fun k' i' j' hl' hne => ?_)
  · show gx_ai _ _ (fun y => _) = _
    congr 4
    funext y
    by_cases hy : y = q <;> simp [gs_n, gs_u, va_up, hy]
  · by_cases hk : k' = 43
    · subst hk
      exact absurd ⟨rfl, hl'.2.1, hl'.2.2⟩ hne
    · exact gs_neN (show gs_wn 123 ≠ k' from fun e => hk e.symm) _ _
theorem ga_N124 {S : gx_S} {M : gx_M} {d pc : Nat} {L : List (Option Value)} {st : List Value} {h : gx_H} {Q : Option Value → gx_H → Prop} {σ : gs_T} {A : gs_A} {q : Nat} {x y : Int32} {v : Nat} (hl : σ.1 31 0 0 = 1) (hd : decode M.2.2.1 pc = .ok (.iastore, 1)) (R : gs_R h σ A) (hy : y = nI v) (hx : x = nI q) (hq : q < 160) (kk : ∀ h', gs_R h' (gs_n σ 124 q 0 v) A → gs_sm h h' → gx_Ev S M d (pc + 1) L st h' Q) : gx_Ev S M d pc L (.int (y) :: .int x :: .ref (A 44 0 0) :: st) h Q := by
  subst hx
  subst hy
  refine gx_iast hd (gs_g44 R hl) (vp_in_nI hq (by omega)) (kk _ ?_ ⟨rfl, rfl⟩)
  rw [nI_clamp (by omega)]
  refine R.set (k := 44) (by decide) ⟨hl, rfl, rfl⟩ (gs_lvN (by decide)) ?_ (fun k' i' j' hl' hne => ?_)
  · show gx_ai _ _ (fun y => _) = _
    congr 4
    funext y
    by_cases hy : y = q <;> simp [gs_n, gs_u, va_up, hy]
  · by_cases hk : k' = 44
    · subst hk
      exact absurd ⟨rfl, hl'.2.1, hl'.2.2⟩ hne
    · exact gs_neN (show gs_wn 124 ≠ k' from fun e => hk e.symm) _ _
theorem ga_I126 {S : gx_S} {M : gx_M} {d pc : Nat} {L : List (Option Value)} {st : List Value} {h : gx_H} {Q : Option Value → gx_H → Prop} {σ : gs_T} {A : gs_A} {q : Nat} {x  : Int32} {v : Int32} (hl : σ.1 31 0 0 = 1) (hd : decode M.2.2.1 pc = .ok (.iastore, 1)) (R : gs_R h σ A) (hx : x = nI q) (hq : q < 400) (kk : ∀ h', gs_R h' (gs_i σ 126 q 0 v) A → gs_sm h h' → gx_Ev S M d (pc + 1) L st h' Q) : gx_Ev S M d pc L (.int (v) :: .int x :: .ref (A 46 0 0) :: st) h Q := by
  subst hx
  skip
  refine gx_iast hd (gs_g46 R hl) (vp_in_nI hq (by omega)) (kk _ ?_ ⟨rfl, rfl⟩)
  rw [nI_clamp (by omega)]
  refine R.set (k := 46) (by decide) ⟨hl, rfl, rfl⟩ gs_lvI ?_ (fun k' i' j' hl' hne => ?_)
  · show gx_ai _ _ (fun y => _) = _
    congr 4
    funext y
    by_cases hy : y = q <;> simp [gs_i, gs_u, va_up, hy]
  · by_cases hk : k' = 46
    · subst hk
      exact absurd ⟨rfl, hl'.2.1, hl'.2.2⟩ hne
    · exact gs_neI (show gs_wi 126 ≠ k' from fun e => hk e.symm) _ _
theorem ga_N127 {S : gx_S} {M : gx_M} {d pc : Nat} {L : List (Option Value)} {st : List Value} {h : gx_H} {Q : Option Value → gx_H → Prop} {σ : gs_T} {A : gs_A} {q : Nat} {x y : Int32} {v : Nat} (hl : σ.1 31 0 0 = 1) (hd : decode M.2.2.1 pc = .ok (.iastore, 1)) (R : gs_R h σ A) (hy : y = nI v) (hx : x = nI q) (hq : q < 400) (kk : ∀ h', gs_R h' (gs_n σ 127 q 0 v) A → gs_sm h h' → gx_Ev S M d (pc + 1) L st h' Q) : gx_Ev S M d pc L (.int (y) :: .int x :: .ref (A 47 0 0) :: st) h Q := by
  subst hx
  subst hy
  refine gx_iast hd (gs_g47 R hl) (vp_in_nI hq (by omega)) (kk _ ?_ ⟨rfl, rfl⟩)
  rw [nI_clamp (by omega)]
  refine R.set (k := 47) (by decide) ⟨hl, rfl, rfl⟩ (gs_lvN (by decide)) ?_ (fun k' i' j' hl' hne => ?_)
  · show gx_ai _ _ (fun y => _) = _
    congr 4
    funext y
    by_cases hy : y = q <;> simp [gs_n, gs_u, va_up, hy]
  · by_cases hk : k' = 47
    · subst hk
      exact absurd ⟨rfl, hl'.2.1, hl'.2.2⟩ hne
    · exact gs_neN (show gs_wn 127 ≠ k' from fun e => hk e.symm) _ _
theorem ga_N128 {S : gx_S} {M : gx_M} {d pc : Nat} {L : List (Option Value)} {st : List Value} {h : gx_H} {Q : Option Value → gx_H → Prop} {σ : gs_T} {A : gs_A} {q : Nat} {x y : Int32} {v : Nat} (hl : σ.1 31 0 0 = 1) (hd : decode M.2.2.1 pc = .ok (.iastore, 1)) (R : gs_R h σ A) (hy : y = gs_sf v) (hx : x = nI q) (hq : q < 400) (kk : ∀ h', gs_R h' (gs_n σ 128 q 0 v) A → gs_sm h h' → gx_Ev S M d (pc + 1) L st h' Q) : gx_Ev S M d pc L (.int (y) :: .int x :: .ref (A 48 0 0) :: st) h Q := by
  subst hx
  subst hy
  refine gx_iast hd (gs_g48 R hl) (vp_in_nI hq (by omega)) (kk _ ?_ ⟨rfl, rfl⟩)
  rw [nI_clamp (by omega)]
  refine R.set (k := 48) (by decide) ⟨hl, rfl, rfl⟩ (gs_lvN (by decide)) ?_ (fun k' i' j' hl' hne => ?_)
  · show gx_ai _ _ (fun y => _) = _
    congr 4
    funext y
    by_cases hy : y = q <;> simp [gs_n, gs_u, va_up, hy]
  · by_cases hk : k' = 48
    · subst hk
      exact absurd ⟨rfl, hl'.2.1, hl'.2.2⟩ hne
    · exact gs_neN (show gs_wn 128 ≠ k' from fun e => hk e.symm) _ _
theorem ga_N129 {S : gx_S} {M : gx_M} {d pc : Nat} {L : List (Option Value)} {st : List Value} {h : gx_H} {Q : Option Value → gx_H → Prop} {σ : gs_T} {A : gs_A} {q : Nat} {x y : Int32} {v : Nat} (hl : σ.1 31 0 0 = 1) (hd : decode M.2.2.1 pc = .ok (.iastore, 1)) (R : gs_R h σ A) (hy : y = nI v) (hx : x = nI q) (hq : q < 400) (kk : ∀ h', gs_R h' (gs_n σ 129 q 0 v) A → gs_sm h h' → gx_Ev S M d (pc + 1) L st h' Q) : gx_Ev S M d pc L (.int (y) :: .int x :: .ref (A 49 0 0) :: st) h Q := by
  subst hx
  subst hy
  refine gx_iast hd (gs_g49 R hl) (vp_in_nI hq (by omega)) (kk _ ?_ ⟨rfl, rfl⟩)
  rw [nI_clamp (by omega)]
  refine R.set (k := 49) (by decide) ⟨hl, rfl, rfl⟩ (gs_lvN (by decide)) ?_ (fun k' i' j' hl' hne => ?_)
  · show gx_ai _ _ (fun y => _) = _
    congr 4
    funext y
    by_cases hy : y = q <;> simp [gs_n, gs_u, va_up, hy]
  · by_cases hk : k' = 49
    · subst hk
      exact absurd ⟨rfl, hl'.2.1, hl'.2.2⟩ hne
    · exact gs_neN (show gs_wn 129 ≠ k' from fun e => hk e.symm) _ _
theorem ga_I130 {S : gx_S} {M : gx_M} {d pc : Nat} {L : List (Option Value)} {st : List Value} {h : gx_H} {Q : Option Value → gx_H → Prop} {σ : gs_T} {A : gs_A} {q : Nat} {x  : Int32} {v : Int32} (hl : σ.1 31 0 0 = 1) (hd : decode M.2.2.1 pc = .ok (.iastore, 1)) (R : gs_R h σ A) (hx : x = nI q) (hq : q < 400) (kk : ∀ h', gs_R h' (gs_i σ 130 q 0 v) A → gs_sm h h' → gx_Ev S M d (pc + 1) L st h' Q) : gx_Ev S M d pc L (.int (v) :: .int x :: .ref (A 50 0 0) :: st) h Q := by
  subst hx
  skip
  refine gx_iast hd (gs_g50 R hl) (vp_in_nI hq (by omega)) (kk _ ?_ ⟨rfl, rfl⟩)
  rw [nI_clamp (by omega)]
  refine R.set (k := 50) (by decide) ⟨hl, rfl, rfl⟩ gs_lvI ?_ (fun k' i' j' hl' hne => ?_)
  · show gx_ai _ _ (fun y => _) = _
    congr 4
    funext y
    by_cases hy : y = q <;> simp [gs_i, gs_u, va_up, hy]
  · by_cases hk : k' = 50
    · subst hk
      exact absurd ⟨rfl, hl'.2.1, hl'.2.2⟩ hne
    · exact gs_neI (show gs_wi 130 ≠ k' from fun e => hk e.symm) _ _
theorem ga_I131 {S : gx_S} {M : gx_M} {d pc : Nat} {L : List (Option Value)} {st : List Value} {h : gx_H} {Q : Option Value → gx_H → Prop} {σ : gs_T} {A : gs_A} {q : Nat} {x  : Int32} {v : Int32} (hl : σ.1 31 0 0 = 1) (hd : decode M.2.2.1 pc = .ok (.iastore, 1)) (R : gs_R h σ A) (hx : x = nI q) (hq : q < 400) (kk : ∀ h', gs_R h' (gs_i σ 131 q 0 v) A → gs_sm h h' → gx_Ev S M d (pc + 1) L st h' Q) : gx_Ev S M d pc L (.int (v) :: .int x :: .ref (A 51 0 0) :: st) h Q := by
  subst hx
  skip
  refine gx_iast hd (gs_g51 R hl) (vp_in_nI hq (by omega)) (kk _ ?_ ⟨rfl, rfl⟩)
  rw [nI_clamp (by omega)]
  refine R.set (k := 51) (by decide) ⟨hl, rfl, rfl⟩ gs_lvI ?_ (fun k' i' j' hl' hne => ?_)
  · show gx_ai _ _ (fun y => _) = _
    congr 4
    funext y
    by_cases hy : y = q <;> simp [gs_i, gs_u, va_up, hy]
  · by_cases hk : k' = 51
    · subst hk
      exact absurd ⟨rfl, hl'.2.1, hl'.2.2⟩ hne
    · exact gs_neI (show gs_wi 131 ≠ k' from fun e => hk e.symm) _ _
theorem ga_I132 {S : gx_S} {M : gx_M} {d pc : Nat} {L : List (Option Value)} {st : List Value} {h : gx_H} {Q : Option Value → gx_H → Prop} {σ : gs_T} {A : gs_A} {q : Nat} {x  : Int32} {v : Int32} (hl : σ.1 31 0 0 = 1) (hd : decode M.2.2.1 pc = .ok (.iastore, 1)) (R : gs_R h σ A) (hx : x = nI q) (hq : q < 400) (kk : ∀ h', gs_R h' (gs_i σ 132 q 0 v) A → gs_sm h h' → gx_Ev S M d (pc + 1) L st h' Q) : gx_Ev S M d pc L (.int (v) :: .int x :: .ref (A 52 0 0) :: st) h Q := by
  subst hx
  skip
  refine gx_iast hd (gs_g52 R hl) (vp_in_nI hq (by omega)) (kk _ ?_ ⟨rfl, rfl⟩)
  rw [nI_clamp (by omega)]
  refine R.set (k := 52) (by decide) ⟨hl, rfl, rfl⟩ gs_lvI ?_ (fun k' i' j' hl' hne => ?_)
  · show gx_ai _ _ (fun y => _) = _
    congr 4
    funext y
    by_cases hy : y = q <;> simp [gs_i, gs_u, va_up, hy]
  · by_cases hk : k' = 52
    · subst hk
      exact absurd ⟨rfl, hl'.2.1, hl'.2.2⟩ hne
    · exact gs_neI (show gs_wi 132 ≠ k' from fun e => hk e.symm) _ _
end
section
/-! reading rows of int arrays; small facts -/
theorem gq_8 {S : gx_S} {M : gx_M} {d pc : Nat} {L : List (Option Value)} {st : List Value} {h : gx_H} {Q : Option Value → gx_H → Prop} {σ : gs_T} {A : gs_A} {q : Nat} {x v : Int32} (hd : decode M.2.2.1 pc = .ok (.iaload, 1)) (R : gs_R h σ A)  (hx : x = nI q) (hq : q < 16) (hv : σ.2.1 19 q 0 = v) (kk : gx_Ev S M d (pc + 1) L (.int v :: st) h Q) : gx_Ev S M d pc L (.int x :: .ref (A 8 0 0) :: st) h Q := by
  subst hx
  refine gx_iald hd (gs_g8 R ) (vp_in_nI hq (by omega)) ?_ kk
  rw [nI_clamp (by omega)]
  exact hv
theorem gq_9 {S : gx_S} {M : gx_M} {d pc : Nat} {L : List (Option Value)} {st : List Value} {h : gx_H} {Q : Option Value → gx_H → Prop} {σ : gs_T} {A : gs_A} {q : Nat} {x v : Int32} (hd : decode M.2.2.1 pc = .ok (.iaload, 1)) (R : gs_R h σ A)  (hx : x = nI q) (hq : q < 4) (hv : σ.2.1 20 q 0 = v) (kk : gx_Ev S M d (pc + 1) L (.int v :: st) h Q) : gx_Ev S M d pc L (.int x :: .ref (A 9 0 0) :: st) h Q := by
  subst hx
  refine gx_iald hd (gs_g9 R ) (vp_in_nI hq (by omega)) ?_ kk
  rw [nI_clamp (by omega)]
  exact hv
theorem gq_11 {S : gx_S} {M : gx_M} {d pc : Nat} {L : List (Option Value)} {st : List Value} {h : gx_H} {Q : Option Value → gx_H → Prop} {σ : gs_T} {A : gs_A} {q : Nat} {x v : Int32} (hd : decode M.2.2.1 pc = .ok (.iaload, 1)) (R : gs_R h σ A)  (hx : x = nI q) (hq : q < 16) (hv : σ.2.1 21 q 0 = v) (kk : gx_Ev S M d (pc + 1) L (.int v :: st) h Q) : gx_Ev S M d pc L (.int x :: .ref (A 11 0 0) :: st) h Q := by
  subst hx
  refine gx_iald hd (gs_g11 R ) (vp_in_nI hq (by omega)) ?_ kk
  rw [nI_clamp (by omega)]
  exact hv
theorem gq_12 {S : gx_S} {M : gx_M} {d pc : Nat} {L : List (Option Value)} {st : List Value} {h : gx_H} {Q : Option Value → gx_H → Prop} {σ : gs_T} {A : gs_A} {q : Nat} {x v : Int32} (hd : decode M.2.2.1 pc = .ok (.iaload, 1)) (R : gs_R h σ A)  (hx : x = nI q) (hq : q < 16) (hv : σ.2.1 22 q 0 = v) (kk : gx_Ev S M d (pc + 1) L (.int v :: st) h Q) : gx_Ev S M d pc L (.int x :: .ref (A 12 0 0) :: st) h Q := by
  subst hx
  refine gx_iald hd (gs_g12 R ) (vp_in_nI hq (by omega)) ?_ kk
  rw [nI_clamp (by omega)]
  exact hv
theorem gq_21 {S : gx_S} {M : gx_M} {d pc : Nat} {L : List (Option Value)} {st : List Value} {h : gx_H} {Q : Option Value → gx_H → Prop} {σ : gs_T} {A : gs_A} {q : Nat} {x v : Int32} (hd : decode M.2.2.1 pc = .ok (.iaload, 1)) (R : gs_R h σ A) (hl : σ.1 31 0 0 = 1) (hx : x = nI q) (hq : q < 4) (hv : σ.2.1 101 q 0 = v) (kk : gx_Ev S M d (pc + 1) L (.int v :: st) h Q) : gx_Ev S M d pc L (.int x :: .ref (A 21 0 0) :: st) h Q := by
  subst hx
  refine gx_iald hd (gs_g21 R hl) (vp_in_nI hq (by omega)) ?_ kk
  rw [nI_clamp (by omega)]
  exact hv
theorem gq_22 {S : gx_S} {M : gx_M} {d pc : Nat} {L : List (Option Value)} {st : List Value} {h : gx_H} {Q : Option Value → gx_H → Prop} {σ : gs_T} {A : gs_A} {q : Nat} {x v : Int32} (hd : decode M.2.2.1 pc = .ok (.baload, 1)) (R : gs_R h σ A) (hl : σ.1 31 0 0 = 1) (hx : x = nI q) (hq : q < 4) (hv : σ.2.1 102 q 0 = v) (kk : gx_Ev S M d (pc + 1) L (.int v :: st) h Q) : gx_Ev S M d pc L (.int x :: .ref (A 22 0 0) :: st) h Q := by
  subst hx
  refine gx_zald hd (gs_g22 R hl) (vp_in_nI hq (by omega)) ?_ kk
  rw [nI_clamp (by omega)]
  exact hv
theorem gq_23 {S : gx_S} {M : gx_M} {d pc : Nat} {L : List (Option Value)} {st : List Value} {h : gx_H} {Q : Option Value → gx_H → Prop} {σ : gs_T} {A : gs_A} {q : Nat} {x v : Int32} (hd : decode M.2.2.1 pc = .ok (.iaload, 1)) (R : gs_R h σ A) (hl : σ.1 31 0 0 = 1) (hx : x = nI q) (hq : q < 16) (hv : σ.2.1 103 q 0 = v) (kk : gx_Ev S M d (pc + 1) L (.int v :: st) h Q) : gx_Ev S M d pc L (.int x :: .ref (A 23 0 0) :: st) h Q := by
  subst hx
  refine gx_iald hd (gs_g23 R hl) (vp_in_nI hq (by omega)) ?_ kk
  rw [nI_clamp (by omega)]
  exact hv
theorem gq_25 {S : gx_S} {M : gx_M} {d pc : Nat} {L : List (Option Value)} {st : List Value} {h : gx_H} {Q : Option Value → gx_H → Prop} {σ : gs_T} {A : gs_A} {q : Nat} {x v : Int32} (hd : decode M.2.2.1 pc = .ok (.iaload, 1)) (R : gs_R h σ A) (hl : σ.1 31 0 0 = 1) (hx : x = nI q) (hq : q < 40) (hv : nI (σ.1 105 q 0) = v) (kk : gx_Ev S M d (pc + 1) L (.int v :: st) h Q) : gx_Ev S M d pc L (.int x :: .ref (A 25 0 0) :: st) h Q := by
  subst hx
  refine gx_iald hd (gs_g25 R hl) (vp_in_nI hq (by omega)) ?_ kk
  rw [nI_clamp (by omega)]
  exact hv
theorem gq_26 {S : gx_S} {M : gx_M} {d pc : Nat} {L : List (Option Value)} {st : List Value} {h : gx_H} {Q : Option Value → gx_H → Prop} {σ : gs_T} {A : gs_A} {q : Nat} {x v : Int32} (hd : decode M.2.2.1 pc = .ok (.iaload, 1)) (R : gs_R h σ A) (hl : σ.1 31 0 0 = 1) (hx : x = nI q) (hq : q < 40) (hv : σ.2.1 106 q 0 = v) (kk : gx_Ev S M d (pc + 1) L (.int v :: st) h Q) : gx_Ev S M d pc L (.int x :: .ref (A 26 0 0) :: st) h Q := by
  subst hx
  refine gx_iald hd (gs_g26 R hl) (vp_in_nI hq (by omega)) ?_ kk
  rw [nI_clamp (by omega)]
  exact hv
theorem gq_27 {S : gx_S} {M : gx_M} {d pc : Nat} {L : List (Option Value)} {st : List Value} {h : gx_H} {Q : Option Value → gx_H → Prop} {σ : gs_T} {A : gs_A} {q : Nat} {x v : Int32} (hd : decode M.2.2.1 pc = .ok (.iaload, 1)) (R : gs_R h σ A) (hl : σ.1 31 0 0 = 1) (hx : x = nI q) (hq : q < 40) (hv : nI (σ.1 107 q 0) = v) (kk : gx_Ev S M d (pc + 1) L (.int v :: st) h Q) : gx_Ev S M d pc L (.int x :: .ref (A 27 0 0) :: st) h Q := by
  subst hx
  refine gx_iald hd (gs_g27 R hl) (vp_in_nI hq (by omega)) ?_ kk
  rw [nI_clamp (by omega)]
  exact hv
theorem gq_28 {S : gx_S} {M : gx_M} {d pc : Nat} {L : List (Option Value)} {st : List Value} {h : gx_H} {Q : Option Value → gx_H → Prop} {σ : gs_T} {A : gs_A} {q : Nat} {x v : Int32} (hd : decode M.2.2.1 pc = .ok (.iaload, 1)) (R : gs_R h σ A) (hl : σ.1 31 0 0 = 1) (hx : x = nI q) (hq : q < 40) (hv : nI (σ.1 108 q 0) = v) (kk : gx_Ev S M d (pc + 1) L (.int v :: st) h Q) : gx_Ev S M d pc L (.int x :: .ref (A 28 0 0) :: st) h Q := by
  subst hx
  refine gx_iald hd (gs_g28 R hl) (vp_in_nI hq (by omega)) ?_ kk
  rw [nI_clamp (by omega)]
  exact hv
theorem gq_29 {S : gx_S} {M : gx_M} {d pc : Nat} {L : List (Option Value)} {st : List Value} {h : gx_H} {Q : Option Value → gx_H → Prop} {σ : gs_T} {A : gs_A} {q : Nat} {x v : Int32} (hd : decode M.2.2.1 pc = .ok (.iaload, 1)) (R : gs_R h σ A) (hl : σ.1 31 0 0 = 1) (hx : x = nI q) (hq : q < 40) (hv : σ.2.1 109 q 0 = v) (kk : gx_Ev S M d (pc + 1) L (.int v :: st) h Q) : gx_Ev S M d pc L (.int x :: .ref (A 29 0 0) :: st) h Q := by
  subst hx
  refine gx_iald hd (gs_g29 R hl) (vp_in_nI hq (by omega)) ?_ kk
  rw [nI_clamp (by omega)]
  exact hv
theorem gq_30 {S : gx_S} {M : gx_M} {d pc : Nat} {L : List (Option Value)} {st : List Value} {h : gx_H} {Q : Option Value → gx_H → Prop} {σ : gs_T} {A : gs_A} {q : Nat} {x v : Int32} (hd : decode M.2.2.1 pc = .ok (.iaload, 1)) (R : gs_R h σ A) (hl : σ.1 31 0 0 = 1) (hx : x = nI q) (hq : q < 40) (hv : σ.2.1 110 q 0 = v) (kk : gx_Ev S M d (pc + 1) L (.int v :: st) h Q) : gx_Ev S M d pc L (.int x :: .ref (A 30 0 0) :: st) h Q := by
  subst hx
  refine gx_iald hd (gs_g30 R hl) (vp_in_nI hq (by omega)) ?_ kk
  rw [nI_clamp (by omega)]
  exact hv
theorem gq_31 {S : gx_S} {M : gx_M} {d pc : Nat} {L : List (Option Value)} {st : List Value} {h : gx_H} {Q : Option Value → gx_H → Prop} {σ : gs_T} {A : gs_A} {q : Nat} {x v : Int32} (hd : decode M.2.2.1 pc = .ok (.baload, 1)) (R : gs_R h σ A) (hl : σ.1 31 0 0 = 1) (hx : x = nI q) (hq : q < 40) (hv : σ.2.1 111 q 0 = v) (kk : gx_Ev S M d (pc + 1) L (.int v :: st) h Q) : gx_Ev S M d pc L (.int x :: .ref (A 31 0 0) :: st) h Q := by
  subst hx
  refine gx_zald hd (gs_g31 R hl) (vp_in_nI hq (by omega)) ?_ kk
  rw [nI_clamp (by omega)]
  exact hv
theorem gq_32 {S : gx_S} {M : gx_M} {d pc : Nat} {L : List (Option Value)} {st : List Value} {h : gx_H} {Q : Option Value → gx_H → Prop} {σ : gs_T} {A : gs_A} {q : Nat} {x v : Int32} (hd : decode M.2.2.1 pc = .ok (.iaload, 1)) (R : gs_R h σ A) (hl : σ.1 31 0 0 = 1) (hx : x = nI q) (hq : q < 40) (hv : σ.2.1 112 q 0 = v) (kk : gx_Ev S M d (pc + 1) L (.int v :: st) h Q) : gx_Ev S M d pc L (.int x :: .ref (A 32 0 0) :: st) h Q := by
  subst hx
  refine gx_iald hd (gs_g32 R hl) (vp_in_nI hq (by omega)) ?_ kk
  rw [nI_clamp (by omega)]
  exact hv
theorem gq_33 {S : gx_S} {M : gx_M} {d pc : Nat} {L : List (Option Value)} {st : List Value} {h : gx_H} {Q : Option Value → gx_H → Prop} {σ : gs_T} {A : gs_A} {q : Nat} {x v : Int32} (hd : decode M.2.2.1 pc = .ok (.iaload, 1)) (R : gs_R h σ A) (hl : σ.1 31 0 0 = 1) (hx : x = nI q) (hq : q < 4) (hv : σ.2.1 113 q 0 = v) (kk : gx_Ev S M d (pc + 1) L (.int v :: st) h Q) : gx_Ev S M d pc L (.int x :: .ref (A 33 0 0) :: st) h Q := by
  subst hx
  refine gx_iald hd (gs_g33 R hl) (vp_in_nI hq (by omega)) ?_ kk
  rw [nI_clamp (by omega)]
  exact hv
theorem gq_34 {S : gx_S} {M : gx_M} {d pc : Nat} {L : List (Option Value)} {st : List Value} {h : gx_H} {Q : Option Value → gx_H → Prop} {σ : gs_T} {A : gs_A} {q : Nat} {x v : Int32} (hd : decode M.2.2.1 pc = .ok (.baload, 1)) (R : gs_R h σ A) (hl : σ.1 31 0 0 = 1) (hx : x = nI q) (hq : q < 160) (hv : σ.2.1 114 q 0 = v) (kk : gx_Ev S M d (pc + 1) L (.int v :: st) h Q) : gx_Ev S M d pc L (.int x :: .ref (A 34 0 0) :: st) h Q := by
  subst hx
  refine gx_zald hd (gs_g34 R hl) (vp_in_nI hq (by omega)) ?_ kk
  rw [nI_clamp (by omega)]
  exact hv
theorem gq_35 {S : gx_S} {M : gx_M} {d pc : Nat} {L : List (Option Value)} {st : List Value} {h : gx_H} {Q : Option Value → gx_H → Prop} {σ : gs_T} {A : gs_A} {q : Nat} {x v : Int32} (hd : decode M.2.2.1 pc = .ok (.iaload, 1)) (R : gs_R h σ A) (hl : σ.1 31 0 0 = 1) (hx : x = nI q) (hq : q < 160) (hv : σ.2.1 115 q 0 = v) (kk : gx_Ev S M d (pc + 1) L (.int v :: st) h Q) : gx_Ev S M d pc L (.int x :: .ref (A 35 0 0) :: st) h Q := by
  subst hx
  refine gx_iald hd (gs_g35 R hl) (vp_in_nI hq (by omega)) ?_ kk
  rw [nI_clamp (by omega)]
  exact hv
theorem gq_36 {S : gx_S} {M : gx_M} {d pc : Nat} {L : List (Option Value)} {st : List Value} {h : gx_H} {Q : Option Value → gx_H → Prop} {σ : gs_T} {A : gs_A} {q : Nat} {x v : Int32} (hd : decode M.2.2.1 pc = .ok (.baload, 1)) (R : gs_R h σ A) (hl : σ.1 31 0 0 = 1) (hx : x = nI q) (hq : q < 160) (hv : σ.2.1 116 q 0 = v) (kk : gx_Ev S M d (pc + 1) L (.int v :: st) h Q) : gx_Ev S M d pc L (.int x :: .ref (A 36 0 0) :: st) h Q := by
  subst hx
  refine gx_zald hd (gs_g36 R hl) (vp_in_nI hq (by omega)) ?_ kk
  rw [nI_clamp (by omega)]
  exact hv
theorem gq_37 {S : gx_S} {M : gx_M} {d pc : Nat} {L : List (Option Value)} {st : List Value} {h : gx_H} {Q : Option Value → gx_H → Prop} {σ : gs_T} {A : gs_A} {q : Nat} {x v : Int32} (hd : decode M.2.2.1 pc = .ok (.baload, 1)) (R : gs_R h σ A) (hl : σ.1 31 0 0 = 1) (hx : x = nI q) (hq : q < 160) (hv : σ.2.1 117 q 0 = v) (kk : gx_Ev S M d (pc + 1) L (.int v :: st) h Q) : gx_Ev S M d pc L (.int x :: .ref (A 37 0 0) :: st) h Q := by
  subst hx
  refine gx_zald hd (gs_g37 R hl) (vp_in_nI hq (by omega)) ?_ kk
  rw [nI_clamp (by omega)]
  exact hv
theorem gq_38 {S : gx_S} {M : gx_M} {d pc : Nat} {L : List (Option Value)} {st : List Value} {h : gx_H} {Q : Option Value → gx_H → Prop} {σ : gs_T} {A : gs_A} {q : Nat} {x v : Int32} (hd : decode M.2.2.1 pc = .ok (.baload, 1)) (R : gs_R h σ A) (hl : σ.1 31 0 0 = 1) (hx : x = nI q) (hq : q < 160) (hv : σ.2.1 118 q 0 = v) (kk : gx_Ev S M d (pc + 1) L (.int v :: st) h Q) : gx_Ev S M d pc L (.int x :: .ref (A 38 0 0) :: st) h Q := by
  subst hx
  refine gx_zald hd (gs_g38 R hl) (vp_in_nI hq (by omega)) ?_ kk
  rw [nI_clamp (by omega)]
  exact hv
theorem gq_39 {S : gx_S} {M : gx_M} {d pc : Nat} {L : List (Option Value)} {st : List Value} {h : gx_H} {Q : Option Value → gx_H → Prop} {σ : gs_T} {A : gs_A} {q : Nat} {x v : Int32} (hd : decode M.2.2.1 pc = .ok (.iaload, 1)) (R : gs_R h σ A) (hl : σ.1 31 0 0 = 1) (hx : x = nI q) (hq : q < 640) (hv : σ.2.1 119 q 0 = v) (kk : gx_Ev S M d (pc + 1) L (.int v :: st) h Q) : gx_Ev S M d pc L (.int x :: .ref (A 39 0 0) :: st) h Q := by
  subst hx
  refine gx_iald hd (gs_g39 R hl) (vp_in_nI hq (by omega)) ?_ kk
  rw [nI_clamp (by omega)]
  exact hv
theorem gq_40 {S : gx_S} {M : gx_M} {d pc : Nat} {L : List (Option Value)} {st : List Value} {h : gx_H} {Q : Option Value → gx_H → Prop} {σ : gs_T} {A : gs_A} {q : Nat} {x v : Int32} (hd : decode M.2.2.1 pc = .ok (.baload, 1)) (R : gs_R h σ A) (hl : σ.1 31 0 0 = 1) (hx : x = nI q) (hq : q < 640) (hv : σ.2.1 120 q 0 = v) (kk : gx_Ev S M d (pc + 1) L (.int v :: st) h Q) : gx_Ev S M d pc L (.int x :: .ref (A 40 0 0) :: st) h Q := by
  subst hx
  refine gx_zald hd (gs_g40 R hl) (vp_in_nI hq (by omega)) ?_ kk
  rw [nI_clamp (by omega)]
  exact hv
theorem gq_41 {S : gx_S} {M : gx_M} {d pc : Nat} {L : List (Option Value)} {st : List Value} {h : gx_H} {Q : Option Value → gx_H → Prop} {σ : gs_T} {A : gs_A} {q : Nat} {x v : Int32} (hd : decode M.2.2.1 pc = .ok (.iaload, 1)) (R : gs_R h σ A) (hl : σ.1 31 0 0 = 1) (hx : x = nI q) (hq : q < 640) (hv : σ.2.1 121 q 0 = v) (kk : gx_Ev S M d (pc + 1) L (.int v :: st) h Q) : gx_Ev S M d pc L (.int x :: .ref (A 41 0 0) :: st) h Q := by
  subst hx
  refine gx_iald hd (gs_g41 R hl) (vp_in_nI hq (by omega)) ?_ kk
  rw [nI_clamp (by omega)]
  exact hv
theorem gq_42 {S : gx_S} {M : gx_M} {d pc : Nat} {L : List (Option Value)} {st : List Value} {h : gx_H} {Q : Option Value → gx_H → Prop} {σ : gs_T} {A : gs_A} {q : Nat} {x v : Int32} (hd : decode M.2.2.1 pc = .ok (.iaload, 1)) (R : gs_R h σ A) (hl : σ.1 31 0 0 = 1) (hx : x = nI q) (hq : q < 640) (hv : σ.2.1 122 q 0 = v) (kk : gx_Ev S M d (pc + 1) L (.int v :: st) h Q) : gx_Ev S M d pc L (.int x :: .ref (A 42 0 0) :: st) h Q := by
  subst hx
  refine gx_iald hd (gs_g42 R hl) (vp_in_nI hq (by omega)) ?_ kk
  rw [nI_clamp (by omega)]
  exact hv
theorem gq_43 {S : gx_S} {M : gx_M} {d pc : Nat} {L : List (Option Value)} {st : List Value} {h : gx_H} {Q : Option Value → gx_H → Prop} {σ : gs_T} {A : gs_A} {q : Nat} {x v : Int32} (hd : decode M.2.2.1 pc = .ok (.iaload, 1)) (R : gs_R h σ A) (hl : σ.1 31 0 0 = 1) (hx : x = nI q) (hq : q < 4) (hv : nI (σ.1 123 q 0) = v) (kk : gx_Ev S M d (pc + 1) L (.int v :: st) h Q) : gx_Ev S M d pc L (.int x :: .ref (A 43 0 0) :: st) h Q := by
  subst hx
  refine gx_iald hd (gs_g43 R hl) (vp_in_nI hq (by omega)) ?_ kk
  rw [nI_clamp (by omega)]
  exact hv
theorem gq_44 {S : gx_S} {M : gx_M} {d pc : Nat} {L : List (Option Value)} {st : List Value} {h : gx_H} {Q : Option Value → gx_H → Prop} {σ : gs_T} {A : gs_A} {q : Nat} {x v : Int32} (hd : decode M.2.2.1 pc = .ok (.iaload, 1)) (R : gs_R h σ A) (hl : σ.1 31 0 0 = 1) (hx : x = nI q) (hq : q < 160) (hv : nI (σ.1 124 q 0) = v) (kk : gx_Ev S M d (pc + 1) L (.int v :: st) h Q) : gx_Ev S M d pc L (.int x :: .ref (A 44 0 0) :: st) h Q := by
  subst hx
  refine gx_iald hd (gs_g44 R hl) (vp_in_nI hq (by omega)) ?_ kk
  rw [nI_clamp (by omega)]
  exact hv
theorem gq_46 {S : gx_S} {M : gx_M} {d pc : Nat} {L : List (Option Value)} {st : List Value} {h : gx_H} {Q : Option Value → gx_H → Prop} {σ : gs_T} {A : gs_A} {q : Nat} {x v : Int32} (hd : decode M.2.2.1 pc = .ok (.iaload, 1)) (R : gs_R h σ A) (hl : σ.1 31 0 0 = 1) (hx : x = nI q) (hq : q < 400) (hv : σ.2.1 126 q 0 = v) (kk : gx_Ev S M d (pc + 1) L (.int v :: st) h Q) : gx_Ev S M d pc L (.int x :: .ref (A 46 0 0) :: st) h Q := by
  subst hx
  refine gx_iald hd (gs_g46 R hl) (vp_in_nI hq (by omega)) ?_ kk
  rw [nI_clamp (by omega)]
  exact hv
theorem gq_47 {S : gx_S} {M : gx_M} {d pc : Nat} {L : List (Option Value)} {st : List Value} {h : gx_H} {Q : Option Value → gx_H → Prop} {σ : gs_T} {A : gs_A} {q : Nat} {x v : Int32} (hd : decode M.2.2.1 pc = .ok (.iaload, 1)) (R : gs_R h σ A) (hl : σ.1 31 0 0 = 1) (hx : x = nI q) (hq : q < 400) (hv : nI (σ.1 127 q 0) = v) (kk : gx_Ev S M d (pc + 1) L (.int v :: st) h Q) : gx_Ev S M d pc L (.int x :: .ref (A 47 0 0) :: st) h Q := by
  subst hx
  refine gx_iald hd (gs_g47 R hl) (vp_in_nI hq (by omega)) ?_ kk
  rw [nI_clamp (by omega)]
  exact hv
theorem gq_48 {S : gx_S} {M : gx_M} {d pc : Nat} {L : List (Option Value)} {st : List Value} {h : gx_H} {Q : Option Value → gx_H → Prop} {σ : gs_T} {A : gs_A} {q : Nat} {x v : Int32} (hd : decode M.2.2.1 pc = .ok (.iaload, 1)) (R : gs_R h σ A) (hl : σ.1 31 0 0 = 1) (hx : x = nI q) (hq : q < 400) (hv : gs_sf (σ.1 128 q 0) = v) (kk : gx_Ev S M d (pc + 1) L (.int v :: st) h Q) : gx_Ev S M d pc L (.int x :: .ref (A 48 0 0) :: st) h Q := by
  subst hx
  refine gx_iald hd (gs_g48 R hl) (vp_in_nI hq (by omega)) ?_ kk
  rw [nI_clamp (by omega)]
  exact hv
theorem gq_49 {S : gx_S} {M : gx_M} {d pc : Nat} {L : List (Option Value)} {st : List Value} {h : gx_H} {Q : Option Value → gx_H → Prop} {σ : gs_T} {A : gs_A} {q : Nat} {x v : Int32} (hd : decode M.2.2.1 pc = .ok (.iaload, 1)) (R : gs_R h σ A) (hl : σ.1 31 0 0 = 1) (hx : x = nI q) (hq : q < 400) (hv : nI (σ.1 129 q 0) = v) (kk : gx_Ev S M d (pc + 1) L (.int v :: st) h Q) : gx_Ev S M d pc L (.int x :: .ref (A 49 0 0) :: st) h Q := by
  subst hx
  refine gx_iald hd (gs_g49 R hl) (vp_in_nI hq (by omega)) ?_ kk
  rw [nI_clamp (by omega)]
  exact hv
theorem gq_50 {S : gx_S} {M : gx_M} {d pc : Nat} {L : List (Option Value)} {st : List Value} {h : gx_H} {Q : Option Value → gx_H → Prop} {σ : gs_T} {A : gs_A} {q : Nat} {x v : Int32} (hd : decode M.2.2.1 pc = .ok (.iaload, 1)) (R : gs_R h σ A) (hl : σ.1 31 0 0 = 1) (hx : x = nI q) (hq : q < 400) (hv : σ.2.1 130 q 0 = v) (kk : gx_Ev S M d (pc + 1) L (.int v :: st) h Q) : gx_Ev S M d pc L (.int x :: .ref (A 50 0 0) :: st) h Q := by
  subst hx
  refine gx_iald hd (gs_g50 R hl) (vp_in_nI hq (by omega)) ?_ kk
  rw [nI_clamp (by omega)]
  exact hv
theorem gq_51 {S : gx_S} {M : gx_M} {d pc : Nat} {L : List (Option Value)} {st : List Value} {h : gx_H} {Q : Option Value → gx_H → Prop} {σ : gs_T} {A : gs_A} {q : Nat} {x v : Int32} (hd : decode M.2.2.1 pc = .ok (.iaload, 1)) (R : gs_R h σ A) (hl : σ.1 31 0 0 = 1) (hx : x = nI q) (hq : q < 400) (hv : σ.2.1 131 q 0 = v) (kk : gx_Ev S M d (pc + 1) L (.int v :: st) h Q) : gx_Ev S M d pc L (.int x :: .ref (A 51 0 0) :: st) h Q := by
  subst hx
  refine gx_iald hd (gs_g51 R hl) (vp_in_nI hq (by omega)) ?_ kk
  rw [nI_clamp (by omega)]
  exact hv
theorem gq_52 {S : gx_S} {M : gx_M} {d pc : Nat} {L : List (Option Value)} {st : List Value} {h : gx_H} {Q : Option Value → gx_H → Prop} {σ : gs_T} {A : gs_A} {q : Nat} {x v : Int32} (hd : decode M.2.2.1 pc = .ok (.iaload, 1)) (R : gs_R h σ A) (hl : σ.1 31 0 0 = 1) (hx : x = nI q) (hq : q < 400) (hv : σ.2.1 132 q 0 = v) (kk : gx_Ev S M d (pc + 1) L (.int v :: st) h Q) : gx_Ev S M d pc L (.int x :: .ref (A 52 0 0) :: st) h Q := by
  subst hx
  refine gx_iald hd (gs_g52 R hl) (vp_in_nI hq (by omega)) ?_ kk
  rw [nI_clamp (by omega)]
  exact hv
def gs_bi (p : Prop) [Decidable p] : Int32 := if p then 1 else 0
theorem gs_b0 {p : Prop} [Decidable p] (h : gs_bi p = 0) : ¬ p := by
  intro hp
  rw [gs_bi, if_pos hp] at h
  exact absurd h (by decide)
theorem gs_b1 {p : Prop} [Decidable p] (h : ¬ gs_bi p = 0) : p := by
  by_cases hp : p
  · exact hp
  · rw [gs_bi, if_neg hp] at h
    exact absurd rfl h
theorem gs_bz (p : Prop) [Decidable p] : gs_bi p = 0 ∨ gs_bi p = 1 := by
  by_cases hp : p
  · exact Or.inr (if_pos hp)
  · exact Or.inl (if_neg hp)
theorem gs_bt {p : Prop} [Decidable p] (hp : p) : 1 = gs_bi p := (if_pos hp).symm
theorem gs_bf {p : Prop} [Decidable p] (hp : ¬ p) : 0 = gs_bi p := (if_neg hp).symm
theorem gs_brt (p : Prop) [Decidable p] : gx_rt (some .boolean) (some (.int (gs_bi p))) := ⟨.boolean, rfl, by rcases gs_bz p with h | h <;> rw [h] <;> rfl⟩
def gs_mx (x y : Int32) : Int32 := if x < y then y else x
def gs_mn (x y : Int32) : Int32 := if y < x then y else x
theorem gs_ix {x : Int32} {N : Nat} (h0 : 0 ≤ x) (h1 : x < nI N) (hN : N < 2 ^ 31) : x = nI x.toNatClampNeg ∧ x.toNatClampNeg < N := by
  have h2 : ¬ x < 0 := by
    rw [Int32.lt_iff_toInt_lt]
    rw [Int32.le_iff_toInt_le] at h0
    omega
  obtain ⟨j, hj, rfl⟩ := nI_of h2
  rw [nI_clamp hj]
  exact ⟨rfl, (nI_ltI hj hN).mp h1⟩
theorem gs_ixl {x : Int32} {N : Nat} {c : Int32} (hc : c = nI N) (h : 0 ≤ x ∧ x < c) (hN : N < 2 ^ 31) : x = nI x.toNatClampNeg ∧ x.toNatClampNeg < N := gs_ix h.1 (hc ▸ h.2) hN
theorem gs_nlt {x : Int32} (h : ¬ x < 0) : 0 ≤ x := by
  rw [Int32.lt_iff_toInt_lt] at h
  rw [Int32.le_iff_toInt_le]
  omega
theorem gs_nle {x y : Int32} (h : ¬ y ≤ x) : x < y := by
  rw [Int32.le_iff_toInt_le] at h
  rw [Int32.lt_iff_toInt_lt]
  omega
theorem gs_lle {x y : Int32} (h : ¬ x < y) : y ≤ x := by
  rw [Int32.lt_iff_toInt_lt] at h
  rw [Int32.le_iff_toInt_le]
  omega
end
section
/-! the reference's small methods -/
def gv_b (n f v : Nat) : Prop := match f with
  | 104 => v ≤ 40
  | 105 => v < 4
  | 107 => v < 16
  | 108 => v < 16
  | 123 => v ≤ 40
  | 124 => v < 40
  | 127 => v < 40
  | 128 => v ≤ n
  | 129 => v < n
  | _ => True
def gv_V (σ : gs_T) : Prop := (2 ≤ σ.1 100 0 0 ∧ σ.1 100 0 0 ≤ 4) ∧ ∀ f i j, gv_b (σ.1 100 0 0) f (σ.1 f i j)
theorem gv_n2 {σ : gs_T} (V : gv_V σ) : 2 ≤ σ.1 100 0 0 := V.1.1
theorem gv_n4 {σ : gs_T} (V : gv_V σ) : σ.1 100 0 0 ≤ 4 := V.1.2
theorem gv_cnt {σ : gs_T} (V : gv_V σ) : σ.1 104 0 0 ≤ 40 := V.2 104 0 0
theorem gv_cl {σ : gs_T} (V : gv_V σ) (o : Nat) : σ.1 105 o 0 < 4 := V.2 105 o 0
theorem gv_a {σ : gs_T} (V : gv_V σ) (o : Nat) : σ.1 107 o 0 < 16 := V.2 107 o 0
theorem gv_bk {σ : gs_T} (V : gv_V σ) (o : Nat) : σ.1 108 o 0 < 16 := V.2 108 o 0
theorem gv_tc {σ : gs_T} (V : gv_V σ) (g : Nat) : σ.1 123 g 0 ≤ 40 := V.2 123 g 0
theorem gv_tr {σ : gs_T} (V : gv_V σ) (j : Nat) : σ.1 124 j 0 < 40 := V.2 124 j 0
theorem gv_oo {σ : gs_T} (V : gv_V σ) (i : Nat) : σ.1 127 i 0 < 40 := V.2 127 i 0
theorem gv_fr {σ : gs_T} (V : gv_V σ) (i : Nat) : σ.1 128 i 0 ≤ σ.1 100 0 0 := V.2 128 i 0
theorem gv_to {σ : gs_T} (V : gv_V σ) (i : Nat) : σ.1 129 i 0 < σ.1 100 0 0 := V.2 129 i 0
theorem gv_i {σ : gs_T} {f i j : Nat} {v : Int32} (V : gv_V σ) : gv_V (gs_i σ f i j v) := V
theorem gv_n {σ : gs_T} {f i j v : Nat} (V : gv_V σ) (hf : f ≠ 100) (hv : gv_b (σ.1 100 0 0) f v) : gv_V (gs_n σ f i j v) := by
  have e : (gs_n σ f i j v).1 100 0 0 = σ.1 100 0 0 := congrFun (congrFun (gs_u_ne (fun e => hf e.symm)) 0) 0
  refine ⟨by rw [e]; exact V.1, fun f' i' j' => ?_⟩
  rw [e]
  by_cases h : f' = f ∧ i' = i ∧ j' = j
  · obtain ⟨rfl, rfl, rfl⟩ := h
    have e2 : (gs_n σ f' i' j' v).1 f' i' j' = v := by simp [gs_n, gs_u]
    rw [e2]; exact hv
  · have e2 : (gs_n σ f i j v).1 f' i' j' = σ.1 f' i' j' := by simp only [gs_n, gs_u, if_neg h]
    rw [e2]; exact V.2 f' i' j'
abbrev gv_of (σ : gs_T) (g o : Nat) : Prop := σ.1 107 o 0 % σ.1 100 0 0 = g ∨ (¬ σ.2.1 106 o 0 = 0 ∧ σ.1 108 o 0 % σ.1 100 0 0 = g)
set_option maxHeartbeats 4000000 in
theorem cc_X6_isIn {S : gx_S} {h : gx_H} (x y : Int32) : gx_Cn S gm_X6_isIn 1 [.int x, .int y] h (fun r h' => h' = h ∧ r = some (.int (gs_bi (0 ≤ x ∧ x < y)))) := by
  refine gx_Cn.of gt_X6_isIn (by simp [Value.category]) (Nat.le_of_ble_eq_true rfl) ?_
  show gx_Ev S gm_X6_isIn 1 0 [some (.int x), some (.int y)] [] h _
  refine gx_iload_n dX6_isIn_0 rfl ?_
  refine gx_if_lt dX6_isIn_1 (tgt := 13) (by decide) (fun hc1 => ?_) (fun hc1 => ?_)
  · refine gx_iconst dX6_isIn_13 (v := 0) (by decide) ?_
    refine gx_ireturn dX6_isIn_14 ?_
    exact ⟨⟨_, rfl, rfl⟩, rfl, congrArg (fun z => some (Value.int z)) (gs_bf (fun z => Int32.not_lt.mpr z.1 hc1))⟩
  · refine gx_iload_n dX6_isIn_4 rfl ?_
    refine gx_iload_n dX6_isIn_5 rfl ?_
    refine gx_icmp_ge dX6_isIn_6 (tgt := 13) (by decide) (fun hc2 => ?_) (fun hc2 => ?_)
    · refine gx_iconst dX6_isIn_13 (v := 0) (by decide) ?_
      refine gx_ireturn dX6_isIn_14 ?_
      exact ⟨⟨_, rfl, rfl⟩, rfl, congrArg (fun z => some (Value.int z)) (gs_bf (fun z => Int32.not_lt.mpr hc2 z.2))⟩
    · refine gx_iconst dX6_isIn_9 (v := 1) (by decide) ?_
      refine gx_goto dX6_isIn_10 (tgt := 14) (by decide) ?_
      refine gx_ireturn dX6_isIn_14 ?_
      exact ⟨⟨_, rfl, rfl⟩, rfl, congrArg (fun z => some (Value.int z)) (gs_bt ⟨gs_nlt hc1, gs_nle hc2⟩)⟩
set_option maxHeartbeats 4000000 in
theorem cc_X6_at {S : gx_S} {h : gx_H} (g o : Nat) : gx_Cn S gm_X6_at 1 [.int (nI g), .int (nI o)] h (fun r h' => h' = h ∧ r = some (.int (nI (40 * g + o)))) := by
  refine gx_Cn.of gt_X6_at (by simp [Value.category]) (Nat.le_of_ble_eq_true rfl) ?_
  show gx_Ev S gm_X6_at 1 0 [some (.int (nI g)), some (.int (nI o))] [] h _
  refine gx_bipush dX6_at_0 (v := 40) (by decide) ?_
  refine gx_iload_n dX6_at_2 rfl ?_
  refine gx_imul dX6_at_3 ?_
  rw [show (40 * (nI g) : Int32) = nI (40 * g) from pk_mul _ _]
  refine gx_iload_n dX6_at_4 rfl ?_
  refine gx_iadd dX6_at_5 ?_
  rw [show ((nI (40 * g)) + (nI o) : Int32) = nI (40 * g + o) from nI_add _ _]
  refine gx_ireturn dX6_at_6 ?_
  exact ⟨⟨_, rfl, rfl⟩, rfl, rfl⟩
theorem cc_X6_atE {S : gx_S} {h : gx_H} {x y : Int32} {g o : Nat} (hx : x = nI g) (hy : y = nI o) : gx_Cn S gm_X6_at 1 [.int x, .int y] h (fun r h' => h' = h ∧ r = some (.int (nI (40 * g + o)))) := by
  subst hx; subst hy; exact cc_X6_at g o
set_option maxHeartbeats 4000000 in
theorem cc_X6_of {S : gx_S} {h : gx_H} (g o q : Nat) : gx_Cn S gm_X6_of 2 [.int (nI g), .int (nI o), .int (nI q)] h (fun r h' => h' = h ∧ r = some (.int (nI (4 * (40 * g + o) + q)))) := by
  refine gx_Cn.of gt_X6_of (by simp [Value.category]) (Nat.le_of_ble_eq_true rfl) ?_
  show gx_Ev S gm_X6_of 2 0 [some (.int (nI g)), some (.int (nI o)), some (.int (nI q))] [] h _
  refine gx_iconst dX6_of_0 (v := 4) (by decide) ?_
  refine gx_iload_n dX6_of_1 rfl ?_
  refine gx_iload_n dX6_of_2 rfl ?_
  refine gx_invS dX6_of_3 wm_X6_105 gt_X6_at ws_X6_at (As := [.int (nI g), .int (nI o)]) (rest := [.int 4]) rfl rfl (Nat.le_of_ble_eq_true rfl) (by decide) (cc_X6_atE (g := g) (o := o) (rfl) (rfl)) (fun r1 h1 q1 => ?_)
  obtain ⟨rfl, rfl⟩ := q1
  show gx_Ev _ _ _ _ _ [.int (nI (40 * g + o)), .int 4] _ _
  refine gx_imul dX6_of_6 ?_
  rw [show (4 * (nI (40 * g + o)) : Int32) = nI (4 * (40 * g + o)) from pk_mul _ _]
  refine gx_iload_n dX6_of_7 rfl ?_
  refine gx_iadd dX6_of_8 ?_
  rw [show ((nI (4 * (40 * g + o))) + (nI q) : Int32) = nI (4 * (40 * g + o) + q) from nI_add _ _]
  refine gx_ireturn dX6_of_9 ?_
  exact ⟨⟨_, rfl, rfl⟩, rfl, rfl⟩
theorem cc_X6_ofE {S : gx_S} {h : gx_H} {x y z : Int32} {g o q : Nat} (hx : x = nI g) (hy : y = nI o) (hz : z = nI q) : gx_Cn S gm_X6_of 2 [.int x, .int y, .int z] h (fun r h' => h' = h ∧ r = some (.int (nI (4 * (40 * g + o) + q)))) := by
  subst hx; subst hy; subst hz; exact cc_X6_of g o q
set_option maxHeartbeats 4000000 in
theorem cc_X6_isOf {S : gx_S} {h : gx_H} {σ : gs_T} {A : gs_A} (R : gs_R h σ A) (hm : σ.1 31 0 0 = 1) (V : gv_V σ) {g o : Nat} (hg : g < 4) (ho : o < 40) : gx_Cn S gm_X6_isOf 1 [.ref (A 6 0 0), .int (nI g), .int (nI o)] h (fun r h' => h' = h ∧ r = some (.int (gs_bi (gv_of σ g o)))) := by
  refine gx_Cn.of gt_X6_isOf (by simp [Value.category]) (Nat.le_of_ble_eq_true rfl) ?_
  show gx_Ev S gm_X6_isOf 1 0 [some (.ref (A 6 0 0)), some (.int (nI g)), some (.int (nI o))] [] h _
  refine gx_aload_n dX6_isOf_0 rfl ?_
  refine gx_get dX6_isOf_1 gf_X6_26 (gs_g6 R hm) (v := .ref (A 27 0 0)) rfl ?_
  refine gx_iload_n dX6_isOf_4 rfl ?_
  refine gq_27 dX6_isOf_5 R hm (q := o) (rfl) (ho) (v := nI (σ.1 107 o 0)) rfl ?_
  refine gx_aload_n dX6_isOf_6 rfl ?_
  refine gx_get dX6_isOf_7 gf_X6_101 (gs_g6 R hm) (v := .int (nI (σ.1 100 0 0))) rfl ?_
  refine gx_irem dX6_isOf_10 (nI_ne0 (by have := gv_n2 V; omega) (by have := gv_n4 V; omega)) ?_
  rw [show ((nI (σ.1 107 o 0)) - (nI (σ.1 107 o 0)) / (nI (σ.1 100 0 0)) * (nI (σ.1 100 0 0)) : Int32) = nI (σ.1 107 o 0 % σ.1 100 0 0) from pk_rem (by have := gv_a V o; have := gv_bk V o; omega) (by have := gv_n2 V; omega) (by have := gv_n4 V; omega)]
  refine gx_iload_n dX6_isOf_11 rfl ?_
  refine gx_icmp_eq dX6_isOf_12 (tgt := 39) (by decide) (fun hc1 => ?_) (fun hc1 => ?_)
  · refine gx_iconst dX6_isOf_39 (v := 1) (by decide) ?_
    refine gx_goto dX6_isOf_40 (tgt := 44) (by decide) ?_
    refine gx_ireturn dX6_isOf_44 ?_
    exact ⟨⟨_, rfl, rfl⟩, rfl, congrArg (fun z => some (Value.int z)) (gs_bt (Or.inl ((nI_eq (by have := gv_n2 V; have := gv_n4 V; have := Nat.mod_lt (σ.1 107 o 0) (show 0 < σ.1 100 0 0 by omega); omega) (by omega)).mp hc1)))⟩
  · refine gx_aload_n dX6_isOf_15 rfl ?_
    refine gx_get dX6_isOf_16 gf_X6_23 (gs_g6 R hm) (v := .ref (A 26 0 0)) rfl ?_
    refine gx_iload_n dX6_isOf_19 rfl ?_
    refine gq_26 dX6_isOf_20 R hm (q := o) (rfl) (ho) (v := σ.2.1 106 o 0) rfl ?_
    refine gx_if_eq dX6_isOf_21 (tgt := 43) (by decide) (fun hc2 => ?_) (fun hc2 => ?_)
    · refine gx_iconst dX6_isOf_43 (v := 0) (by decide) ?_
      refine gx_ireturn dX6_isOf_44 ?_
      refine ⟨⟨_, rfl, rfl⟩, rfl, congrArg (fun z => some (Value.int z)) (gs_bf (fun z => ?_))⟩
      rcases z with z | z
      · exact hc1 (congrArg nI z)
      · exact z.1 hc2
    · refine gx_aload_n dX6_isOf_24 rfl ?_
      refine gx_get dX6_isOf_25 gf_X6_29 (gs_g6 R hm) (v := .ref (A 28 0 0)) rfl ?_
      refine gx_iload_n dX6_isOf_28 rfl ?_
      refine gq_28 dX6_isOf_29 R hm (q := o) (rfl) (ho) (v := nI (σ.1 108 o 0)) rfl ?_
      refine gx_aload_n dX6_isOf_30 rfl ?_
      refine gx_get dX6_isOf_31 gf_X6_101 (gs_g6 R hm) (v := .int (nI (σ.1 100 0 0))) rfl ?_
      refine gx_irem dX6_isOf_34 (nI_ne0 (by have := gv_n2 V; omega) (by have := gv_n4 V; omega)) ?_
      rw [show ((nI (σ.1 108 o 0)) - (nI (σ.1 108 o 0)) / (nI (σ.1 100 0 0)) * (nI (σ.1 100 0 0)) : Int32) = nI (σ.1 108 o 0 % σ.1 100 0 0) from pk_rem (by have := gv_a V o; have := gv_bk V o; omega) (by have := gv_n2 V; omega) (by have := gv_n4 V; omega)]
      refine gx_iload_n dX6_isOf_35 rfl ?_
      refine gx_icmp_ne dX6_isOf_36 (tgt := 43) (by decide) (fun hc3 => ?_) (fun hc3 => ?_)
      · refine gx_iconst dX6_isOf_43 (v := 0) (by decide) ?_
        refine gx_ireturn dX6_isOf_44 ?_
        refine ⟨⟨_, rfl, rfl⟩, rfl, congrArg (fun z => some (Value.int z)) (gs_bf (fun z => ?_))⟩
        rcases z with z | z
        · exact hc1 (congrArg nI z)
        · exact hc3 (congrArg nI z.2)
      · refine gx_iconst dX6_isOf_39 (v := 1) (by decide) ?_
        refine gx_goto dX6_isOf_40 (tgt := 44) (by decide) ?_
        refine gx_ireturn dX6_isOf_44 ?_
        exact ⟨⟨_, rfl, rfl⟩, rfl, congrArg (fun z => some (Value.int z)) (gs_bt (Or.inr ⟨hc2, (nI_eq (by have := gv_n2 V; have := gv_n4 V; have := Nat.mod_lt (σ.1 108 o 0) (show 0 < σ.1 100 0 0 by omega); omega) (by omega)).mp hc3⟩))⟩
end
section
/-! the reference's questions -/
def sm_value (σ : gs_T) (x : Int32) : Int32 := if 0 ≤ x ∧ x < 16 then σ.2.1 103 x.toNatClampNeg 0 else -1
def sm_clock (σ : gs_T) (x : Int32) : Int32 := if 0 ≤ x ∧ x < nI (σ.1 100 0 0) then σ.2.1 101 x.toNatClampNeg 0 else -1
def sm_seen (σ : gs_T) (x : Int32) : Int32 := if 0 ≤ x ∧ x < 4 then σ.2.1 113 x.toNatClampNeg 0 else -1
def sm_taken (σ : gs_T) (x y : Int32) : Int32 := if 0 ≤ x ∧ x < nI (σ.1 100 0 0) then (if 0 ≤ y ∧ y < nI (σ.1 123 x.toNatClampNeg 0) then nI (σ.1 124 (40 * x.toNatClampNeg + y.toNatClampNeg) 0) else -1) else -1
def sm_answered (σ : gs_T) (x : Int32) : Int32 := if 0 ≤ x ∧ x < nI (σ.1 104 0 0) then (if σ.2.1 111 x.toNatClampNeg 0 = 0 then 0 else 1) else 0
def sm_answer (σ : gs_T) (x : Int32) : Int32 := if 0 ≤ x ∧ x < nI (σ.1 104 0 0) then (if σ.2.1 111 x.toNatClampNeg 0 = 0 then -2 else σ.2.1 112 x.toNatClampNeg 0) else -2
def sm_time (σ : gs_T) (x y z : Int32) : Int32 := if 0 ≤ x ∧ x < nI (σ.1 104 0 0) then (if 0 ≤ y ∧ y < nI (σ.1 100 0 0) then (if 0 ≤ z ∧ z < 3 then (if z = 2 then (if σ.2.1 118 (40 * y.toNatClampNeg + x.toNatClampNeg) 0 = 0 then 0 else 1) else if z = 0 then (if σ.2.1 119 (4 * (40 * y.toNatClampNeg + x.toNatClampNeg) + y.toNatClampNeg) 0 = 0 then -1 else σ.2.1 119 (4 * (40 * y.toNatClampNeg + x.toNatClampNeg) + y.toNatClampNeg) 0) else (if σ.2.1 115 (40 * y.toNatClampNeg + x.toNatClampNeg) 0 = 0 then -1 else σ.2.1 115 (40 * y.toNatClampNeg + x.toNatClampNeg) 0)) else -1) else -1) else -1
def sm_flight (σ : gs_T) (x z : Int32) : Int32 := if 0 ≤ x ∧ x < nI (σ.1 125 0 0) then (if 0 ≤ z ∧ z < 5 then (if z = 0 then σ.2.1 126 x.toNatClampNeg 0 else if z = 1 then nI (σ.1 127 x.toNatClampNeg 0) else if z = 2 then gs_sf (σ.1 128 x.toNatClampNeg 0) else if z = 3 then nI (σ.1 129 x.toNatClampNeg 0) else σ.2.1 130 x.toNatClampNeg 0) else -1) else -1
set_option maxHeartbeats 4000000 in
theorem cc_X6_value {S : gx_S} {h : gx_H} {σ : gs_T} {A : gs_A} (R : gs_R h σ A) (hm : σ.1 31 0 0 = 1) (V : gv_V σ) (x : Int32) : gx_Cn S gm_X6_value 2 [.ref (A 6 0 0), .int x] h (fun r h' => h' = h ∧ r = some (.int (sm_value σ x))) := by
  refine gx_Cn.of gt_X6_value (by simp [Value.category]) (Nat.le_of_ble_eq_true rfl) ?_
  show gx_Ev S gm_X6_value 2 0 [some (.ref (A 6 0 0)), some (.int x)] [] h _
  refine gx_iload_n dX6_value_0 rfl ?_
  refine gx_bipush dX6_value_1 (v := 16) (by decide) ?_
  refine gx_invS dX6_value_3 wm_X6_120 gt_X6_isIn ws_X6_isIn (As := [.int x, .int 16]) (rest := []) rfl rfl (Nat.le_of_ble_eq_true rfl) (by decide) (cc_X6_isIn x 16) (fun r1 h1 q1 => ?_)
  obtain ⟨rfl, rfl⟩ := q1
  show gx_Ev _ _ _ _ _ [.int (gs_bi (0 ≤ x ∧ x < 16))] _ _
  refine gx_if_eq dX6_value_6 (tgt := 18) (by decide) (fun hc1 => ?_) (fun hc1 => ?_)
  · have hc1 := gs_b0 hc1
    refine gx_iconst dX6_value_18 (v := (-1)) (by decide) ?_
    refine gx_ireturn dX6_value_19 ?_
    exact ⟨⟨_, rfl, rfl⟩, rfl, by simp [sm_value, hc1]⟩
  · have hc1 := gs_b1 hc1
    refine gx_aload_n dX6_value_9 rfl ?_
    refine gx_get dX6_value_10 gf_X6_17 (gs_g6 R hm) (v := .ref (A 23 0 0)) rfl ?_
    refine gx_iload_n dX6_value_13 rfl ?_
    refine gq_23 dX6_value_14 R hm (q := x.toNatClampNeg) ((gs_ixl (N := 16) rfl hc1 (by have := gv_n2 V; have := gv_n4 V; have := gv_cnt V; omega)).1) (by have := (gs_ixl (N := 16) rfl hc1 (by have := gv_n2 V; have := gv_n4 V; have := gv_cnt V; omega)).2; have := gv_n2 V; have := gv_n4 V; have := gv_cnt V; omega) (v := σ.2.1 103 x.toNatClampNeg 0) rfl ?_
    refine gx_goto dX6_value_15 (tgt := 19) (by decide) ?_
    refine gx_ireturn dX6_value_19 ?_
    exact ⟨⟨_, rfl, rfl⟩, rfl, by simp [sm_value, hc1]⟩
set_option maxHeartbeats 4000000 in
theorem cc_X6_clock {S : gx_S} {h : gx_H} {σ : gs_T} {A : gs_A} (R : gs_R h σ A) (hm : σ.1 31 0 0 = 1) (V : gv_V σ) (x : Int32) : gx_Cn S gm_X6_clock 2 [.ref (A 6 0 0), .int x] h (fun r h' => h' = h ∧ r = some (.int (sm_clock σ x))) := by
  refine gx_Cn.of gt_X6_clock (by simp [Value.category]) (Nat.le_of_ble_eq_true rfl) ?_
  show gx_Ev S gm_X6_clock 2 0 [some (.ref (A 6 0 0)), some (.int x)] [] h _
  refine gx_iload_n dX6_clock_0 rfl ?_
  refine gx_aload_n dX6_clock_1 rfl ?_
  refine gx_get dX6_clock_2 gf_X6_101 (gs_g6 R hm) (v := .int (nI (σ.1 100 0 0))) rfl ?_
  refine gx_invS dX6_clock_5 wm_X6_120 gt_X6_isIn ws_X6_isIn (As := [.int x, .int (nI (σ.1 100 0 0))]) (rest := []) rfl rfl (Nat.le_of_ble_eq_true rfl) (by decide) (cc_X6_isIn x (nI (σ.1 100 0 0))) (fun r1 h1 q1 => ?_)
  obtain ⟨rfl, rfl⟩ := q1
  show gx_Ev _ _ _ _ _ [.int (gs_bi (0 ≤ x ∧ x < (nI (σ.1 100 0 0))))] _ _
  refine gx_if_eq dX6_clock_8 (tgt := 20) (by decide) (fun hc1 => ?_) (fun hc1 => ?_)
  · have hc1 := gs_b0 hc1
    refine gx_iconst dX6_clock_20 (v := (-1)) (by decide) ?_
    refine gx_ireturn dX6_clock_21 ?_
    exact ⟨⟨_, rfl, rfl⟩, rfl, by simp [sm_clock, hc1]⟩
  · have hc1 := gs_b1 hc1
    refine gx_aload_n dX6_clock_11 rfl ?_
    refine gx_get dX6_clock_12 gf_X6_7 (gs_g6 R hm) (v := .ref (A 21 0 0)) rfl ?_
    refine gx_iload_n dX6_clock_15 rfl ?_
    refine gq_21 dX6_clock_16 R hm (q := x.toNatClampNeg) ((gs_ixl (N := σ.1 100 0 0) rfl hc1 (by have := gv_n2 V; have := gv_n4 V; have := gv_cnt V; omega)).1) (by have := (gs_ixl (N := σ.1 100 0 0) rfl hc1 (by have := gv_n2 V; have := gv_n4 V; have := gv_cnt V; omega)).2; have := gv_n2 V; have := gv_n4 V; have := gv_cnt V; omega) (v := σ.2.1 101 x.toNatClampNeg 0) rfl ?_
    refine gx_goto dX6_clock_17 (tgt := 21) (by decide) ?_
    refine gx_ireturn dX6_clock_21 ?_
    exact ⟨⟨_, rfl, rfl⟩, rfl, by simp [sm_clock, hc1]⟩
set_option maxHeartbeats 4000000 in
theorem cc_X6_seen {S : gx_S} {h : gx_H} {σ : gs_T} {A : gs_A} (R : gs_R h σ A) (hm : σ.1 31 0 0 = 1) (V : gv_V σ) (x : Int32) : gx_Cn S gm_X6_seen 2 [.ref (A 6 0 0), .int x] h (fun r h' => h' = h ∧ r = some (.int (sm_seen σ x))) := by
  refine gx_Cn.of gt_X6_seen (by simp [Value.category]) (Nat.le_of_ble_eq_true rfl) ?_
  show gx_Ev S gm_X6_seen 2 0 [some (.ref (A 6 0 0)), some (.int x)] [] h _
  refine gx_iload_n dX6_seen_0 rfl ?_
  refine gx_iconst dX6_seen_1 (v := 4) (by decide) ?_
  refine gx_invS dX6_seen_2 wm_X6_120 gt_X6_isIn ws_X6_isIn (As := [.int x, .int 4]) (rest := []) rfl rfl (Nat.le_of_ble_eq_true rfl) (by decide) (cc_X6_isIn x 4) (fun r1 h1 q1 => ?_)
  obtain ⟨rfl, rfl⟩ := q1
  show gx_Ev _ _ _ _ _ [.int (gs_bi (0 ≤ x ∧ x < 4))] _ _
  refine gx_if_eq dX6_seen_5 (tgt := 17) (by decide) (fun hc1 => ?_) (fun hc1 => ?_)
  · have hc1 := gs_b0 hc1
    refine gx_iconst dX6_seen_17 (v := (-1)) (by decide) ?_
    refine gx_ireturn dX6_seen_18 ?_
    exact ⟨⟨_, rfl, rfl⟩, rfl, by simp [sm_seen, hc1]⟩
  · have hc1 := gs_b1 hc1
    refine gx_aload_n dX6_seen_8 rfl ?_
    refine gx_get dX6_seen_9 gf_X6_44 (gs_g6 R hm) (v := .ref (A 33 0 0)) rfl ?_
    refine gx_iload_n dX6_seen_12 rfl ?_
    refine gq_33 dX6_seen_13 R hm (q := x.toNatClampNeg) ((gs_ixl (N := 4) rfl hc1 (by have := gv_n2 V; have := gv_n4 V; have := gv_cnt V; omega)).1) (by have := (gs_ixl (N := 4) rfl hc1 (by have := gv_n2 V; have := gv_n4 V; have := gv_cnt V; omega)).2; have := gv_n2 V; have := gv_n4 V; have := gv_cnt V; omega) (v := σ.2.1 113 x.toNatClampNeg 0) rfl ?_
    refine gx_goto dX6_seen_14 (tgt := 18) (by decide) ?_
    refine gx_ireturn dX6_seen_18 ?_
    exact ⟨⟨_, rfl, rfl⟩, rfl, by simp [sm_seen, hc1]⟩
set_option maxHeartbeats 4000000 in
theorem cc_X6_answered {S : gx_S} {h : gx_H} {σ : gs_T} {A : gs_A} (R : gs_R h σ A) (hm : σ.1 31 0 0 = 1) (V : gv_V σ) (x : Int32) : gx_Cn S gm_X6_answered 2 [.ref (A 6 0 0), .int x] h (fun r h' => h' = h ∧ r = some (.int (sm_answered σ x))) := by
  refine gx_Cn.of gt_X6_answered (by simp [Value.category]) (Nat.le_of_ble_eq_true rfl) ?_
  show gx_Ev S gm_X6_answered 2 0 [some (.ref (A 6 0 0)), some (.int x)] [] h _
  refine gx_iload_n dX6_answered_0 rfl ?_
  refine gx_aload_n dX6_answered_1 rfl ?_
  refine gx_get dX6_answered_2 gf_X6_124 (gs_g6 R hm) (v := .int (nI (σ.1 104 0 0))) rfl ?_
  refine gx_invS dX6_answered_5 wm_X6_120 gt_X6_isIn ws_X6_isIn (As := [.int x, .int (nI (σ.1 104 0 0))]) (rest := []) rfl rfl (Nat.le_of_ble_eq_true rfl) (by decide) (cc_X6_isIn x (nI (σ.1 104 0 0))) (fun r1 h1 q1 => ?_)
  obtain ⟨rfl, rfl⟩ := q1
  show gx_Ev _ _ _ _ _ [.int (gs_bi (0 ≤ x ∧ x < (nI (σ.1 104 0 0))))] _ _
  refine gx_if_eq dX6_answered_8 (tgt := 24) (by decide) (fun hc1 => ?_) (fun hc1 => ?_)
  · have hc1 := gs_b0 hc1
    refine gx_iconst dX6_answered_24 (v := 0) (by decide) ?_
    refine gx_ireturn dX6_answered_25 ?_
    exact ⟨⟨_, rfl, rfl⟩, rfl, by simp [sm_answered, hc1]⟩
  · have hc1 := gs_b1 hc1
    refine gx_aload_n dX6_answered_11 rfl ?_
    refine gx_get dX6_answered_12 gf_X6_38 (gs_g6 R hm) (v := .ref (A 31 0 0)) rfl ?_
    refine gx_iload_n dX6_answered_15 rfl ?_
    refine gq_31 dX6_answered_16 R hm (q := x.toNatClampNeg) ((gs_ixl (N := σ.1 104 0 0) rfl hc1 (by have := gv_n2 V; have := gv_n4 V; have := gv_cnt V; omega)).1) (by have := (gs_ixl (N := σ.1 104 0 0) rfl hc1 (by have := gv_n2 V; have := gv_n4 V; have := gv_cnt V; omega)).2; have := gv_n2 V; have := gv_n4 V; have := gv_cnt V; omega) (v := σ.2.1 111 x.toNatClampNeg 0) rfl ?_
    refine gx_if_eq dX6_answered_17 (tgt := 24) (by decide) (fun hc2 => ?_) (fun hc2 => ?_)
    · refine gx_iconst dX6_answered_24 (v := 0) (by decide) ?_
      refine gx_ireturn dX6_answered_25 ?_
      exact ⟨⟨_, rfl, rfl⟩, rfl, by simp [sm_answered, hc1, hc2]⟩
    · refine gx_iconst dX6_answered_20 (v := 1) (by decide) ?_
      refine gx_goto dX6_answered_21 (tgt := 25) (by decide) ?_
      refine gx_ireturn dX6_answered_25 ?_
      exact ⟨⟨_, rfl, rfl⟩, rfl, by simp [sm_answered, hc1, hc2]⟩
set_option maxHeartbeats 4000000 in
theorem cc_X6_answer {S : gx_S} {h : gx_H} {σ : gs_T} {A : gs_A} (R : gs_R h σ A) (hm : σ.1 31 0 0 = 1) (V : gv_V σ) (x : Int32) : gx_Cn S gm_X6_answer 2 [.ref (A 6 0 0), .int x] h (fun r h' => h' = h ∧ r = some (.int (sm_answer σ x))) := by
  refine gx_Cn.of gt_X6_answer (by simp [Value.category]) (Nat.le_of_ble_eq_true rfl) ?_
  show gx_Ev S gm_X6_answer 2 0 [some (.ref (A 6 0 0)), some (.int x)] [] h _
  refine gx_iload_n dX6_answer_0 rfl ?_
  refine gx_aload_n dX6_answer_1 rfl ?_
  refine gx_get dX6_answer_2 gf_X6_124 (gs_g6 R hm) (v := .int (nI (σ.1 104 0 0))) rfl ?_
  refine gx_invS dX6_answer_5 wm_X6_120 gt_X6_isIn ws_X6_isIn (As := [.int x, .int (nI (σ.1 104 0 0))]) (rest := []) rfl rfl (Nat.le_of_ble_eq_true rfl) (by decide) (cc_X6_isIn x (nI (σ.1 104 0 0))) (fun r1 h1 q1 => ?_)
  obtain ⟨rfl, rfl⟩ := q1
  show gx_Ev _ _ _ _ _ [.int (gs_bi (0 ≤ x ∧ x < (nI (σ.1 104 0 0))))] _ _
  refine gx_if_eq dX6_answer_8 (tgt := 29) (by decide) (fun hc1 => ?_) (fun hc1 => ?_)
  · have hc1 := gs_b0 hc1
    refine gx_bipush dX6_answer_29 (v := (-2)) (by decide) ?_
    refine gx_ireturn dX6_answer_31 ?_
    exact ⟨⟨_, rfl, rfl⟩, rfl, by simp [sm_answer, hc1]⟩
  · have hc1 := gs_b1 hc1
    refine gx_aload_n dX6_answer_11 rfl ?_
    refine gx_get dX6_answer_12 gf_X6_38 (gs_g6 R hm) (v := .ref (A 31 0 0)) rfl ?_
    refine gx_iload_n dX6_answer_15 rfl ?_
    refine gq_31 dX6_answer_16 R hm (q := x.toNatClampNeg) ((gs_ixl (N := σ.1 104 0 0) rfl hc1 (by have := gv_n2 V; have := gv_n4 V; have := gv_cnt V; omega)).1) (by have := (gs_ixl (N := σ.1 104 0 0) rfl hc1 (by have := gv_n2 V; have := gv_n4 V; have := gv_cnt V; omega)).2; have := gv_n2 V; have := gv_n4 V; have := gv_cnt V; omega) (v := σ.2.1 111 x.toNatClampNeg 0) rfl ?_
    refine gx_if_eq dX6_answer_17 (tgt := 29) (by decide) (fun hc2 => ?_) (fun hc2 => ?_)
    · refine gx_bipush dX6_answer_29 (v := (-2)) (by decide) ?_
      refine gx_ireturn dX6_answer_31 ?_
      exact ⟨⟨_, rfl, rfl⟩, rfl, by simp [sm_answer, hc1, hc2]⟩
    · refine gx_aload_n dX6_answer_20 rfl ?_
      refine gx_get dX6_answer_21 gf_X6_41 (gs_g6 R hm) (v := .ref (A 32 0 0)) rfl ?_
      refine gx_iload_n dX6_answer_24 rfl ?_
      refine gq_32 dX6_answer_25 R hm (q := x.toNatClampNeg) ((gs_ixl (N := σ.1 104 0 0) rfl hc1 (by have := gv_n2 V; have := gv_n4 V; have := gv_cnt V; omega)).1) (by have := (gs_ixl (N := σ.1 104 0 0) rfl hc1 (by have := gv_n2 V; have := gv_n4 V; have := gv_cnt V; omega)).2; have := gv_n2 V; have := gv_n4 V; have := gv_cnt V; omega) (v := σ.2.1 112 x.toNatClampNeg 0) rfl ?_
      refine gx_goto dX6_answer_26 (tgt := 31) (by decide) ?_
      refine gx_ireturn dX6_answer_31 ?_
      exact ⟨⟨_, rfl, rfl⟩, rfl, by simp [sm_answer, hc1, hc2]⟩
set_option maxHeartbeats 4000000 in
theorem cc_X6_flight {S : gx_S} {h : gx_H} {σ : gs_T} {A : gs_A} (R : gs_R h σ A) (hm : σ.1 31 0 0 = 1) (V : gv_V σ) (x : Int32) (z : Int32) (hF : σ.1 125 0 0 < 400) : gx_Cn S gm_X6_flight 2 [.ref (A 6 0 0), .int x, .int z] h (fun r h' => h' = h ∧ r = some (.int (sm_flight σ x z))) := by
  refine gx_Cn.of gt_X6_flight (by simp [Value.category]) (Nat.le_of_ble_eq_true rfl) ?_
  show gx_Ev S gm_X6_flight 2 0 [some (.ref (A 6 0 0)), some (.int x), some (.int z)] [] h _
  refine gx_iload_n dX6_flight_0 rfl ?_
  refine gx_aload_n dX6_flight_1 rfl ?_
  refine gx_get dX6_flight_2 gf_X6_109 (gs_g6 R hm) (v := .int (nI (σ.1 125 0 0))) rfl ?_
  refine gx_invS dX6_flight_5 wm_X6_120 gt_X6_isIn ws_X6_isIn (As := [.int x, .int (nI (σ.1 125 0 0))]) (rest := []) rfl rfl (Nat.le_of_ble_eq_true rfl) (by decide) (cc_X6_isIn x (nI (σ.1 125 0 0))) (fun r1 h1 q1 => ?_)
  obtain ⟨rfl, rfl⟩ := q1
  show gx_Ev _ _ _ _ _ [.int (gs_bi (0 ≤ x ∧ x < (nI (σ.1 125 0 0))))] _ _
  refine gx_if_eq dX6_flight_8 (tgt := 19) (by decide) (fun hc1 => ?_) (fun hc1 => ?_)
  · have hc1 := gs_b0 hc1
    refine gx_iconst dX6_flight_19 (v := (-1)) (by decide) ?_
    refine gx_ireturn dX6_flight_20 ?_
    exact ⟨⟨_, rfl, rfl⟩, rfl, by simp [sm_flight, hc1]⟩
  · have hc1 := gs_b1 hc1
    refine gx_iload_n dX6_flight_11 rfl ?_
    refine gx_iconst dX6_flight_12 (v := 5) (by decide) ?_
    refine gx_invS dX6_flight_13 wm_X6_120 gt_X6_isIn ws_X6_isIn (As := [.int z, .int 5]) (rest := []) rfl rfl (Nat.le_of_ble_eq_true rfl) (by decide) (cc_X6_isIn z 5) (fun r1 h1 q1 => ?_)
    obtain ⟨rfl, rfl⟩ := q1
    show gx_Ev _ _ _ _ _ [.int (gs_bi (0 ≤ z ∧ z < 5))] _ _
    refine gx_if_ne dX6_flight_16 (tgt := 21) (by decide) (fun hc2 => ?_) (fun hc2 => ?_)
    · have hc2 := gs_b1 hc2
      refine gx_iload_n dX6_flight_21 rfl ?_
      refine gx_if_ne dX6_flight_22 (tgt := 34) (by decide) (fun hc3 => ?_) (fun hc3 => ?_)
      · refine gx_iload_n dX6_flight_34 rfl ?_
        refine gx_iconst dX6_flight_35 (v := 1) (by decide) ?_
        refine gx_icmp_ne dX6_flight_36 (tgt := 48) (by decide) (fun hc4 => ?_) (fun hc4 => ?_)
        · refine gx_iload_n dX6_flight_48 rfl ?_
          refine gx_iconst dX6_flight_49 (v := 2) (by decide) ?_
          refine gx_icmp_ne dX6_flight_50 (tgt := 62) (by decide) (fun hc5 => ?_) (fun hc5 => ?_)
          · refine gx_iload_n dX6_flight_62 rfl ?_
            refine gx_iconst dX6_flight_63 (v := 3) (by decide) ?_
            refine gx_icmp_ne dX6_flight_64 (tgt := 76) (by decide) (fun hc6 => ?_) (fun hc6 => ?_)
            · refine gx_aload_n dX6_flight_76 rfl ?_
              refine gx_get dX6_flight_77 gf_X6_92 (gs_g6 R hm) (v := .ref (A 50 0 0)) rfl ?_
              refine gx_iload_n dX6_flight_80 rfl ?_
              refine gq_50 dX6_flight_81 R hm (q := x.toNatClampNeg) ((gs_ixl (N := σ.1 125 0 0) rfl hc1 (by omega)).1) (by have := (gs_ixl (N := σ.1 125 0 0) rfl hc1 (by omega)).2; omega) (v := σ.2.1 130 x.toNatClampNeg 0) rfl ?_
              refine gx_ireturn dX6_flight_82 ?_
              exact ⟨⟨_, rfl, rfl⟩, rfl, by simp [sm_flight, hc1, hc2, hc3, hc4, hc5, hc6]⟩
            · refine gx_aload_n dX6_flight_67 rfl ?_
              refine gx_get dX6_flight_68 gf_X6_89 (gs_g6 R hm) (v := .ref (A 49 0 0)) rfl ?_
              refine gx_iload_n dX6_flight_71 rfl ?_
              refine gq_49 dX6_flight_72 R hm (q := x.toNatClampNeg) ((gs_ixl (N := σ.1 125 0 0) rfl hc1 (by omega)).1) (by have := (gs_ixl (N := σ.1 125 0 0) rfl hc1 (by omega)).2; omega) (v := nI (σ.1 129 x.toNatClampNeg 0)) rfl ?_
              refine gx_goto dX6_flight_73 (tgt := 82) (by decide) ?_
              refine gx_ireturn dX6_flight_82 ?_
              exact ⟨⟨_, rfl, rfl⟩, rfl, by simp [sm_flight, hc1, hc2, hc3, hc4, hc5, hc6]⟩
          · refine gx_aload_n dX6_flight_53 rfl ?_
            refine gx_get dX6_flight_54 gf_X6_86 (gs_g6 R hm) (v := .ref (A 48 0 0)) rfl ?_
            refine gx_iload_n dX6_flight_57 rfl ?_
            refine gq_48 dX6_flight_58 R hm (q := x.toNatClampNeg) ((gs_ixl (N := σ.1 125 0 0) rfl hc1 (by omega)).1) (by have := (gs_ixl (N := σ.1 125 0 0) rfl hc1 (by omega)).2; omega) (v := gs_sf (σ.1 128 x.toNatClampNeg 0)) rfl ?_
            refine gx_goto dX6_flight_59 (tgt := 82) (by decide) ?_
            refine gx_ireturn dX6_flight_82 ?_
            exact ⟨⟨_, rfl, rfl⟩, rfl, by simp [sm_flight, hc1, hc2, hc3, hc4, hc5]⟩
        · refine gx_aload_n dX6_flight_39 rfl ?_
          refine gx_get dX6_flight_40 gf_X6_83 (gs_g6 R hm) (v := .ref (A 47 0 0)) rfl ?_
          refine gx_iload_n dX6_flight_43 rfl ?_
          refine gq_47 dX6_flight_44 R hm (q := x.toNatClampNeg) ((gs_ixl (N := σ.1 125 0 0) rfl hc1 (by omega)).1) (by have := (gs_ixl (N := σ.1 125 0 0) rfl hc1 (by omega)).2; omega) (v := nI (σ.1 127 x.toNatClampNeg 0)) rfl ?_
          refine gx_goto dX6_flight_45 (tgt := 82) (by decide) ?_
          refine gx_ireturn dX6_flight_82 ?_
          exact ⟨⟨_, rfl, rfl⟩, rfl, by simp [sm_flight, hc1, hc2, hc3, hc4]⟩
      · refine gx_aload_n dX6_flight_25 rfl ?_
        refine gx_get dX6_flight_26 gf_X6_80 (gs_g6 R hm) (v := .ref (A 46 0 0)) rfl ?_
        refine gx_iload_n dX6_flight_29 rfl ?_
        refine gq_46 dX6_flight_30 R hm (q := x.toNatClampNeg) ((gs_ixl (N := σ.1 125 0 0) rfl hc1 (by omega)).1) (by have := (gs_ixl (N := σ.1 125 0 0) rfl hc1 (by omega)).2; omega) (v := σ.2.1 126 x.toNatClampNeg 0) rfl ?_
        refine gx_goto dX6_flight_31 (tgt := 82) (by decide) ?_
        refine gx_ireturn dX6_flight_82 ?_
        exact ⟨⟨_, rfl, rfl⟩, rfl, by simp [sm_flight, hc1, hc2, hc3]⟩
    · have hc2 := gs_b0 hc2
      refine gx_iconst dX6_flight_19 (v := (-1)) (by decide) ?_
      refine gx_ireturn dX6_flight_20 ?_
      exact ⟨⟨_, rfl, rfl⟩, rfl, by simp [sm_flight, hc1, hc2]⟩
set_option maxHeartbeats 4000000 in
theorem cc_X6_taken {S : gx_S} {h : gx_H} {σ : gs_T} {A : gs_A} (R : gs_R h σ A) (hm : σ.1 31 0 0 = 1) (V : gv_V σ) (x : Int32) (y : Int32) : gx_Cn S gm_X6_taken 2 [.ref (A 6 0 0), .int x, .int y] h (fun r h' => h' = h ∧ r = some (.int (sm_taken σ x y))) := by
  refine gx_Cn.of gt_X6_taken (by simp [Value.category]) (Nat.le_of_ble_eq_true rfl) ?_
  show gx_Ev S gm_X6_taken 2 0 [some (.ref (A 6 0 0)), some (.int x), some (.int y)] [] h _
  refine gx_iload_n dX6_taken_0 rfl ?_
  refine gx_aload_n dX6_taken_1 rfl ?_
  refine gx_get dX6_taken_2 gf_X6_101 (gs_g6 R hm) (v := .int (nI (σ.1 100 0 0))) rfl ?_
  refine gx_invS dX6_taken_5 wm_X6_120 gt_X6_isIn ws_X6_isIn (As := [.int x, .int (nI (σ.1 100 0 0))]) (rest := []) rfl rfl (Nat.le_of_ble_eq_true rfl) (by decide) (cc_X6_isIn x (nI (σ.1 100 0 0))) (fun r1 h1 q1 => ?_)
  obtain ⟨rfl, rfl⟩ := q1
  show gx_Ev _ _ _ _ _ [.int (gs_bi (0 ≤ x ∧ x < (nI (σ.1 100 0 0))))] _ _
  refine gx_if_eq dX6_taken_8 (tgt := 37) (by decide) (fun hc1 => ?_) (fun hc1 => ?_)
  · have hc1 := gs_b0 hc1
    refine gx_iconst dX6_taken_37 (v := (-1)) (by decide) ?_
    refine gx_ireturn dX6_taken_38 ?_
    exact ⟨⟨_, rfl, rfl⟩, rfl, by simp [sm_taken, hc1]⟩
  · have hc1 := gs_b1 hc1
    refine gx_iload_n dX6_taken_11 rfl ?_
    refine gx_aload_n dX6_taken_12 rfl ?_
    refine gx_get dX6_taken_13 gf_X6_74 (gs_g6 R hm) (v := .ref (A 43 0 0)) rfl ?_
    refine gx_iload_n dX6_taken_16 rfl ?_
    refine gq_43 dX6_taken_17 R hm (q := x.toNatClampNeg) ((gs_ixl (N := σ.1 100 0 0) rfl hc1 (by have := gv_n2 V; have := gv_n4 V; have := gv_cnt V; omega)).1) (by have := (gs_ixl (N := σ.1 100 0 0) rfl hc1 (by have := gv_n2 V; have := gv_n4 V; have := gv_cnt V; omega)).2; have := gv_n2 V; have := gv_n4 V; have := gv_cnt V; omega) (v := nI (σ.1 123 x.toNatClampNeg 0)) rfl ?_
    refine gx_invS dX6_taken_18 wm_X6_120 gt_X6_isIn ws_X6_isIn (As := [.int y, .int (nI (σ.1 123 x.toNatClampNeg 0))]) (rest := []) rfl rfl (Nat.le_of_ble_eq_true rfl) (by decide) (cc_X6_isIn y (nI (σ.1 123 x.toNatClampNeg 0))) (fun r1 h1 q1 => ?_)
    obtain ⟨rfl, rfl⟩ := q1
    show gx_Ev _ _ _ _ _ [.int (gs_bi (0 ≤ y ∧ y < (nI (σ.1 123 x.toNatClampNeg 0))))] _ _
    refine gx_if_eq dX6_taken_21 (tgt := 37) (by decide) (fun hc2 => ?_) (fun hc2 => ?_)
    · have hc2 := gs_b0 hc2
      refine gx_iconst dX6_taken_37 (v := (-1)) (by decide) ?_
      refine gx_ireturn dX6_taken_38 ?_
      exact ⟨⟨_, rfl, rfl⟩, rfl, by simp [sm_taken, hc1, hc2]⟩
    · have hc2 := gs_b1 hc2
      refine gx_aload_n dX6_taken_24 rfl ?_
      refine gx_get dX6_taken_25 gf_X6_77 (gs_g6 R hm) (v := .ref (A 44 0 0)) rfl ?_
      refine gx_iload_n dX6_taken_28 rfl ?_
      refine gx_iload_n dX6_taken_29 rfl ?_
      refine gx_invS dX6_taken_30 wm_X6_105 gt_X6_at ws_X6_at (As := [.int x, .int y]) (rest := [.ref (A 44 0 0)]) rfl rfl (Nat.le_of_ble_eq_true rfl) (by decide) (cc_X6_atE (g := x.toNatClampNeg) (o := y.toNatClampNeg) ((gs_ixl (N := σ.1 100 0 0) rfl hc1 (by have := gv_n2 V; have := gv_n4 V; have := gv_cnt V; omega)).1) ((gs_ixl (N := σ.1 123 x.toNatClampNeg 0) rfl hc2 (by have := gv_tc V x.toNatClampNeg; omega)).1)) (fun r1 h1 q1 => ?_)
      obtain ⟨rfl, rfl⟩ := q1
      show gx_Ev _ _ _ _ _ [.int (nI (40 * x.toNatClampNeg + y.toNatClampNeg)), .ref (A 44 0 0)] _ _
      refine gq_44 dX6_taken_33 R hm (q := 40 * x.toNatClampNeg + y.toNatClampNeg) (rfl) (by have := (gs_ixl (N := σ.1 100 0 0) rfl hc1 (by have := gv_n2 V; have := gv_n4 V; have := gv_cnt V; omega)).2; have := (gs_ixl (N := σ.1 123 x.toNatClampNeg 0) rfl hc2 (by have := gv_tc V x.toNatClampNeg; omega)).2; have := gv_tc V x.toNatClampNeg; have := gv_n2 V; have := gv_n4 V; have := gv_cnt V; omega) (v := nI (σ.1 124 (40 * x.toNatClampNeg + y.toNatClampNeg) 0)) rfl ?_
      refine gx_goto dX6_taken_34 (tgt := 38) (by decide) ?_
      refine gx_ireturn dX6_taken_38 ?_
      exact ⟨⟨_, rfl, rfl⟩, rfl, by simp [sm_taken, hc1, hc2]⟩
set_option maxHeartbeats 4000000 in
theorem cc_X6_time {S : gx_S} {h : gx_H} {σ : gs_T} {A : gs_A} (R : gs_R h σ A) (hm : σ.1 31 0 0 = 1) (V : gv_V σ) (x : Int32) (y : Int32) (z : Int32) : gx_Cn S gm_X6_time 3 [.ref (A 6 0 0), .int x, .int y, .int z] h (fun r h' => h' = h ∧ r = some (.int (sm_time σ x y z))) := by
  refine gx_Cn.of gt_X6_time (by simp [Value.category]) (Nat.le_of_ble_eq_true rfl) ?_
  show gx_Ev S gm_X6_time 3 0 [some (.ref (A 6 0 0)), some (.int x), some (.int y), some (.int z), none] [] h _
  refine gx_iload_n dX6_time_0 rfl ?_
  refine gx_aload_n dX6_time_1 rfl ?_
  refine gx_get dX6_time_2 gf_X6_124 (gs_g6 R hm) (v := .int (nI (σ.1 104 0 0))) rfl ?_
  refine gx_invS dX6_time_5 wm_X6_120 gt_X6_isIn ws_X6_isIn (As := [.int x, .int (nI (σ.1 104 0 0))]) (rest := []) rfl rfl (Nat.le_of_ble_eq_true rfl) (by decide) (cc_X6_isIn x (nI (σ.1 104 0 0))) (fun r1 h1 q1 => ?_)
  obtain ⟨rfl, rfl⟩ := q1
  show gx_Ev _ _ _ _ _ [.int (gs_bi (0 ≤ x ∧ x < (nI (σ.1 104 0 0))))] _ _
  refine gx_if_eq dX6_time_8 (tgt := 30) (by decide) (fun hc1 => ?_) (fun hc1 => ?_)
  · have hc1 := gs_b0 hc1
    refine gx_iconst dX6_time_30 (v := (-1)) (by decide) ?_
    refine gx_ireturn dX6_time_31 ?_
    exact ⟨⟨_, rfl, rfl⟩, rfl, by simp [sm_time, hc1]⟩
  · have hc1 := gs_b1 hc1
    refine gx_iload_n dX6_time_11 rfl ?_
    refine gx_aload_n dX6_time_12 rfl ?_
    refine gx_get dX6_time_13 gf_X6_101 (gs_g6 R hm) (v := .int (nI (σ.1 100 0 0))) rfl ?_
    refine gx_invS dX6_time_16 wm_X6_120 gt_X6_isIn ws_X6_isIn (As := [.int y, .int (nI (σ.1 100 0 0))]) (rest := []) rfl rfl (Nat.le_of_ble_eq_true rfl) (by decide) (cc_X6_isIn y (nI (σ.1 100 0 0))) (fun r1 h1 q1 => ?_)
    obtain ⟨rfl, rfl⟩ := q1
    show gx_Ev _ _ _ _ _ [.int (gs_bi (0 ≤ y ∧ y < (nI (σ.1 100 0 0))))] _ _
    refine gx_if_eq dX6_time_19 (tgt := 30) (by decide) (fun hc2 => ?_) (fun hc2 => ?_)
    · have hc2 := gs_b0 hc2
      refine gx_iconst dX6_time_30 (v := (-1)) (by decide) ?_
      refine gx_ireturn dX6_time_31 ?_
      exact ⟨⟨_, rfl, rfl⟩, rfl, by simp [sm_time, hc1, hc2]⟩
    · have hc2 := gs_b1 hc2
      refine gx_iload_n dX6_time_22 rfl ?_
      refine gx_iconst dX6_time_23 (v := 3) (by decide) ?_
      refine gx_invS dX6_time_24 wm_X6_120 gt_X6_isIn ws_X6_isIn (As := [.int z, .int 3]) (rest := []) rfl rfl (Nat.le_of_ble_eq_true rfl) (by decide) (cc_X6_isIn z 3) (fun r1 h1 q1 => ?_)
      obtain ⟨rfl, rfl⟩ := q1
      show gx_Ev _ _ _ _ _ [.int (gs_bi (0 ≤ z ∧ z < 3))] _ _
      refine gx_if_ne dX6_time_27 (tgt := 32) (by decide) (fun hc3 => ?_) (fun hc3 => ?_)
      · have hc3 := gs_b1 hc3
        refine gx_iload_n dX6_time_32 rfl ?_
        refine gx_iconst dX6_time_33 (v := 2) (by decide) ?_
        refine gx_icmp_ne dX6_time_34 (tgt := 56) (by decide) (fun hc4 => ?_) (fun hc4 => ?_)
        · refine gx_iload_n dX6_time_56 rfl ?_
          refine gx_if_ne dX6_time_57 (tgt := 74) (by decide) (fun hc5 => ?_) (fun hc5 => ?_)
          · refine gx_aload_n dX6_time_74 rfl ?_
            refine gx_get dX6_time_75 gf_X6_50 (gs_g6 R hm) (v := .ref (A 35 0 0)) rfl ?_
            refine gx_iload_n dX6_time_78 rfl ?_
            refine gx_iload_n dX6_time_79 rfl ?_
            refine gx_invS dX6_time_80 wm_X6_105 gt_X6_at ws_X6_at (As := [.int y, .int x]) (rest := [.ref (A 35 0 0)]) rfl rfl (Nat.le_of_ble_eq_true rfl) (by decide) (cc_X6_atE (g := y.toNatClampNeg) (o := x.toNatClampNeg) ((gs_ixl (N := σ.1 100 0 0) rfl hc2 (by have := gv_n2 V; have := gv_n4 V; have := gv_cnt V; omega)).1) ((gs_ixl (N := σ.1 104 0 0) rfl hc1 (by have := gv_n2 V; have := gv_n4 V; have := gv_cnt V; omega)).1)) (fun r1 h1 q1 => ?_)
            obtain ⟨rfl, rfl⟩ := q1
            show gx_Ev _ _ _ _ _ [.int (nI (40 * y.toNatClampNeg + x.toNatClampNeg)), .ref (A 35 0 0)] _ _
            refine gq_35 dX6_time_83 R hm (q := 40 * y.toNatClampNeg + x.toNatClampNeg) (rfl) (by have := (gs_ixl (N := σ.1 104 0 0) rfl hc1 (by have := gv_n2 V; have := gv_n4 V; have := gv_cnt V; omega)).2; have := (gs_ixl (N := σ.1 100 0 0) rfl hc2 (by have := gv_n2 V; have := gv_n4 V; have := gv_cnt V; omega)).2; have := gv_n2 V; have := gv_n4 V; have := gv_cnt V; omega) (v := σ.2.1 115 (40 * y.toNatClampNeg + x.toNatClampNeg) 0) rfl ?_
            refine gx_istore dX6_time_84 (by decide) rfl (L' := [some (.ref (A 6 0 0)), some (.int x), some (.int y), some (.int z), some (.int (σ.2.1 115 (40 * y.toNatClampNeg + x.toNatClampNeg) 0))]) rfl ?_
            refine gx_iload dX6_time_86 rfl ?_
            refine gx_if_ne dX6_time_88 (tgt := 95) (by decide) (fun hc6 => ?_) (fun hc6 => ?_)
            · refine gx_iload dX6_time_95 rfl ?_
              refine gx_ireturn dX6_time_97 ?_
              exact ⟨⟨_, rfl, rfl⟩, rfl, by simp [sm_time, hc1, hc2, hc3, hc4, hc5, hc6]⟩
            · refine gx_iconst dX6_time_91 (v := (-1)) (by decide) ?_
              refine gx_goto dX6_time_92 (tgt := 97) (by decide) ?_
              refine gx_ireturn dX6_time_97 ?_
              exact ⟨⟨_, rfl, rfl⟩, rfl, by simp [sm_time, hc1, hc2, hc3, hc4, hc5, hc6]⟩
          · refine gx_aload_n dX6_time_60 rfl ?_
            refine gx_get dX6_time_61 gf_X6_62 (gs_g6 R hm) (v := .ref (A 39 0 0)) rfl ?_
            refine gx_iload_n dX6_time_64 rfl ?_
            refine gx_iload_n dX6_time_65 rfl ?_
            refine gx_iload_n dX6_time_66 rfl ?_
            refine gx_invS dX6_time_67 wm_X6_131 gt_X6_of ws_X6_of (As := [.int y, .int x, .int y]) (rest := [.ref (A 39 0 0)]) rfl rfl (Nat.le_of_ble_eq_true rfl) (by decide) (cc_X6_ofE (g := y.toNatClampNeg) (o := x.toNatClampNeg) (q := y.toNatClampNeg) ((gs_ixl (N := σ.1 100 0 0) rfl hc2 (by have := gv_n2 V; have := gv_n4 V; have := gv_cnt V; omega)).1) ((gs_ixl (N := σ.1 104 0 0) rfl hc1 (by have := gv_n2 V; have := gv_n4 V; have := gv_cnt V; omega)).1) ((gs_ixl (N := σ.1 100 0 0) rfl hc2 (by have := gv_n2 V; have := gv_n4 V; have := gv_cnt V; omega)).1)) (fun r1 h1 q1 => ?_)
            obtain ⟨rfl, rfl⟩ := q1
            show gx_Ev _ _ _ _ _ [.int (nI (4 * (40 * y.toNatClampNeg + x.toNatClampNeg) + y.toNatClampNeg)), .ref (A 39 0 0)] _ _
            refine gq_39 dX6_time_70 R hm (q := 4 * (40 * y.toNatClampNeg + x.toNatClampNeg) + y.toNatClampNeg) (rfl) (by have := (gs_ixl (N := σ.1 104 0 0) rfl hc1 (by have := gv_n2 V; have := gv_n4 V; have := gv_cnt V; omega)).2; have := (gs_ixl (N := σ.1 100 0 0) rfl hc2 (by have := gv_n2 V; have := gv_n4 V; have := gv_cnt V; omega)).2; have := gv_n2 V; have := gv_n4 V; have := gv_cnt V; omega) (v := σ.2.1 119 (4 * (40 * y.toNatClampNeg + x.toNatClampNeg) + y.toNatClampNeg) 0) rfl ?_
            refine gx_goto dX6_time_71 (tgt := 84) (by decide) ?_
            refine gx_istore dX6_time_84 (by decide) rfl (L' := [some (.ref (A 6 0 0)), some (.int x), some (.int y), some (.int z), some (.int (σ.2.1 119 (4 * (40 * y.toNatClampNeg + x.toNatClampNeg) + y.toNatClampNeg) 0))]) rfl ?_
            refine gx_iload dX6_time_86 rfl ?_
            refine gx_if_ne dX6_time_88 (tgt := 95) (by decide) (fun hc7 => ?_) (fun hc7 => ?_)
            · refine gx_iload dX6_time_95 rfl ?_
              refine gx_ireturn dX6_time_97 ?_
              exact ⟨⟨_, rfl, rfl⟩, rfl, by simp [sm_time, hc1, hc2, hc3, hc4, hc5, hc7]⟩
            · refine gx_iconst dX6_time_91 (v := (-1)) (by decide) ?_
              refine gx_goto dX6_time_92 (tgt := 97) (by decide) ?_
              refine gx_ireturn dX6_time_97 ?_
              exact ⟨⟨_, rfl, rfl⟩, rfl, by simp [sm_time, hc1, hc2, hc3, hc4, hc5, hc7]⟩
        · refine gx_aload_n dX6_time_37 rfl ?_
          refine gx_get dX6_time_38 gf_X6_59 (gs_g6 R hm) (v := .ref (A 38 0 0)) rfl ?_
          refine gx_iload_n dX6_time_41 rfl ?_
          refine gx_iload_n dX6_time_42 rfl ?_
          refine gx_invS dX6_time_43 wm_X6_105 gt_X6_at ws_X6_at (As := [.int y, .int x]) (rest := [.ref (A 38 0 0)]) rfl rfl (Nat.le_of_ble_eq_true rfl) (by decide) (cc_X6_atE (g := y.toNatClampNeg) (o := x.toNatClampNeg) ((gs_ixl (N := σ.1 100 0 0) rfl hc2 (by have := gv_n2 V; have := gv_n4 V; have := gv_cnt V; omega)).1) ((gs_ixl (N := σ.1 104 0 0) rfl hc1 (by have := gv_n2 V; have := gv_n4 V; have := gv_cnt V; omega)).1)) (fun r1 h1 q1 => ?_)
          obtain ⟨rfl, rfl⟩ := q1
          show gx_Ev _ _ _ _ _ [.int (nI (40 * y.toNatClampNeg + x.toNatClampNeg)), .ref (A 38 0 0)] _ _
          refine gq_38 dX6_time_46 R hm (q := 40 * y.toNatClampNeg + x.toNatClampNeg) (rfl) (by have := (gs_ixl (N := σ.1 104 0 0) rfl hc1 (by have := gv_n2 V; have := gv_n4 V; have := gv_cnt V; omega)).2; have := (gs_ixl (N := σ.1 100 0 0) rfl hc2 (by have := gv_n2 V; have := gv_n4 V; have := gv_cnt V; omega)).2; have := gv_n2 V; have := gv_n4 V; have := gv_cnt V; omega) (v := σ.2.1 118 (40 * y.toNatClampNeg + x.toNatClampNeg) 0) rfl ?_
          refine gx_if_eq dX6_time_47 (tgt := 54) (by decide) (fun hc8 => ?_) (fun hc8 => ?_)
          · refine gx_iconst dX6_time_54 (v := 0) (by decide) ?_
            refine gx_ireturn dX6_time_55 ?_
            exact ⟨⟨_, rfl, rfl⟩, rfl, by simp [sm_time, hc1, hc2, hc3, hc4, hc8]⟩
          · refine gx_iconst dX6_time_50 (v := 1) (by decide) ?_
            refine gx_goto dX6_time_51 (tgt := 55) (by decide) ?_
            refine gx_ireturn dX6_time_55 ?_
            exact ⟨⟨_, rfl, rfl⟩, rfl, by simp [sm_time, hc1, hc2, hc3, hc4, hc8]⟩
      · have hc3 := gs_b0 hc3
        refine gx_iconst dX6_time_30 (v := (-1)) (by decide) ?_
        refine gx_ireturn dX6_time_31 ?_
        exact ⟨⟨_, rfl, rfl⟩, rfl, by simp [sm_time, hc1, hc2, hc3]⟩
set_option maxHeartbeats 4000000 in
theorem cc_X6_flying {S : gx_S} {h : gx_H} {σ : gs_T} {A : gs_A} (R : gs_R h σ A) (hm : σ.1 31 0 0 = 1) (V : gv_V σ) : gx_Cn S gm_X6_flying 1 [.ref (A 6 0 0)] h (fun r h' => h' = h ∧ r = some (.int (nI (σ.1 125 0 0)))) := by
  refine gx_Cn.of gt_X6_flying (by simp [Value.category]) (Nat.le_of_ble_eq_true rfl) ?_
  show gx_Ev S gm_X6_flying 1 0 [some (.ref (A 6 0 0))] [] h _
  refine gx_aload_n dX6_flying_0 rfl ?_
  refine gx_get dX6_flying_1 gf_X6_109 (gs_g6 R hm) (v := .int (nI (σ.1 125 0 0))) rfl ?_
  refine gx_ireturn dX6_flying_4 ?_
  exact ⟨⟨_, rfl, rfl⟩, rfl, rfl⟩
def sm_up (σ : gs_T) (x b : Int32) : gs_T := if 0 ≤ x ∧ x < nI (σ.1 100 0 0) then gs_i σ 102 x.toNatClampNeg 0 (if b = 0 then 1 else 0) else σ
set_option maxHeartbeats 4000000 in
theorem cc_X6_up {S : gx_S} {h : gx_H} {σ : gs_T} {A : gs_A} (R : gs_R h σ A) (hm : σ.1 31 0 0 = 1) (V : gv_V σ) (x b : Int32) : gx_Cn S gm_X6_up 2 [.ref (A 6 0 0), .int x, .int b] h (fun r h' => gs_R h' (sm_up σ x b) A ∧ gs_sm h h' ∧ r = some (.int (gs_bi (0 ≤ x ∧ x < nI (σ.1 100 0 0))))) := by
  refine gx_Cn.of gt_X6_up (by simp [Value.category]) (Nat.le_of_ble_eq_true rfl) ?_
  show gx_Ev S gm_X6_up 2 0 [some (.ref (A 6 0 0)), some (.int x), some (.int b)] [] h _
  refine gx_iload_n dX6_up_0 rfl ?_
  refine gx_aload_n dX6_up_1 rfl ?_
  refine gx_get dX6_up_2 gf_X6_101 (gs_g6 R hm) (v := .int (nI (σ.1 100 0 0))) rfl ?_
  refine gx_invS dX6_up_5 wm_X6_120 gt_X6_isIn ws_X6_isIn (As := [.int x, .int (nI (σ.1 100 0 0))]) (rest := []) rfl rfl (Nat.le_of_ble_eq_true rfl) (by decide) (cc_X6_isIn x (nI (σ.1 100 0 0))) (fun r1 h1 q1 => ?_)
  obtain ⟨rfl, rfl⟩ := q1
  show gx_Ev _ _ _ _ _ [.int (gs_bi (0 ≤ x ∧ x < (nI (σ.1 100 0 0))))] _ _
  refine gx_if_ne dX6_up_8 (tgt := 13) (by decide) (fun hc1 => ?_) (fun hc1 => ?_)
  · have hc1 := gs_b1 hc1
    refine gx_aload_n dX6_up_13 rfl ?_
    refine gx_get dX6_up_14 gf_X6_13 (gs_g6 R hm) (v := .ref (A 22 0 0)) rfl ?_
    refine gx_iload_n dX6_up_17 rfl ?_
    refine gx_iload_n dX6_up_18 rfl ?_
    refine gx_if_ne dX6_up_19 (tgt := 26) (by decide) (fun hc2 => ?_) (fun hc2 => ?_)
    · refine gx_iconst dX6_up_26 (v := 0) (by decide) ?_
      refine ga_I102 (σ := σ) hm dX6_up_27 R (by first | exact Or.inl rfl | exact Or.inr rfl) (q := x.toNatClampNeg) (v := 0) ((gs_ixl (N := σ.1 100 0 0) rfl hc1 (by have := gv_n2 V; have := gv_n4 V; have := gv_cnt V; omega)).1) (by have := (gs_ixl (N := σ.1 100 0 0) rfl hc1 (by have := gv_n2 V; have := gv_n4 V; have := gv_cnt V; omega)).2; have := gv_n2 V; have := gv_n4 V; have := gv_cnt V; omega) (fun h R hs0 => ?_)
      refine gx_iconst dX6_up_28 (v := 1) (by decide) ?_
      refine gx_ireturn dX6_up_29 ?_
      exact ⟨⟨_, rfl, rfl⟩, by simpa [sm_up, hc1, hc2] using R, hs0, congrArg (fun z => some (Value.int z)) (gs_bt hc1)⟩
    · refine gx_iconst dX6_up_22 (v := 1) (by decide) ?_
      refine gx_goto dX6_up_23 (tgt := 27) (by decide) ?_
      refine ga_I102 (σ := σ) hm dX6_up_27 R (by first | exact Or.inl rfl | exact Or.inr rfl) (q := x.toNatClampNeg) (v := 1) ((gs_ixl (N := σ.1 100 0 0) rfl hc1 (by have := gv_n2 V; have := gv_n4 V; have := gv_cnt V; omega)).1) (by have := (gs_ixl (N := σ.1 100 0 0) rfl hc1 (by have := gv_n2 V; have := gv_n4 V; have := gv_cnt V; omega)).2; have := gv_n2 V; have := gv_n4 V; have := gv_cnt V; omega) (fun h R hs0 => ?_)
      refine gx_iconst dX6_up_28 (v := 1) (by decide) ?_
      refine gx_ireturn dX6_up_29 ?_
      exact ⟨⟨_, rfl, rfl⟩, by simpa [sm_up, hc1, hc2] using R, hs0, congrArg (fun z => some (Value.int z)) (gs_bt hc1)⟩
  · have hc1 := gs_b0 hc1
    refine gx_iconst dX6_up_11 (v := 0) (by decide) ?_
    refine gx_ireturn dX6_up_12 ?_
    exact ⟨⟨_, rfl, rfl⟩, by simp [sm_up, hc1]; exact R, ⟨rfl, rfl⟩, congrArg (fun z => some (Value.int z)) (gs_bf hc1)⟩
end
section
/-! the reference: put, putOthers, move -/
def sm_put (σ : gs_T) (k : Int32) (o f g : Nat) (t : Int32) : gs_T := (gs_n (gs_i (gs_i (gs_i (gs_n (gs_n (gs_n (gs_i σ 126 (σ.1 125 0 0) 0 k) 127 (σ.1 125 0 0) 0 o) 128 (σ.1 125 0 0) 0 f) 129 (σ.1 125 0 0) 0 g) 130 (σ.1 125 0 0) 0 t) 131 (σ.1 125 0 0) 0 (σ.2.1 103 (σ.1 107 o 0) 0)) 132 (σ.1 125 0 0) 0 (σ.2.1 103 (σ.1 108 o 0) 0)) 125 0 0 (σ.1 125 0 0 + 1))
set_option maxHeartbeats 4000000 in
theorem cc_X6_put {S : gx_S} {h : gx_H} {σ : gs_T} {A : gs_A} (R : gs_R h σ A) (hm : σ.1 31 0 0 = 1) (V : gv_V σ) (k : Int32) {o : Nat} (f g : Nat) (t : Int32) (ho : o < 40) (hF : σ.1 125 0 0 < 400) : gx_Cn S gm_X6_put 1 [.ref (A 6 0 0), .int k, .int (nI o), .int (gs_sf f), .int (nI g), .int t] h (fun r h' => gs_R h' (sm_put σ k o f g t) A ∧ gs_sm h h' ∧ r = none) := by
  refine gx_Cn.of gt_X6_put (by simp [Value.category]) (Nat.le_of_ble_eq_true rfl) ?_
  show gx_Ev S gm_X6_put 1 0 [some (.ref (A 6 0 0)), some (.int k), some (.int (nI o)), some (.int (gs_sf f)), some (.int (nI g)), some (.int t)] [] h _
  refine gx_aload_n dX6_put_0 rfl ?_
  refine gx_get dX6_put_1 gf_X6_80 (gs_g6 R hm) (v := .ref (A 46 0 0)) rfl ?_
  refine gx_aload_n dX6_put_4 rfl ?_
  refine gx_get dX6_put_5 gf_X6_109 (gs_g6 R hm) (v := .int (nI (σ.1 125 0 0))) rfl ?_
  refine gx_iload_n dX6_put_8 rfl ?_
  refine ga_I126 (σ := σ) hm dX6_put_9 R (q := σ.1 125 0 0) (v := k) (rfl) (by first | assumption | (have := gv_n2 V; have := gv_n4 V; have := gv_cnt V; omega) | (have := gv_a V o; omega) | (have := gv_bk V o; omega)) (fun h R hs0 => ?_)
  refine gx_aload_n dX6_put_10 rfl ?_
  refine gx_get dX6_put_11 gf_X6_83 (gs_g6 R hm) (v := .ref (A 47 0 0)) rfl ?_
  refine gx_aload_n dX6_put_14 rfl ?_
  refine gx_get dX6_put_15 gf_X6_109 (gs_g6 R hm) (v := .int (nI (σ.1 125 0 0))) rfl ?_
  refine gx_iload_n dX6_put_18 rfl ?_
  refine ga_N127 (σ := (gs_i σ 126 (σ.1 125 0 0) 0 k)) hm dX6_put_19 R (rfl) (q := σ.1 125 0 0) (v := o) (rfl) (by first | assumption | (have := gv_n2 V; have := gv_n4 V; have := gv_cnt V; omega) | (have := gv_a V o; omega) | (have := gv_bk V o; omega)) (fun h R hs1 => ?_)
  refine gx_aload_n dX6_put_20 rfl ?_
  refine gx_get dX6_put_21 gf_X6_86 (gs_g6 R hm) (v := .ref (A 48 0 0)) rfl ?_
  refine gx_aload_n dX6_put_24 rfl ?_
  refine gx_get dX6_put_25 gf_X6_109 (gs_g6 R hm) (v := .int (nI (σ.1 125 0 0))) rfl ?_
  refine gx_iload_n dX6_put_28 rfl ?_
  refine ga_N128 (σ := (gs_n (gs_i σ 126 (σ.1 125 0 0) 0 k) 127 (σ.1 125 0 0) 0 o)) hm dX6_put_29 R (rfl) (q := σ.1 125 0 0) (v := f) (rfl) (by first | assumption | (have := gv_n2 V; have := gv_n4 V; have := gv_cnt V; omega) | (have := gv_a V o; omega) | (have := gv_bk V o; omega)) (fun h R hs2 => ?_)
  refine gx_aload_n dX6_put_30 rfl ?_
  refine gx_get dX6_put_31 gf_X6_89 (gs_g6 R hm) (v := .ref (A 49 0 0)) rfl ?_
  refine gx_aload_n dX6_put_34 rfl ?_
  refine gx_get dX6_put_35 gf_X6_109 (gs_g6 R hm) (v := .int (nI (σ.1 125 0 0))) rfl ?_
  refine gx_iload dX6_put_38 rfl ?_
  refine ga_N129 (σ := (gs_n (gs_n (gs_i σ 126 (σ.1 125 0 0) 0 k) 127 (σ.1 125 0 0) 0 o) 128 (σ.1 125 0 0) 0 f)) hm dX6_put_40 R (rfl) (q := σ.1 125 0 0) (v := g) (rfl) (by first | assumption | (have := gv_n2 V; have := gv_n4 V; have := gv_cnt V; omega) | (have := gv_a V o; omega) | (have := gv_bk V o; omega)) (fun h R hs3 => ?_)
  refine gx_aload_n dX6_put_41 rfl ?_
  refine gx_get dX6_put_42 gf_X6_92 (gs_g6 R hm) (v := .ref (A 50 0 0)) rfl ?_
  refine gx_aload_n dX6_put_45 rfl ?_
  refine gx_get dX6_put_46 gf_X6_109 (gs_g6 R hm) (v := .int (nI (σ.1 125 0 0))) rfl ?_
  refine gx_iload dX6_put_49 rfl ?_
  refine ga_I130 (σ := (gs_n (gs_n (gs_n (gs_i σ 126 (σ.1 125 0 0) 0 k) 127 (σ.1 125 0 0) 0 o) 128 (σ.1 125 0 0) 0 f) 129 (σ.1 125 0 0) 0 g)) hm dX6_put_51 R (q := σ.1 125 0 0) (v := t) (rfl) (by first | assumption | (have := gv_n2 V; have := gv_n4 V; have := gv_cnt V; omega) | (have := gv_a V o; omega) | (have := gv_bk V o; omega)) (fun h R hs4 => ?_)
  refine gx_aload_n dX6_put_52 rfl ?_
  refine gx_get dX6_put_53 gf_X6_95 (gs_g6 R hm) (v := .ref (A 51 0 0)) rfl ?_
  refine gx_aload_n dX6_put_56 rfl ?_
  refine gx_get dX6_put_57 gf_X6_109 (gs_g6 R hm) (v := .int (nI (σ.1 125 0 0))) rfl ?_
  refine gx_aload_n dX6_put_60 rfl ?_
  refine gx_get dX6_put_61 gf_X6_17 (gs_g6 R hm) (v := .ref (A 23 0 0)) rfl ?_
  refine gx_aload_n dX6_put_64 rfl ?_
  refine gx_get dX6_put_65 gf_X6_26 (gs_g6 R hm) (v := .ref (A 27 0 0)) rfl ?_
  refine gx_iload_n dX6_put_68 rfl ?_
  refine gq_27 dX6_put_69 R hm (q := o) (rfl) (by first | assumption | (have := gv_n2 V; have := gv_n4 V; have := gv_cnt V; omega) | (have := gv_a V o; omega) | (have := gv_bk V o; omega)) (v := nI (σ.1 107 o 0)) rfl ?_
  refine gq_23 dX6_put_70 R hm (q := σ.1 107 o 0) (rfl) (by first | assumption | (have := gv_n2 V; have := gv_n4 V; have := gv_cnt V; omega) | (have := gv_a V o; omega) | (have := gv_bk V o; omega)) (v := σ.2.1 103 (σ.1 107 o 0) 0) rfl ?_
  refine ga_I131 (σ := (gs_i (gs_n (gs_n (gs_n (gs_i σ 126 (σ.1 125 0 0) 0 k) 127 (σ.1 125 0 0) 0 o) 128 (σ.1 125 0 0) 0 f) 129 (σ.1 125 0 0) 0 g) 130 (σ.1 125 0 0) 0 t)) hm dX6_put_71 R (q := σ.1 125 0 0) (v := σ.2.1 103 (σ.1 107 o 0) 0) (rfl) (by first | assumption | (have := gv_n2 V; have := gv_n4 V; have := gv_cnt V; omega) | (have := gv_a V o; omega) | (have := gv_bk V o; omega)) (fun h R hs5 => ?_)
  refine gx_aload_n dX6_put_72 rfl ?_
  refine gx_get dX6_put_73 gf_X6_98 (gs_g6 R hm) (v := .ref (A 52 0 0)) rfl ?_
  refine gx_aload_n dX6_put_76 rfl ?_
  refine gx_get dX6_put_77 gf_X6_109 (gs_g6 R hm) (v := .int (nI (σ.1 125 0 0))) rfl ?_
  refine gx_aload_n dX6_put_80 rfl ?_
  refine gx_get dX6_put_81 gf_X6_17 (gs_g6 R hm) (v := .ref (A 23 0 0)) rfl ?_
  refine gx_aload_n dX6_put_84 rfl ?_
  refine gx_get dX6_put_85 gf_X6_29 (gs_g6 R hm) (v := .ref (A 28 0 0)) rfl ?_
  refine gx_iload_n dX6_put_88 rfl ?_
  refine gq_28 dX6_put_89 R hm (q := o) (rfl) (by first | assumption | (have := gv_n2 V; have := gv_n4 V; have := gv_cnt V; omega) | (have := gv_a V o; omega) | (have := gv_bk V o; omega)) (v := nI (σ.1 108 o 0)) rfl ?_
  refine gq_23 dX6_put_90 R hm (q := σ.1 108 o 0) (rfl) (by first | assumption | (have := gv_n2 V; have := gv_n4 V; have := gv_cnt V; omega) | (have := gv_a V o; omega) | (have := gv_bk V o; omega)) (v := σ.2.1 103 (σ.1 108 o 0) 0) rfl ?_
  refine ga_I132 (σ := (gs_i (gs_i (gs_n (gs_n (gs_n (gs_i σ 126 (σ.1 125 0 0) 0 k) 127 (σ.1 125 0 0) 0 o) 128 (σ.1 125 0 0) 0 f) 129 (σ.1 125 0 0) 0 g) 130 (σ.1 125 0 0) 0 t) 131 (σ.1 125 0 0) 0 (σ.2.1 103 (σ.1 107 o 0) 0))) hm dX6_put_91 R (q := σ.1 125 0 0) (v := σ.2.1 103 (σ.1 108 o 0) 0) (rfl) (by first | assumption | (have := gv_n2 V; have := gv_n4 V; have := gv_cnt V; omega) | (have := gv_a V o; omega) | (have := gv_bk V o; omega)) (fun h R hs6 => ?_)
  refine gx_aload_n dX6_put_92 rfl ?_
  refine gx_dup dX6_put_93 rfl ?_
  refine gx_get dX6_put_94 gf_X6_109 (gs_g6 R hm) (v := .int (nI (σ.1 125 0 0))) rfl ?_
  refine gx_iconst dX6_put_97 (v := 1) (by decide) ?_
  refine gx_iadd dX6_put_98 ?_
  rw [show ((nI (σ.1 125 0 0)) + 1 : Int32) = nI (σ.1 125 0 0 + 1) from nI_1 _]
  refine gp_N125 (σ := (gs_i (gs_i (gs_i (gs_n (gs_n (gs_n (gs_i σ 126 (σ.1 125 0 0) 0 k) 127 (σ.1 125 0 0) 0 o) 128 (σ.1 125 0 0) 0 f) 129 (σ.1 125 0 0) 0 g) 130 (σ.1 125 0 0) 0 t) 131 (σ.1 125 0 0) 0 (σ.2.1 103 (σ.1 107 o 0) 0)) 132 (σ.1 125 0 0) 0 (σ.2.1 103 (σ.1 108 o 0) 0))) hm dX6_put_99 gf_X6_109 R (rfl) (v := σ.1 125 0 0 + 1) (fun h R hs7 => ?_)
  refine gx_return dX6_put_102 ?_
  exact ⟨rfl, R, ((((((((gs_sm.rfl.trans hs0).trans hs1).trans hs2).trans hs3).trans hs4).trans hs5).trans hs6).trans hs7), rfl⟩
def sm_move (σ : gs_T) (i j : Nat) : gs_T := (gs_i (gs_i (gs_i (gs_n (gs_n (gs_n (gs_i σ 126 j 0 (σ.2.1 126 i 0)) 127 j 0 (σ.1 127 i 0)) 128 j 0 (σ.1 128 i 0)) 129 j 0 (σ.1 129 i 0)) 130 j 0 (σ.2.1 130 i 0)) 131 j 0 (σ.2.1 131 i 0)) 132 j 0 (σ.2.1 132 i 0))
set_option maxHeartbeats 4000000 in
theorem cc_X6_move {S : gx_S} {h : gx_H} {σ : gs_T} {A : gs_A} (R : gs_R h σ A) (hm : σ.1 31 0 0 = 1) (V : gv_V σ) {i j : Nat} (hi : i < 400) (hj : j < 400) : gx_Cn S gm_X6_move 1 [.ref (A 6 0 0), .int (nI i), .int (nI j)] h (fun r h' => gs_R h' (sm_move σ i j) A ∧ gs_sm h h' ∧ r = none) := by
  refine gx_Cn.of gt_X6_move (by simp [Value.category]) (Nat.le_of_ble_eq_true rfl) ?_
  show gx_Ev S gm_X6_move 1 0 [some (.ref (A 6 0 0)), some (.int (nI i)), some (.int (nI j))] [] h _
  refine gx_aload_n dX6_move_0 rfl ?_
  refine gx_get dX6_move_1 gf_X6_80 (gs_g6 R hm) (v := .ref (A 46 0 0)) rfl ?_
  refine gx_iload_n dX6_move_4 rfl ?_
  refine gx_aload_n dX6_move_5 rfl ?_
  refine gx_get dX6_move_6 gf_X6_80 (gs_g6 R hm) (v := .ref (A 46 0 0)) rfl ?_
  refine gx_iload_n dX6_move_9 rfl ?_
  refine gq_46 dX6_move_10 R hm (q := i) (rfl) (by first | assumption | (have := gv_n2 V; have := gv_n4 V; have := gv_cnt V; omega) | (have := gv_a V o; omega) | (have := gv_bk V o; omega)) (v := σ.2.1 126 i 0) rfl ?_
  refine ga_I126 (σ := σ) hm dX6_move_11 R (q := j) (v := σ.2.1 126 i 0) (rfl) (by first | assumption | (have := gv_n2 V; have := gv_n4 V; have := gv_cnt V; omega) | (have := gv_a V o; omega) | (have := gv_bk V o; omega)) (fun h R hs0 => ?_)
  refine gx_aload_n dX6_move_12 rfl ?_
  refine gx_get dX6_move_13 gf_X6_83 (gs_g6 R hm) (v := .ref (A 47 0 0)) rfl ?_
  refine gx_iload_n dX6_move_16 rfl ?_
  refine gx_aload_n dX6_move_17 rfl ?_
  refine gx_get dX6_move_18 gf_X6_83 (gs_g6 R hm) (v := .ref (A 47 0 0)) rfl ?_
  refine gx_iload_n dX6_move_21 rfl ?_
  refine gq_47 dX6_move_22 R hm (q := i) (rfl) (by first | assumption | (have := gv_n2 V; have := gv_n4 V; have := gv_cnt V; omega) | (have := gv_a V o; omega) | (have := gv_bk V o; omega)) (v := nI (σ.1 127 i 0)) rfl ?_
  refine ga_N127 (σ := (gs_i σ 126 j 0 (σ.2.1 126 i 0))) hm dX6_move_23 R (rfl) (q := j) (v := σ.1 127 i 0) (rfl) (by first | assumption | (have := gv_n2 V; have := gv_n4 V; have := gv_cnt V; omega) | (have := gv_a V o; omega) | (have := gv_bk V o; omega)) (fun h R hs1 => ?_)
  refine gx_aload_n dX6_move_24 rfl ?_
  refine gx_get dX6_move_25 gf_X6_86 (gs_g6 R hm) (v := .ref (A 48 0 0)) rfl ?_
  refine gx_iload_n dX6_move_28 rfl ?_
  refine gx_aload_n dX6_move_29 rfl ?_
  refine gx_get dX6_move_30 gf_X6_86 (gs_g6 R hm) (v := .ref (A 48 0 0)) rfl ?_
  refine gx_iload_n dX6_move_33 rfl ?_
  refine gq_48 dX6_move_34 R hm (q := i) (rfl) (by first | assumption | (have := gv_n2 V; have := gv_n4 V; have := gv_cnt V; omega) | (have := gv_a V o; omega) | (have := gv_bk V o; omega)) (v := gs_sf (σ.1 128 i 0)) rfl ?_
  refine ga_N128 (σ := (gs_n (gs_i σ 126 j 0 (σ.2.1 126 i 0)) 127 j 0 (σ.1 127 i 0))) hm dX6_move_35 R (rfl) (q := j) (v := σ.1 128 i 0) (rfl) (by first | assumption | (have := gv_n2 V; have := gv_n4 V; have := gv_cnt V; omega) | (have := gv_a V o; omega) | (have := gv_bk V o; omega)) (fun h R hs2 => ?_)
  refine gx_aload_n dX6_move_36 rfl ?_
  refine gx_get dX6_move_37 gf_X6_89 (gs_g6 R hm) (v := .ref (A 49 0 0)) rfl ?_
  refine gx_iload_n dX6_move_40 rfl ?_
  refine gx_aload_n dX6_move_41 rfl ?_
  refine gx_get dX6_move_42 gf_X6_89 (gs_g6 R hm) (v := .ref (A 49 0 0)) rfl ?_
  refine gx_iload_n dX6_move_45 rfl ?_
  refine gq_49 dX6_move_46 R hm (q := i) (rfl) (by first | assumption | (have := gv_n2 V; have := gv_n4 V; have := gv_cnt V; omega) | (have := gv_a V o; omega) | (have := gv_bk V o; omega)) (v := nI (σ.1 129 i 0)) rfl ?_
  refine ga_N129 (σ := (gs_n (gs_n (gs_i σ 126 j 0 (σ.2.1 126 i 0)) 127 j 0 (σ.1 127 i 0)) 128 j 0 (σ.1 128 i 0))) hm dX6_move_47 R (rfl) (q := j) (v := σ.1 129 i 0) (rfl) (by first | assumption | (have := gv_n2 V; have := gv_n4 V; have := gv_cnt V; omega) | (have := gv_a V o; omega) | (have := gv_bk V o; omega)) (fun h R hs3 => ?_)
  refine gx_aload_n dX6_move_48 rfl ?_
  refine gx_get dX6_move_49 gf_X6_92 (gs_g6 R hm) (v := .ref (A 50 0 0)) rfl ?_
  refine gx_iload_n dX6_move_52 rfl ?_
  refine gx_aload_n dX6_move_53 rfl ?_
  refine gx_get dX6_move_54 gf_X6_92 (gs_g6 R hm) (v := .ref (A 50 0 0)) rfl ?_
  refine gx_iload_n dX6_move_57 rfl ?_
  refine gq_50 dX6_move_58 R hm (q := i) (rfl) (by first | assumption | (have := gv_n2 V; have := gv_n4 V; have := gv_cnt V; omega) | (have := gv_a V o; omega) | (have := gv_bk V o; omega)) (v := σ.2.1 130 i 0) rfl ?_
  refine ga_I130 (σ := (gs_n (gs_n (gs_n (gs_i σ 126 j 0 (σ.2.1 126 i 0)) 127 j 0 (σ.1 127 i 0)) 128 j 0 (σ.1 128 i 0)) 129 j 0 (σ.1 129 i 0))) hm dX6_move_59 R (q := j) (v := σ.2.1 130 i 0) (rfl) (by first | assumption | (have := gv_n2 V; have := gv_n4 V; have := gv_cnt V; omega) | (have := gv_a V o; omega) | (have := gv_bk V o; omega)) (fun h R hs4 => ?_)
  refine gx_aload_n dX6_move_60 rfl ?_
  refine gx_get dX6_move_61 gf_X6_95 (gs_g6 R hm) (v := .ref (A 51 0 0)) rfl ?_
  refine gx_iload_n dX6_move_64 rfl ?_
  refine gx_aload_n dX6_move_65 rfl ?_
  refine gx_get dX6_move_66 gf_X6_95 (gs_g6 R hm) (v := .ref (A 51 0 0)) rfl ?_
  refine gx_iload_n dX6_move_69 rfl ?_
  refine gq_51 dX6_move_70 R hm (q := i) (rfl) (by first | assumption | (have := gv_n2 V; have := gv_n4 V; have := gv_cnt V; omega) | (have := gv_a V o; omega) | (have := gv_bk V o; omega)) (v := σ.2.1 131 i 0) rfl ?_
  refine ga_I131 (σ := (gs_i (gs_n (gs_n (gs_n (gs_i σ 126 j 0 (σ.2.1 126 i 0)) 127 j 0 (σ.1 127 i 0)) 128 j 0 (σ.1 128 i 0)) 129 j 0 (σ.1 129 i 0)) 130 j 0 (σ.2.1 130 i 0))) hm dX6_move_71 R (q := j) (v := σ.2.1 131 i 0) (rfl) (by first | assumption | (have := gv_n2 V; have := gv_n4 V; have := gv_cnt V; omega) | (have := gv_a V o; omega) | (have := gv_bk V o; omega)) (fun h R hs5 => ?_)
  refine gx_aload_n dX6_move_72 rfl ?_
  refine gx_get dX6_move_73 gf_X6_98 (gs_g6 R hm) (v := .ref (A 52 0 0)) rfl ?_
  refine gx_iload_n dX6_move_76 rfl ?_
  refine gx_aload_n dX6_move_77 rfl ?_
  refine gx_get dX6_move_78 gf_X6_98 (gs_g6 R hm) (v := .ref (A 52 0 0)) rfl ?_
  refine gx_iload_n dX6_move_81 rfl ?_
  refine gq_52 dX6_move_82 R hm (q := i) (rfl) (by first | assumption | (have := gv_n2 V; have := gv_n4 V; have := gv_cnt V; omega) | (have := gv_a V o; omega) | (have := gv_bk V o; omega)) (v := σ.2.1 132 i 0) rfl ?_
  refine ga_I132 (σ := (gs_i (gs_i (gs_n (gs_n (gs_n (gs_i σ 126 j 0 (σ.2.1 126 i 0)) 127 j 0 (σ.1 127 i 0)) 128 j 0 (σ.1 128 i 0)) 129 j 0 (σ.1 129 i 0)) 130 j 0 (σ.2.1 130 i 0)) 131 j 0 (σ.2.1 131 i 0))) hm dX6_move_83 R (q := j) (v := σ.2.1 132 i 0) (rfl) (by first | assumption | (have := gv_n2 V; have := gv_n4 V; have := gv_cnt V; omega) | (have := gv_a V o; omega) | (have := gv_bk V o; omega)) (fun h R hs6 => ?_)
  refine gx_return dX6_move_84 ?_
  exact ⟨rfl, R, (((((((gs_sm.rfl.trans hs0).trans hs1).trans hs2).trans hs3).trans hs4).trans hs5).trans hs6), rfl⟩
def sm_po1 (σ : gs_T) (k : Int32) (o f : Nat) (t : Int32) (g : Nat) : gs_T := if ¬ f = g + 1 ∧ gv_of σ g o then sm_put σ k o f g t else σ
def sm_po (σ : gs_T) (k : Int32) (o f : Nat) (t : Int32) (g : Nat) : gs_T := match g with
  | 0 => σ
  | g + 1 => sm_po1 (sm_po σ k o f t g) k o f t g
theorem gv_put {σ : gs_T} {k : Int32} {o f g : Nat} {t : Int32} (V : gv_V σ) (ho : o < 40) (hf : f ≤ σ.1 100 0 0) (hg : g < σ.1 100 0 0) : gv_V (sm_put σ k o f g t) :=
  gv_n (gv_i (gv_i (gv_i (gv_n (gv_n (gv_n (gv_i V) (by decide) ho) (by decide) hf) (by decide) hg)))) (by decide) trivial
theorem sm_po_keep {σ : gs_T} {k : Int32} {o f : Nat} {t : Int32} (V : gv_V σ) (ho : o < 40) (hf : f ≤ σ.1 100 0 0) (g : Nat) (hg : g ≤ σ.1 100 0 0) : gv_V (sm_po σ k o f t g) ∧ (sm_po σ k o f t g).1 100 0 0 = σ.1 100 0 0 ∧ (sm_po σ k o f t g).1 31 0 0 = σ.1 31 0 0 ∧ (sm_po σ k o f t g).1 125 0 0 ≤ σ.1 125 0 0 + g := by
  induction g with
  | zero => exact ⟨V, rfl, rfl, Nat.le_refl _⟩
  | succ g ih =>
    obtain ⟨i1, i2, i3, i4⟩ := ih (by omega)
    show gv_V (sm_po1 _ k o f t g) ∧ (sm_po1 _ k o f t g).1 100 0 0 = _ ∧ (sm_po1 _ k o f t g).1 31 0 0 = _ ∧ (sm_po1 _ k o f t g).1 125 0 0 ≤ _
    unfold sm_po1
    split
    · refine ⟨gv_put i1 ho (by rw [i2]; exact hf) (by rw [i2]; omega), i2, i3, ?_⟩
      show (sm_po σ k o f t g).1 125 0 0 + 1 ≤ _
      omega
    · exact ⟨i1, i2, i3, by omega⟩
theorem gs_sf_inj {g f : Nat} (hg : g < 2 ^ 31) (hf : f < 2 ^ 31) (h : nI g = gs_sf f) : f = g + 1 := by
  cases f with
  | zero =>
    exfalso
    have h2 : nI g = -1 := h
    have h3 := nI_pos hg
    rw [h2] at h3
    exact h3 (by decide)
  | succ f =>
    have h2 : nI g = nI f := h
    rw [nI_eq hg (by omega)] at h2
    omega
set_option maxHeartbeats 4000000 in
theorem cl_X6_putOthers {S : gx_S} {h0 : gx_H} {σ : gs_T} {A : gs_A} (hm0 : σ.1 31 0 0 = 1) (V0 : gv_V σ) (k : Int32) {o f : Nat} (t : Int32) (ho : o < 40) (hf : f ≤ σ.1 100 0 0) (hF0 : σ.1 125 0 0 + 4 ≤ 400) : ∀ (m g : Nat) (h : gx_H), g + m = σ.1 100 0 0 → gs_R h (sm_po σ k o f t g) A → gs_sm h0 h → gx_Ev S gm_X6_putOthers 2 3 [some (.ref (A 6 0 0)), some (.int k), some (.int (nI o)), some (.int (gs_sf f)), some (.int t), some (.int (nI g))] [] h (fun r h' => gx_rt none r ∧ gs_R h' (sm_po σ k o f t (σ.1 100 0 0)) A ∧ gs_sm h0 h' ∧ r = none) := by
  intro m
  induction m with
  | zero =>
    intro g h hgm R0 hs
    have hgn : g = σ.1 100 0 0 := by omega
    obtain ⟨V, e1, e2, e3⟩ := sm_po_keep (k := k) (t := t) V0 ho hf g (by omega)
    have hm : (sm_po σ k o f t g).1 31 0 0 = 1 := by rw [e2]; exact hm0
    generalize hτ : sm_po σ k o f t g = τ at *
    have R := R0
    refine gx_iload dX6_putOthers_3 rfl ?_
    refine gx_aload_n dX6_putOthers_5 rfl ?_
    refine gx_get dX6_putOthers_6 gf_X6_101 (gs_g6 R hm) (v := .int (nI (τ.1 100 0 0))) rfl ?_
    refine gx_icmp_ge dX6_putOthers_9 (tgt := 45) (by decide) (fun hc1 => ?_) (fun hc1 => absurd hc1 (fun z => z (by rw [e1, hgn]; exact nI_le (Nat.le_refl _) (by have := gv_n4 V0; omega))))
    refine gx_return dX6_putOthers_45 ?_
    exact ⟨rfl, by rw [← hgn, hτ]; exact R, hs, rfl⟩
  | succ m ih =>
    intro g h hgm R0 hs
    have hgn : g < σ.1 100 0 0 := by omega
    obtain ⟨V, e1, e2, e3⟩ := sm_po_keep (k := k) (t := t) V0 ho hf g (by omega)
    have hm : (sm_po σ k o f t g).1 31 0 0 = 1 := by rw [e2]; exact hm0
    have hn4 := gv_n4 V0
    have hsucc : sm_po σ k o f t (g + 1) = sm_po1 (sm_po σ k o f t g) k o f t g := rfl
    generalize hτ : sm_po σ k o f t g = τ at *
    have R := R0
    refine gx_iload dX6_putOthers_3 rfl ?_
    refine gx_aload_n dX6_putOthers_5 rfl ?_
    refine gx_get dX6_putOthers_6 gf_X6_101 (gs_g6 R hm) (v := .int (nI (τ.1 100 0 0))) rfl ?_
    refine gx_icmp_ge dX6_putOthers_9 (tgt := 45) (by decide) (fun hc0 => absurd hc0 (by rw [e1]; exact nI_ge (by omega) (by omega))) (fun hc0 => ?_)
    refine gx_iload dX6_putOthers_12 rfl ?_
    refine gx_iload_n dX6_putOthers_14 rfl ?_
    refine gx_icmp_eq dX6_putOthers_15 (tgt := 39) (by decide) (fun hc1 => ?_) (fun hc1 => ?_)
    · refine gx_iinc dX6_putOthers_39 rfl (v := nI (g + 1)) (nI_1 _) (by decide) rfl (L' := [some (.ref (A 6 0 0)), some (.int k), some (.int (nI o)), some (.int (gs_sf f)), some (.int t), some (.int (nI (g + 1)))]) rfl ?_
      refine gx_goto dX6_putOthers_42 (tgt := 3) (by decide) ?_
      refine ih (g + 1) _ (by omega) ?_ hs
      rw [hsucc, sm_po1, if_neg (fun e => e.1 (gs_sf_inj (by omega) (by omega) hc1))]
      exact R
    · refine gx_aload_n dX6_putOthers_18 rfl ?_
      refine gx_iload dX6_putOthers_19 rfl ?_
      refine gx_iload_n dX6_putOthers_21 rfl ?_
      refine gx_invV dX6_putOthers_22 wm_X6_112 gt_X6_isOf wy_X6_isOf wl_X6_isOf (ci := 6) rfl rfl (gs_g6 R hm) (As := [.int (nI g), .int (nI o)]) (rest := []) rfl rfl (Nat.le_of_ble_eq_true rfl) (by decide) (cc_X6_isOf R hm V (g := g) (o := o) (by omega) (ho)) (fun r1 h1 q1 => ?_)
      obtain ⟨rfl, rfl⟩ := q1
      show gx_Ev _ _ _ _ _ [.int (gs_bi (gv_of τ g o))] _ _
      refine gx_if_eq dX6_putOthers_25 (tgt := 39) (by decide) (fun hc2 => ?_) (fun hc2 => ?_)
      · have hc2 := gs_b0 hc2
        refine gx_iinc dX6_putOthers_39 rfl (v := nI (g + 1)) (nI_1 _) (by decide) rfl (L' := [some (.ref (A 6 0 0)), some (.int k), some (.int (nI o)), some (.int (gs_sf f)), some (.int t), some (.int (nI (g + 1)))]) rfl ?_
        refine gx_goto dX6_putOthers_42 (tgt := 3) (by decide) ?_
        refine ih (g + 1) _ (by omega) ?_ hs
        rw [hsucc, sm_po1, if_neg (fun e => hc2 e.2)]
        exact R
      · have hc2 := gs_b1 hc2
        refine gx_aload_n dX6_putOthers_28 rfl ?_
        refine gx_iload_n dX6_putOthers_29 rfl ?_
        refine gx_iload_n dX6_putOthers_30 rfl ?_
        refine gx_iload_n dX6_putOthers_31 rfl ?_
        refine gx_iload dX6_putOthers_32 rfl ?_
        refine gx_iload dX6_putOthers_34 rfl ?_
        refine gx_invV dX6_putOthers_36 wm_X6_116 gt_X6_put wy_X6_put wl_X6_put (ci := 6) rfl rfl (gs_g6 R hm) (As := [.int k, .int (nI o), .int (gs_sf f), .int (nI g), .int t]) (rest := []) rfl rfl (Nat.le_of_ble_eq_true rfl) (by decide) (cc_X6_put R hm V k (o := o) f g t (ho) (by omega)) (fun r1 h1 q1 => ?_)
        obtain ⟨R, hs0, rfl⟩ := q1
        show gx_Ev _ _ _ _ _ [] _ _
        refine gx_iinc dX6_putOthers_39 rfl (v := nI (g + 1)) (nI_1 _) (by decide) rfl (L' := [some (.ref (A 6 0 0)), some (.int k), some (.int (nI o)), some (.int (gs_sf f)), some (.int t), some (.int (nI (g + 1)))]) rfl ?_
        refine gx_goto dX6_putOthers_42 (tgt := 3) (by decide) ?_
        refine ih (g + 1) _ (by omega) ?_ (hs.trans hs0)
        rw [hsucc, sm_po1, if_pos ⟨fun e => hc1 (by rw [e]; rfl), hc2⟩]
        exact R
set_option maxHeartbeats 4000000 in
theorem cc_X6_putOthers {S : gx_S} {h : gx_H} {σ : gs_T} {A : gs_A} (R : gs_R h σ A) (hm : σ.1 31 0 0 = 1) (V : gv_V σ) (k : Int32) {o f : Nat} (t : Int32) (ho : o < 40) (hf : f ≤ σ.1 100 0 0) (hF : σ.1 125 0 0 + 4 ≤ 400) : gx_Cn S gm_X6_putOthers 2 [.ref (A 6 0 0), .int k, .int (nI o), .int (gs_sf f), .int t] h (fun r h' => gs_R h' (sm_po σ k o f t (σ.1 100 0 0)) A ∧ gs_sm h h' ∧ r = none) := by
  refine gx_Cn.of gt_X6_putOthers (by simp [Value.category]) (Nat.le_of_ble_eq_true rfl) ?_
  show gx_Ev S gm_X6_putOthers 2 0 [some (.ref (A 6 0 0)), some (.int k), some (.int (nI o)), some (.int (gs_sf f)), some (.int t), none] [] h _
  refine gx_iconst dX6_putOthers_0 (v := 0) (by decide) ?_
  refine gx_istore dX6_putOthers_1 (by decide) rfl (L' := [some (.ref (A 6 0 0)), some (.int k), some (.int (nI o)), some (.int (gs_sf f)), some (.int t), some (.int 0)]) rfl ?_
  exact cl_X6_putOthers hm V k t ho hf hF _ 0 _ (Nat.zero_add _) R gs_sm.rfl
end
section
/-! the reference: send, comesStart -/
abbrev sv_ok (x k a b c : Int32) : Prop := (0 ≤ x ∧ x < 4) ∧ (0 ≤ k ∧ k < 4) ∧ (0 ≤ a ∧ a < 16) ∧ (0 ≤ b ∧ b < 16) ∧ 0 ≤ c ∧ c ≤ 1000000
def sm_sw (σ : gs_T) (x k a b c : Int32) : gs_T := (gs_i (gs_i (gs_n (gs_n (gs_i (gs_n (gs_n σ 104 0 0 (σ.1 104 0 0 + 1)) 105 (σ.1 104 0 0) 0 x.toNatClampNeg) 106 (σ.1 104 0 0) 0 k) 107 (σ.1 104 0 0) 0 a.toNatClampNeg) 108 (σ.1 104 0 0) 0 b.toNatClampNeg) 109 (σ.1 104 0 0) 0 c) 110 (σ.1 104 0 0) 0 (σ.2.1 113 x.toNatClampNeg 0))
def sm_send (σ : gs_T) (x k a b c : Int32) : gs_T := if sv_ok x k a b c ∧ ¬ σ.1 104 0 0 = 40 then sm_po (sm_sw σ x k a b c) 0 (σ.1 104 0 0) 0 (-1) (σ.1 100 0 0) else σ
def sm_sendr (σ : gs_T) (x k a b c : Int32) : Int32 := if sv_ok x k a b c ∧ ¬ σ.1 104 0 0 = 40 then nI (σ.1 104 0 0) else -1
set_option maxHeartbeats 4000000 in
theorem cc_X6_send {S : gx_S} {h : gx_H} {σ : gs_T} {A : gs_A} (R : gs_R h σ A) (hm : σ.1 31 0 0 = 1) (V : gv_V σ) (x k a b c : Int32) (hF : σ.1 125 0 0 + 4 ≤ 400) : gx_Cn S gm_X6_send 3 [.ref (A 6 0 0), .int x, .int k, .int a, .int b, .int c] h (fun r h' => gs_R h' (sm_send σ x k a b c) A ∧ gs_sm h h' ∧ r = some (.int (sm_sendr σ x k a b c))) := by
  refine gx_Cn.of gt_X6_send (by simp [Value.category]) (Nat.le_of_ble_eq_true rfl) ?_
  show gx_Ev S gm_X6_send 3 0 [some (.ref (A 6 0 0)), some (.int x), some (.int k), some (.int a), some (.int b), some (.int c), none] [] h _
  refine gx_iload_n dX6_send_0 rfl ?_
  refine gx_iconst dX6_send_1 (v := 4) (by decide) ?_
  refine gx_invS dX6_send_2 wm_X6_120 gt_X6_isIn ws_X6_isIn (As := [.int x, .int 4]) (rest := []) rfl rfl (Nat.le_of_ble_eq_true rfl) (by decide) (cc_X6_isIn x 4) (fun r1 h1 q1 => ?_)
  obtain ⟨rfl, rfl⟩ := q1
  show gx_Ev _ _ _ _ _ [.int (gs_bi (0 ≤ x ∧ x < 4))] _ _
  refine gx_if_eq dX6_send_5 (tgt := 56) (by decide) (fun hc1 => ?_) (fun hc1 => ?_)
  · have hc1 := gs_b0 hc1
    refine gx_iconst dX6_send_56 (v := (-1)) (by decide) ?_
    refine gx_ireturn dX6_send_57 ?_
    have hno : ¬ (sv_ok x k a b c ∧ ¬ σ.1 104 0 0 = 40) := fun z => hc1 z.1.1
    exact ⟨⟨_, rfl, rfl⟩, by rw [sm_send, if_neg hno]; exact R, gs_sm.rfl, by rw [sm_sendr, if_neg hno]⟩
  · have hc1 := gs_b1 hc1
    refine gx_iload_n dX6_send_8 rfl ?_
    refine gx_iconst dX6_send_9 (v := 4) (by decide) ?_
    refine gx_invS dX6_send_10 wm_X6_120 gt_X6_isIn ws_X6_isIn (As := [.int k, .int 4]) (rest := []) rfl rfl (Nat.le_of_ble_eq_true rfl) (by decide) (cc_X6_isIn k 4) (fun r1 h1 q1 => ?_)
    obtain ⟨rfl, rfl⟩ := q1
    show gx_Ev _ _ _ _ _ [.int (gs_bi (0 ≤ k ∧ k < 4))] _ _
    refine gx_if_eq dX6_send_13 (tgt := 56) (by decide) (fun hc2 => ?_) (fun hc2 => ?_)
    · have hc2 := gs_b0 hc2
      refine gx_iconst dX6_send_56 (v := (-1)) (by decide) ?_
      refine gx_ireturn dX6_send_57 ?_
      have hno : ¬ (sv_ok x k a b c ∧ ¬ σ.1 104 0 0 = 40) := fun z => hc2 z.1.2.1
      exact ⟨⟨_, rfl, rfl⟩, by rw [sm_send, if_neg hno]; exact R, gs_sm.rfl, by rw [sm_sendr, if_neg hno]⟩
    · have hc2 := gs_b1 hc2
      refine gx_iload_n dX6_send_16 rfl ?_
      refine gx_bipush dX6_send_17 (v := 16) (by decide) ?_
      refine gx_invS dX6_send_19 wm_X6_120 gt_X6_isIn ws_X6_isIn (As := [.int a, .int 16]) (rest := []) rfl rfl (Nat.le_of_ble_eq_true rfl) (by decide) (cc_X6_isIn a 16) (fun r1 h1 q1 => ?_)
      obtain ⟨rfl, rfl⟩ := q1
      show gx_Ev _ _ _ _ _ [.int (gs_bi (0 ≤ a ∧ a < 16))] _ _
      refine gx_if_eq dX6_send_22 (tgt := 56) (by decide) (fun hc3 => ?_) (fun hc3 => ?_)
      · have hc3 := gs_b0 hc3
        refine gx_iconst dX6_send_56 (v := (-1)) (by decide) ?_
        refine gx_ireturn dX6_send_57 ?_
        have hno : ¬ (sv_ok x k a b c ∧ ¬ σ.1 104 0 0 = 40) := fun z => hc3 z.1.2.2.1
        exact ⟨⟨_, rfl, rfl⟩, by rw [sm_send, if_neg hno]; exact R, gs_sm.rfl, by rw [sm_sendr, if_neg hno]⟩
      · have hc3 := gs_b1 hc3
        refine gx_iload dX6_send_25 rfl ?_
        refine gx_bipush dX6_send_27 (v := 16) (by decide) ?_
        refine gx_invS dX6_send_29 wm_X6_120 gt_X6_isIn ws_X6_isIn (As := [.int b, .int 16]) (rest := []) rfl rfl (Nat.le_of_ble_eq_true rfl) (by decide) (cc_X6_isIn b 16) (fun r1 h1 q1 => ?_)
        obtain ⟨rfl, rfl⟩ := q1
        show gx_Ev _ _ _ _ _ [.int (gs_bi (0 ≤ b ∧ b < 16))] _ _
        refine gx_if_eq dX6_send_32 (tgt := 56) (by decide) (fun hc4 => ?_) (fun hc4 => ?_)
        · have hc4 := gs_b0 hc4
          refine gx_iconst dX6_send_56 (v := (-1)) (by decide) ?_
          refine gx_ireturn dX6_send_57 ?_
          have hno : ¬ (sv_ok x k a b c ∧ ¬ σ.1 104 0 0 = 40) := fun z => hc4 z.1.2.2.2.1
          exact ⟨⟨_, rfl, rfl⟩, by rw [sm_send, if_neg hno]; exact R, gs_sm.rfl, by rw [sm_sendr, if_neg hno]⟩
        · have hc4 := gs_b1 hc4
          refine gx_iload dX6_send_35 rfl ?_
          refine gx_if_lt dX6_send_37 (tgt := 56) (by decide) (fun hc5 => ?_) (fun hc5 => ?_)
          · refine gx_iconst dX6_send_56 (v := (-1)) (by decide) ?_
            refine gx_ireturn dX6_send_57 ?_
            have hno : ¬ (sv_ok x k a b c ∧ ¬ σ.1 104 0 0 = 40) := fun z => Int32.not_lt.mpr z.1.2.2.2.2.1 hc5
            exact ⟨⟨_, rfl, rfl⟩, by rw [sm_send, if_neg hno]; exact R, gs_sm.rfl, by rw [sm_sendr, if_neg hno]⟩
          · refine gx_iload dX6_send_40 rfl ?_
            refine gx_ldc dX6_send_42 wt_X6_123 ?_
            refine gx_icmp_gt dX6_send_44 (tgt := 56) (by decide) (fun hc6 => ?_) (fun hc6 => ?_)
            · refine gx_iconst dX6_send_56 (v := (-1)) (by decide) ?_
              refine gx_ireturn dX6_send_57 ?_
              have hno : ¬ (sv_ok x k a b c ∧ ¬ σ.1 104 0 0 = 40) := fun z => Int32.not_lt.mpr z.1.2.2.2.2.2 hc6
              exact ⟨⟨_, rfl, rfl⟩, by rw [sm_send, if_neg hno]; exact R, gs_sm.rfl, by rw [sm_sendr, if_neg hno]⟩
            · refine gx_aload_n dX6_send_47 rfl ?_
              refine gx_get dX6_send_48 gf_X6_124 (gs_g6 R hm) (v := .int (nI (σ.1 104 0 0))) (rfl) ?_
              refine gx_bipush dX6_send_51 (v := 40) (by decide) ?_
              refine gx_icmp_ne dX6_send_53 (tgt := 58) (by decide) (fun hc7 => ?_) (fun hc7 => ?_)
              · have hlt : σ.1 104 0 0 < 40 := Nat.lt_of_le_of_ne (gv_cnt V) (fun z => hc7 (by rw [z]; rfl))
                refine gx_aload_n dX6_send_58 rfl ?_
                refine gx_get dX6_send_59 gf_X6_124 (gs_g6 R hm) (v := .int (nI (σ.1 104 0 0))) (rfl) ?_
                refine gx_istore dX6_send_62 (by decide) rfl (L' := [some (.ref (A 6 0 0)), some (.int x), some (.int k), some (.int a), some (.int b), some (.int c), some (.int (nI (σ.1 104 0 0)))]) rfl ?_
                refine gx_aload_n dX6_send_64 rfl ?_
                refine gx_dup dX6_send_65 rfl ?_
                refine gx_get dX6_send_66 gf_X6_124 (gs_g6 R hm) (v := .int (nI (σ.1 104 0 0))) (rfl) ?_
                refine gx_iconst dX6_send_69 (v := 1) (by decide) ?_
                refine gx_iadd dX6_send_70 ?_
                rw [show ((nI (σ.1 104 0 0)) + 1 : Int32) = nI (σ.1 104 0 0 + 1) from nI_1 _]
                refine gp_N104 (σ := σ) hm dX6_send_71 gf_X6_124 R (rfl) (v := σ.1 104 0 0 + 1) (fun h R hs0 => ?_)
                refine gx_aload_n dX6_send_74 rfl ?_
                refine gx_get dX6_send_75 gf_X6_20 (gs_g6 R hm) (v := .ref (A 25 0 0)) (rfl) ?_
                refine gx_iload dX6_send_78 rfl ?_
                refine gx_iload_n dX6_send_80 rfl ?_
                refine ga_N105 (σ := (gs_n σ 104 0 0 (σ.1 104 0 0 + 1))) hm dX6_send_81 R ((gs_ixl (N := 4) rfl hc1 (by decide)).1) (q := σ.1 104 0 0) (v := x.toNatClampNeg) (rfl) (hlt) (fun h R hs1 => ?_)
                refine gx_aload_n dX6_send_82 rfl ?_
                refine gx_get dX6_send_83 gf_X6_23 (gs_g6 R hm) (v := .ref (A 26 0 0)) (rfl) ?_
                refine gx_iload dX6_send_86 rfl ?_
                refine gx_iload_n dX6_send_88 rfl ?_
                refine ga_I106 (σ := (gs_n (gs_n σ 104 0 0 (σ.1 104 0 0 + 1)) 105 (σ.1 104 0 0) 0 x.toNatClampNeg)) hm dX6_send_89 R (q := σ.1 104 0 0) (v := k) (rfl) (hlt) (fun h R hs2 => ?_)
                refine gx_aload_n dX6_send_90 rfl ?_
                refine gx_get dX6_send_91 gf_X6_26 (gs_g6 R hm) (v := .ref (A 27 0 0)) (rfl) ?_
                refine gx_iload dX6_send_94 rfl ?_
                refine gx_iload_n dX6_send_96 rfl ?_
                refine ga_N107 (σ := (gs_i (gs_n (gs_n σ 104 0 0 (σ.1 104 0 0 + 1)) 105 (σ.1 104 0 0) 0 x.toNatClampNeg) 106 (σ.1 104 0 0) 0 k)) hm dX6_send_97 R ((gs_ixl (N := 16) rfl hc3 (by decide)).1) (q := σ.1 104 0 0) (v := a.toNatClampNeg) (rfl) (hlt) (fun h R hs3 => ?_)
                refine gx_aload_n dX6_send_98 rfl ?_
                refine gx_get dX6_send_99 gf_X6_29 (gs_g6 R hm) (v := .ref (A 28 0 0)) (rfl) ?_
                refine gx_iload dX6_send_102 rfl ?_
                refine gx_iload dX6_send_104 rfl ?_
                refine ga_N108 (σ := (gs_n (gs_i (gs_n (gs_n σ 104 0 0 (σ.1 104 0 0 + 1)) 105 (σ.1 104 0 0) 0 x.toNatClampNeg) 106 (σ.1 104 0 0) 0 k) 107 (σ.1 104 0 0) 0 a.toNatClampNeg)) hm dX6_send_106 R ((gs_ixl (N := 16) rfl hc4 (by decide)).1) (q := σ.1 104 0 0) (v := b.toNatClampNeg) (rfl) (hlt) (fun h R hs4 => ?_)
                refine gx_aload_n dX6_send_107 rfl ?_
                refine gx_get dX6_send_108 gf_X6_32 (gs_g6 R hm) (v := .ref (A 29 0 0)) (rfl) ?_
                refine gx_iload dX6_send_111 rfl ?_
                refine gx_iload dX6_send_113 rfl ?_
                refine ga_I109 (σ := (gs_n (gs_n (gs_i (gs_n (gs_n σ 104 0 0 (σ.1 104 0 0 + 1)) 105 (σ.1 104 0 0) 0 x.toNatClampNeg) 106 (σ.1 104 0 0) 0 k) 107 (σ.1 104 0 0) 0 a.toNatClampNeg) 108 (σ.1 104 0 0) 0 b.toNatClampNeg)) hm dX6_send_115 R (q := σ.1 104 0 0) (v := c) (rfl) (hlt) (fun h R hs5 => ?_)
                refine gx_aload_n dX6_send_116 rfl ?_
                refine gx_get dX6_send_117 gf_X6_35 (gs_g6 R hm) (v := .ref (A 30 0 0)) (rfl) ?_
                refine gx_iload dX6_send_120 rfl ?_
                refine gx_aload_n dX6_send_122 rfl ?_
                refine gx_get dX6_send_123 gf_X6_44 (gs_g6 R hm) (v := .ref (A 33 0 0)) (rfl) ?_
                refine gx_iload_n dX6_send_126 rfl ?_
                refine gq_33 dX6_send_127 R hm (q := x.toNatClampNeg) ((gs_ixl (N := 4) rfl hc1 (by decide)).1) ((gs_ixl (N := 4) rfl hc1 (by decide)).2) (v := σ.2.1 113 x.toNatClampNeg 0) (rfl) ?_
                refine ga_I110 (σ := (gs_i (gs_n (gs_n (gs_i (gs_n (gs_n σ 104 0 0 (σ.1 104 0 0 + 1)) 105 (σ.1 104 0 0) 0 x.toNatClampNeg) 106 (σ.1 104 0 0) 0 k) 107 (σ.1 104 0 0) 0 a.toNatClampNeg) 108 (σ.1 104 0 0) 0 b.toNatClampNeg) 109 (σ.1 104 0 0) 0 c)) hm dX6_send_128 R (q := σ.1 104 0 0) (v := σ.2.1 113 x.toNatClampNeg 0) (rfl) (hlt) (fun h R hs6 => ?_)
                refine gx_aload_n dX6_send_129 rfl ?_
                refine gx_iconst dX6_send_130 (v := 0) (by decide) ?_
                refine gx_iload dX6_send_131 rfl ?_
                refine gx_iconst dX6_send_133 (v := (-1)) (by decide) ?_
                refine gx_iconst dX6_send_134 (v := (-1)) (by decide) ?_
                refine gx_invV dX6_send_135 wm_X6_127 gt_X6_putOthers wy_X6_putOthers wl_X6_putOthers (ci := 6) rfl rfl (gs_g6 R hm) (As := [.int 0, .int (nI (σ.1 104 0 0)), .int (-1), .int (-1)]) (rest := []) rfl rfl (Nat.le_of_ble_eq_true rfl) (by decide) (cc_X6_putOthers R hm (gv_i (gv_i (gv_n (gv_n (gv_i (gv_n (gv_n V (by decide) (show _ ≤ 40 from hlt)) (by decide) (gs_ixl (N := 4) rfl hc1 (by decide)).2)) (by decide) (gs_ixl (N := 16) rfl hc3 (by decide)).2) (by decide) (gs_ixl (N := 16) rfl hc4 (by decide)).2))) 0 (o := σ.1 104 0 0) (f := 0) (-1) (hlt) (Nat.zero_le _) (hF)) (fun r1 h1 q1 => ?_)
                obtain ⟨R, hs7, rfl⟩ := q1
                show gx_Ev _ _ _ _ _ [] _ _
                refine gx_iload dX6_send_138 rfl ?_
                refine gx_ireturn dX6_send_140 ?_
                have hyes : sv_ok x k a b c ∧ ¬ σ.1 104 0 0 = 40 := ⟨⟨hc1, hc2, hc3, hc4, gs_nlt hc5, Int32.not_lt.mp hc6⟩, fun z => hc7 (by rw [z]; rfl)⟩
                exact ⟨⟨_, rfl, rfl⟩, by rw [sm_send, if_pos hyes]; exact R, ((((((((gs_sm.rfl.trans hs0).trans hs1).trans hs2).trans hs3).trans hs4).trans hs5).trans hs6).trans hs7), by rw [sm_sendr, if_pos hyes]⟩
              · refine gx_iconst dX6_send_56 (v := (-1)) (by decide) ?_
                refine gx_ireturn dX6_send_57 ?_
                have hno : ¬ (sv_ok x k a b c ∧ ¬ σ.1 104 0 0 = 40) := fun z => z.2 ((nI_eq (by have := gv_cnt V; omega) (by decide)).mp hc7)
                exact ⟨⟨_, rfl, rfl⟩, by rw [sm_send, if_neg hno]; exact R, gs_sm.rfl, by rw [sm_sendr, if_neg hno]⟩
def sm_cv (σ : gs_T) (g o : Nat) : Int32 := (if σ.2.1 101 g 0 ≤ σ.2.1 110 o 0 then σ.2.1 110 o 0 else σ.2.1 101 g 0) + 1
def sm_cs (σ : gs_T) (g o : Nat) : gs_T := if σ.2.1 114 (40 * g + o) 0 = 0 then sm_po (gs_i (gs_i (gs_i σ 114 (40 * g + o) 0 1) 101 g 0 (sm_cv σ g o)) 119 (4 * (40 * g + o) + g) 0 (sm_cv σ g o)) 1 o (g + 1) (sm_cv σ g o) (σ.1 100 0 0) else σ
set_option maxHeartbeats 4000000 in
theorem cc_X6_comesStart {S : gx_S} {h : gx_H} {σ : gs_T} {A : gs_A} (R : gs_R h σ A) (hm : σ.1 31 0 0 = 1) (V : gv_V σ) {g o : Nat} (hg : g < σ.1 100 0 0) (hg4 : g < 4) (ho : o < 40) (hF : σ.1 125 0 0 + 4 ≤ 400) : gx_Cn S gm_X6_comesStart 3 [.ref (A 6 0 0), .int (nI g), .int (nI o)] h (fun r h' => gs_R h' (sm_cs σ g o) A ∧ gs_sm h h' ∧ r = none) := by
  refine gx_Cn.of gt_X6_comesStart (by simp [Value.category]) (Nat.le_of_ble_eq_true rfl) ?_
  show gx_Ev S gm_X6_comesStart 3 0 [some (.ref (A 6 0 0)), some (.int (nI g)), some (.int (nI o))] [] h _
  refine gx_aload_n dX6_comesStart_0 rfl ?_
  refine gx_get dX6_comesStart_1 gf_X6_47 (gs_g6 R hm) (v := .ref (A 34 0 0)) (rfl) ?_
  refine gx_iload_n dX6_comesStart_4 rfl ?_
  refine gx_iload_n dX6_comesStart_5 rfl ?_
  refine gx_invS dX6_comesStart_6 wm_X6_105 gt_X6_at ws_X6_at (As := [.int (nI g), .int (nI o)]) (rest := [.ref (A 34 0 0)]) rfl rfl (Nat.le_of_ble_eq_true rfl) (by decide) (cc_X6_atE (g := g) (o := o) (rfl) (rfl)) (fun r1 h1 q1 => ?_)
  obtain ⟨rfl, rfl⟩ := q1
  show gx_Ev _ _ _ _ _ [.int (nI (40 * g + o)), .ref (A 34 0 0)] _ _
  refine gq_34 dX6_comesStart_9 R hm (q := 40 * g + o) (rfl) (by omega) (v := σ.2.1 114 (40 * g + o) 0) (rfl) ?_
  refine gx_if_eq dX6_comesStart_10 (tgt := 14) (by decide) (fun hc1 => ?_) (fun hc1 => ?_)
  · refine gx_aload_n dX6_comesStart_14 rfl ?_
    refine gx_get dX6_comesStart_15 gf_X6_47 (gs_g6 R hm) (v := .ref (A 34 0 0)) (rfl) ?_
    refine gx_iload_n dX6_comesStart_18 rfl ?_
    refine gx_iload_n dX6_comesStart_19 rfl ?_
    refine gx_invS dX6_comesStart_20 wm_X6_105 gt_X6_at ws_X6_at (As := [.int (nI g), .int (nI o)]) (rest := [.ref (A 34 0 0)]) rfl rfl (Nat.le_of_ble_eq_true rfl) (by decide) (cc_X6_atE (g := g) (o := o) (rfl) (rfl)) (fun r1 h1 q1 => ?_)
    obtain ⟨rfl, rfl⟩ := q1
    show gx_Ev _ _ _ _ _ [.int (nI (40 * g + o)), .ref (A 34 0 0)] _ _
    refine gx_iconst dX6_comesStart_23 (v := 1) (by decide) ?_
    refine ga_I114 (σ := σ) hm dX6_comesStart_24 R (by first | exact Or.inl rfl | exact Or.inr rfl) (q := 40 * g + o) (v := 1) (rfl) (by omega) (fun h R hs0 => ?_)
    refine gx_aload_n dX6_comesStart_25 rfl ?_
    refine gx_get dX6_comesStart_26 gf_X6_7 (gs_g6 R hm) (v := .ref (A 21 0 0)) (rfl) ?_
    refine gx_iload_n dX6_comesStart_29 rfl ?_
    refine gx_aload_n dX6_comesStart_30 rfl ?_
    refine gx_get dX6_comesStart_31 gf_X6_7 (gs_g6 R hm) (v := .ref (A 21 0 0)) (rfl) ?_
    refine gx_iload_n dX6_comesStart_34 rfl ?_
    refine gq_21 dX6_comesStart_35 R hm (q := g) (rfl) (by omega) (v := σ.2.1 101 g 0) (rfl) ?_
    refine gx_aload_n dX6_comesStart_36 rfl ?_
    refine gx_get dX6_comesStart_37 gf_X6_35 (gs_g6 R hm) (v := .ref (A 30 0 0)) (rfl) ?_
    refine gx_iload_n dX6_comesStart_40 rfl ?_
    refine gq_30 dX6_comesStart_41 R hm (q := o) (rfl) (by omega) (v := σ.2.1 110 o 0) (rfl) ?_
    refine gx_icmp_le dX6_comesStart_42 (tgt := 54) (by decide) (fun hc2 => ?_) (fun hc2 => ?_)
    · refine gx_aload_n dX6_comesStart_54 rfl ?_
      refine gx_get dX6_comesStart_55 gf_X6_35 (gs_g6 R hm) (v := .ref (A 30 0 0)) (rfl) ?_
      refine gx_iload_n dX6_comesStart_58 rfl ?_
      refine gq_30 dX6_comesStart_59 R hm (q := o) (rfl) (by omega) (v := σ.2.1 110 o 0) (rfl) ?_
      refine gx_iconst dX6_comesStart_60 (v := 1) (by decide) ?_
      refine gx_iadd dX6_comesStart_61 ?_
      refine ga_I101 (σ := (gs_i σ 114 (40 * g + o) 0 1)) hm dX6_comesStart_62 R (q := g) (v := (σ.2.1 110 o 0) + 1) (rfl) (by omega) (fun h R hs1 => ?_)
      refine gx_aload_n dX6_comesStart_63 rfl ?_
      refine gx_get dX6_comesStart_64 gf_X6_62 (gs_g6 R hm) (v := .ref (A 39 0 0)) (rfl) ?_
      refine gx_iload_n dX6_comesStart_67 rfl ?_
      refine gx_iload_n dX6_comesStart_68 rfl ?_
      refine gx_iload_n dX6_comesStart_69 rfl ?_
      refine gx_invS dX6_comesStart_70 wm_X6_131 gt_X6_of ws_X6_of (As := [.int (nI g), .int (nI o), .int (nI g)]) (rest := [.ref (A 39 0 0)]) rfl rfl (Nat.le_of_ble_eq_true rfl) (by decide) (cc_X6_ofE (g := g) (o := o) (q := g) (rfl) (rfl) (rfl)) (fun r1 h1 q1 => ?_)
      obtain ⟨rfl, rfl⟩ := q1
      show gx_Ev _ _ _ _ _ [.int (nI (4 * (40 * g + o) + g)), .ref (A 39 0 0)] _ _
      refine gx_aload_n dX6_comesStart_73 rfl ?_
      refine gx_get dX6_comesStart_74 gf_X6_7 (gs_g6 R hm) (v := .ref (A 21 0 0)) (rfl) ?_
      refine gx_iload_n dX6_comesStart_77 rfl ?_
      refine gq_21 dX6_comesStart_78 R hm (q := g) (rfl) (by omega) (v := (σ.2.1 110 o 0) + 1) (by simp [gs_i, gs_n, gs_u]) ?_
      refine ga_I119 (σ := (gs_i (gs_i σ 114 (40 * g + o) 0 1) 101 g 0 ((σ.2.1 110 o 0) + 1))) hm dX6_comesStart_79 R (q := 4 * (40 * g + o) + g) (v := (σ.2.1 110 o 0) + 1) (rfl) (by omega) (fun h R hs2 => ?_)
      refine gx_aload_n dX6_comesStart_80 rfl ?_
      refine gx_iconst dX6_comesStart_81 (v := 1) (by decide) ?_
      refine gx_iload_n dX6_comesStart_82 rfl ?_
      refine gx_iload_n dX6_comesStart_83 rfl ?_
      refine gx_aload_n dX6_comesStart_84 rfl ?_
      refine gx_get dX6_comesStart_85 gf_X6_7 (gs_g6 R hm) (v := .ref (A 21 0 0)) (rfl) ?_
      refine gx_iload_n dX6_comesStart_88 rfl ?_
      refine gq_21 dX6_comesStart_89 R hm (q := g) (rfl) (by omega) (v := (σ.2.1 110 o 0) + 1) (by simp [gs_i, gs_n, gs_u]) ?_
      refine gx_invV dX6_comesStart_90 wm_X6_127 gt_X6_putOthers wy_X6_putOthers wl_X6_putOthers (ci := 6) rfl rfl (gs_g6 R hm) (As := [.int 1, .int (nI o), .int (nI g), .int ((σ.2.1 110 o 0) + 1)]) (rest := []) rfl rfl (Nat.le_of_ble_eq_true rfl) (by decide) (cc_X6_putOthers R hm V 1 (o := o) (f := g + 1) ((σ.2.1 110 o 0) + 1) (ho) (hg) (hF)) (fun r1 h1 q1 => ?_)
      obtain ⟨R, hs3, rfl⟩ := q1
      show gx_Ev _ _ _ _ _ [] _ _
      refine gx_return dX6_comesStart_93 ?_
      have hcv : sm_cv σ g o = (σ.2.1 110 o 0) + 1 := by rw [sm_cv, if_pos hc2]
      exact ⟨rfl, by rw [sm_cs, if_pos hc1, hcv]; exact R, ((((gs_sm.rfl.trans hs0).trans hs1).trans hs2).trans hs3), rfl⟩
    · refine gx_aload_n dX6_comesStart_45 rfl ?_
      refine gx_get dX6_comesStart_46 gf_X6_7 (gs_g6 R hm) (v := .ref (A 21 0 0)) (rfl) ?_
      refine gx_iload_n dX6_comesStart_49 rfl ?_
      refine gq_21 dX6_comesStart_50 R hm (q := g) (rfl) (by omega) (v := σ.2.1 101 g 0) (rfl) ?_
      refine gx_goto dX6_comesStart_51 (tgt := 60) (by decide) ?_
      refine gx_iconst dX6_comesStart_60 (v := 1) (by decide) ?_
      refine gx_iadd dX6_comesStart_61 ?_
      refine ga_I101 (σ := (gs_i σ 114 (40 * g + o) 0 1)) hm dX6_comesStart_62 R (q := g) (v := (σ.2.1 101 g 0) + 1) (rfl) (by omega) (fun h R hs1 => ?_)
      refine gx_aload_n dX6_comesStart_63 rfl ?_
      refine gx_get dX6_comesStart_64 gf_X6_62 (gs_g6 R hm) (v := .ref (A 39 0 0)) (rfl) ?_
      refine gx_iload_n dX6_comesStart_67 rfl ?_
      refine gx_iload_n dX6_comesStart_68 rfl ?_
      refine gx_iload_n dX6_comesStart_69 rfl ?_
      refine gx_invS dX6_comesStart_70 wm_X6_131 gt_X6_of ws_X6_of (As := [.int (nI g), .int (nI o), .int (nI g)]) (rest := [.ref (A 39 0 0)]) rfl rfl (Nat.le_of_ble_eq_true rfl) (by decide) (cc_X6_ofE (g := g) (o := o) (q := g) (rfl) (rfl) (rfl)) (fun r1 h1 q1 => ?_)
      obtain ⟨rfl, rfl⟩ := q1
      show gx_Ev _ _ _ _ _ [.int (nI (4 * (40 * g + o) + g)), .ref (A 39 0 0)] _ _
      refine gx_aload_n dX6_comesStart_73 rfl ?_
      refine gx_get dX6_comesStart_74 gf_X6_7 (gs_g6 R hm) (v := .ref (A 21 0 0)) (rfl) ?_
      refine gx_iload_n dX6_comesStart_77 rfl ?_
      refine gq_21 dX6_comesStart_78 R hm (q := g) (rfl) (by omega) (v := (σ.2.1 101 g 0) + 1) (by simp [gs_i, gs_n, gs_u]) ?_
      refine ga_I119 (σ := (gs_i (gs_i σ 114 (40 * g + o) 0 1) 101 g 0 ((σ.2.1 101 g 0) + 1))) hm dX6_comesStart_79 R (q := 4 * (40 * g + o) + g) (v := (σ.2.1 101 g 0) + 1) (rfl) (by omega) (fun h R hs2 => ?_)
      refine gx_aload_n dX6_comesStart_80 rfl ?_
      refine gx_iconst dX6_comesStart_81 (v := 1) (by decide) ?_
      refine gx_iload_n dX6_comesStart_82 rfl ?_
      refine gx_iload_n dX6_comesStart_83 rfl ?_
      refine gx_aload_n dX6_comesStart_84 rfl ?_
      refine gx_get dX6_comesStart_85 gf_X6_7 (gs_g6 R hm) (v := .ref (A 21 0 0)) (rfl) ?_
      refine gx_iload_n dX6_comesStart_88 rfl ?_
      refine gq_21 dX6_comesStart_89 R hm (q := g) (rfl) (by omega) (v := (σ.2.1 101 g 0) + 1) (by simp [gs_i, gs_n, gs_u]) ?_
      refine gx_invV dX6_comesStart_90 wm_X6_127 gt_X6_putOthers wy_X6_putOthers wl_X6_putOthers (ci := 6) rfl rfl (gs_g6 R hm) (As := [.int 1, .int (nI o), .int (nI g), .int ((σ.2.1 101 g 0) + 1)]) (rest := []) rfl rfl (Nat.le_of_ble_eq_true rfl) (by decide) (cc_X6_putOthers R hm V 1 (o := o) (f := g + 1) ((σ.2.1 101 g 0) + 1) (ho) (hg) (hF)) (fun r1 h1 q1 => ?_)
      obtain ⟨R, hs3, rfl⟩ := q1
      show gx_Ev _ _ _ _ _ [] _ _
      refine gx_return dX6_comesStart_93 ?_
      have hcv : sm_cv σ g o = (σ.2.1 101 g 0) + 1 := by rw [sm_cv, if_neg hc2]
      exact ⟨rfl, by rw [sm_cs, if_pos hc1, hcv]; exact R, ((((gs_sm.rfl.trans hs0).trans hs1).trans hs2).trans hs3), rfl⟩
  · refine gx_return dX6_comesStart_13 ?_
    exact ⟨rfl, by rw [sm_cs, if_neg hc1]; exact R, gs_sm.rfl, rfl⟩
end
section
/-! the reference: makesFinal -/
def sm_ga (σ : gs_T) (g o q : Nat) : Int32 × Int32 := match q with
  | 0 => (0, 1)
  | q + 1 => if gv_of σ q o then (if σ.2.1 119 (4 * (40 * g + o) + q) 0 ≤ (sm_ga σ g o q).1 then (sm_ga σ g o q).1 else σ.2.1 119 (4 * (40 * g + o) + q) 0, if (sm_ga σ g o q).2 = 0 then 0 else if σ.2.1 119 (4 * (40 * g + o) + q) 0 ≤ 0 then 0 else 1) else sm_ga σ g o q
set_option maxHeartbeats 4000000 in
theorem cl_mf_in {S : gx_S} {h : gx_H} {σ : gs_T} {A : gs_A} (R : gs_R h σ A) (hm : σ.1 31 0 0 = 1) (V : gv_V σ) {g o : Nat} (hg4 : g < 4) (ho : o < 40) {Q : Option Value → gx_H → Prop} (K : ∀ w, gx_Ev S gm_X6_makesFinal 3 113 [some (.ref (A 6 0 0)), some (.int (nI g)), some (.int (nI o)), some (.int ((sm_ga σ g o (σ.1 100 0 0)).1)), some (.int ((sm_ga σ g o (σ.1 100 0 0)).2)), some (.int (nI (σ.1 100 0 0))), w] [] h Q) : ∀ (m q : Nat) (w6 : Option Value), q + m = σ.1 100 0 0 → gx_Ev S gm_X6_makesFinal 3 44 [some (.ref (A 6 0 0)), some (.int (nI g)), some (.int (nI o)), some (.int ((sm_ga σ g o q).1)), some (.int ((sm_ga σ g o q).2)), some (.int (nI q)), w6] [] h Q := by
  intro m
  induction m with
  | zero =>
    intro q w6 hq
    have hqn : q = σ.1 100 0 0 := by omega
    refine gx_iload dX6_makesFinal_44 rfl ?_
    refine gx_aload_n dX6_makesFinal_46 rfl ?_
    refine gx_get dX6_makesFinal_47 gf_X6_101 (gs_g6 R hm) (v := .int (nI (σ.1 100 0 0))) (rfl) ?_
    refine gx_icmp_ge dX6_makesFinal_50 (tgt := 113) (by decide) (fun hc1 => ?_) (fun hc1 => absurd hc1 (fun z => z (by rw [hqn]; exact nI_le (Nat.le_refl _) (by have := gv_n4 V; omega))))
    have k := K w6
    rw [← hqn] at k
    exact k
  | succ m ih =>
    intro q w6 hq
    have hqn : q < σ.1 100 0 0 := by omega
    have hn4 := gv_n4 V
    refine gx_iload dX6_makesFinal_44 rfl ?_
    refine gx_aload_n dX6_makesFinal_46 rfl ?_
    refine gx_get dX6_makesFinal_47 gf_X6_101 (gs_g6 R hm) (v := .int (nI (σ.1 100 0 0))) (rfl) ?_
    refine gx_icmp_ge dX6_makesFinal_50 (tgt := 113) (by decide) (fun hc0 => absurd hc0 (nI_ge (by omega) (by omega))) (fun hc0 => ?_)
    refine gx_aload_n dX6_makesFinal_53 rfl ?_
    refine gx_iload dX6_makesFinal_54 rfl ?_
    refine gx_iload_n dX6_makesFinal_56 rfl ?_
    refine gx_invV dX6_makesFinal_57 wm_X6_112 gt_X6_isOf wy_X6_isOf wl_X6_isOf (ci := 6) rfl rfl (gs_g6 R hm) (As := [.int (nI q), .int (nI o)]) (rest := []) rfl rfl (Nat.le_of_ble_eq_true rfl) (by decide) (cc_X6_isOf R hm V (g := q) (o := o) (by omega) (ho)) (fun r1 h1 q1 => ?_)
    obtain ⟨rfl, rfl⟩ := q1
    show gx_Ev _ _ _ _ _ [.int (gs_bi (gv_of σ q o))] _ _
    refine gx_if_eq dX6_makesFinal_60 (tgt := 107) (by decide) (fun hc1 => ?_) (fun hc1 => ?_)
    · have hc1 := gs_b0 hc1
      refine gx_iinc dX6_makesFinal_107 rfl (v := nI (q + 1)) (nI_1 _) (by decide) rfl (L' := [some (.ref (A 6 0 0)), some (.int (nI g)), some (.int (nI o)), some (.int ((sm_ga σ g o q).1)), some (.int ((sm_ga σ g o q).2)), some (.int (nI (q + 1))), w6]) rfl ?_
      refine gx_goto dX6_makesFinal_110 (tgt := 44) (by decide) ?_
      have e9 : sm_ga σ g o (q + 1) = sm_ga σ g o q := by rw [sm_ga, if_neg hc1]
      have k := ih (q + 1) (w6) (by omega)
      rw [e9] at k
      exact k
    · have hc1 := gs_b1 hc1
      refine gx_aload_n dX6_makesFinal_63 rfl ?_
      refine gx_get dX6_makesFinal_64 gf_X6_62 (gs_g6 R hm) (v := .ref (A 39 0 0)) (rfl) ?_
      refine gx_iload_n dX6_makesFinal_67 rfl ?_
      refine gx_iload_n dX6_makesFinal_68 rfl ?_
      refine gx_iload dX6_makesFinal_69 rfl ?_
      refine gx_invS dX6_makesFinal_71 wm_X6_131 gt_X6_of ws_X6_of (As := [.int (nI g), .int (nI o), .int (nI q)]) (rest := [.ref (A 39 0 0)]) rfl rfl (Nat.le_of_ble_eq_true rfl) (by decide) (cc_X6_ofE (g := g) (o := o) (q := q) (rfl) (rfl) (rfl)) (fun r1 h1 q1 => ?_)
      obtain ⟨rfl, rfl⟩ := q1
      show gx_Ev _ _ _ _ _ [.int (nI (4 * (40 * g + o) + q)), .ref (A 39 0 0)] _ _
      refine gq_39 dX6_makesFinal_74 R hm (q := 4 * (40 * g + o) + q) (rfl) (by omega) (v := σ.2.1 119 (4 * (40 * g + o) + q) 0) (rfl) ?_
      refine gx_istore dX6_makesFinal_75 (by decide) rfl (L' := [some (.ref (A 6 0 0)), some (.int (nI g)), some (.int (nI o)), some (.int ((sm_ga σ g o q).1)), some (.int ((sm_ga σ g o q).2)), some (.int (nI q)), some (.int (σ.2.1 119 (4 * (40 * g + o) + q) 0))]) rfl ?_
      refine gx_iload dX6_makesFinal_77 rfl ?_
      refine gx_if_eq dX6_makesFinal_79 (tgt := 91) (by decide) (fun hc2 => ?_) (fun hc2 => ?_)
      · refine gx_iconst dX6_makesFinal_91 (v := 0) (by decide) ?_
        refine gx_istore dX6_makesFinal_92 (by decide) rfl (L' := [some (.ref (A 6 0 0)), some (.int (nI g)), some (.int (nI o)), some (.int ((sm_ga σ g o q).1)), some (.int 0), some (.int (nI q)), some (.int (σ.2.1 119 (4 * (40 * g + o) + q) 0))]) rfl ?_
        refine gx_iload dX6_makesFinal_94 rfl ?_
        refine gx_iload_n dX6_makesFinal_96 rfl ?_
        refine gx_icmp_le dX6_makesFinal_97 (tgt := 105) (by decide) (fun hc4 => ?_) (fun hc4 => ?_)
        · refine gx_iload_n dX6_makesFinal_105 rfl ?_
          refine gx_istore_n dX6_makesFinal_106 (by decide) rfl (L' := [some (.ref (A 6 0 0)), some (.int (nI g)), some (.int (nI o)), some (.int ((sm_ga σ g o q).1)), some (.int 0), some (.int (nI q)), some (.int (σ.2.1 119 (4 * (40 * g + o) + q) 0))]) rfl ?_
          refine gx_iinc dX6_makesFinal_107 rfl (v := nI (q + 1)) (nI_1 _) (by decide) rfl (L' := [some (.ref (A 6 0 0)), some (.int (nI g)), some (.int (nI o)), some (.int ((sm_ga σ g o q).1)), some (.int 0), some (.int (nI (q + 1))), some (.int (σ.2.1 119 (4 * (40 * g + o) + q) 0))]) rfl ?_
          refine gx_goto dX6_makesFinal_110 (tgt := 44) (by decide) ?_
          have e9 : sm_ga σ g o (q + 1) = ((sm_ga σ g o q).1, 0) := by rw [sm_ga, if_pos hc1]; simp [hc2, hc4]
          have k := ih (q + 1) (some (.int (σ.2.1 119 (4 * (40 * g + o) + q) 0))) (by omega)
          rw [e9] at k
          exact k
        · refine gx_iload dX6_makesFinal_100 rfl ?_
          refine gx_goto dX6_makesFinal_102 (tgt := 106) (by decide) ?_
          refine gx_istore_n dX6_makesFinal_106 (by decide) rfl (L' := [some (.ref (A 6 0 0)), some (.int (nI g)), some (.int (nI o)), some (.int (σ.2.1 119 (4 * (40 * g + o) + q) 0)), some (.int 0), some (.int (nI q)), some (.int (σ.2.1 119 (4 * (40 * g + o) + q) 0))]) rfl ?_
          refine gx_iinc dX6_makesFinal_107 rfl (v := nI (q + 1)) (nI_1 _) (by decide) rfl (L' := [some (.ref (A 6 0 0)), some (.int (nI g)), some (.int (nI o)), some (.int (σ.2.1 119 (4 * (40 * g + o) + q) 0)), some (.int 0), some (.int (nI (q + 1))), some (.int (σ.2.1 119 (4 * (40 * g + o) + q) 0))]) rfl ?_
          refine gx_goto dX6_makesFinal_110 (tgt := 44) (by decide) ?_
          have e9 : sm_ga σ g o (q + 1) = (σ.2.1 119 (4 * (40 * g + o) + q) 0, 0) := by rw [sm_ga, if_pos hc1]; simp [hc2, hc4]
          have k := ih (q + 1) (some (.int (σ.2.1 119 (4 * (40 * g + o) + q) 0))) (by omega)
          rw [e9] at k
          exact k
      · refine gx_iload dX6_makesFinal_82 rfl ?_
        refine gx_if_le dX6_makesFinal_84 (tgt := 91) (by decide) (fun hc3 => ?_) (fun hc3 => ?_)
        · refine gx_iconst dX6_makesFinal_91 (v := 0) (by decide) ?_
          refine gx_istore dX6_makesFinal_92 (by decide) rfl (L' := [some (.ref (A 6 0 0)), some (.int (nI g)), some (.int (nI o)), some (.int ((sm_ga σ g o q).1)), some (.int 0), some (.int (nI q)), some (.int (σ.2.1 119 (4 * (40 * g + o) + q) 0))]) rfl ?_
          refine gx_iload dX6_makesFinal_94 rfl ?_
          refine gx_iload_n dX6_makesFinal_96 rfl ?_
          refine gx_icmp_le dX6_makesFinal_97 (tgt := 105) (by decide) (fun hc4 => ?_) (fun hc4 => ?_)
          · refine gx_iload_n dX6_makesFinal_105 rfl ?_
            refine gx_istore_n dX6_makesFinal_106 (by decide) rfl (L' := [some (.ref (A 6 0 0)), some (.int (nI g)), some (.int (nI o)), some (.int ((sm_ga σ g o q).1)), some (.int 0), some (.int (nI q)), some (.int (σ.2.1 119 (4 * (40 * g + o) + q) 0))]) rfl ?_
            refine gx_iinc dX6_makesFinal_107 rfl (v := nI (q + 1)) (nI_1 _) (by decide) rfl (L' := [some (.ref (A 6 0 0)), some (.int (nI g)), some (.int (nI o)), some (.int ((sm_ga σ g o q).1)), some (.int 0), some (.int (nI (q + 1))), some (.int (σ.2.1 119 (4 * (40 * g + o) + q) 0))]) rfl ?_
            refine gx_goto dX6_makesFinal_110 (tgt := 44) (by decide) ?_
            have e9 : sm_ga σ g o (q + 1) = ((sm_ga σ g o q).1, 0) := by rw [sm_ga, if_pos hc1]; simp [hc2, hc3, hc4]
            have k := ih (q + 1) (some (.int (σ.2.1 119 (4 * (40 * g + o) + q) 0))) (by omega)
            rw [e9] at k
            exact k
          · refine gx_iload dX6_makesFinal_100 rfl ?_
            refine gx_goto dX6_makesFinal_102 (tgt := 106) (by decide) ?_
            refine gx_istore_n dX6_makesFinal_106 (by decide) rfl (L' := [some (.ref (A 6 0 0)), some (.int (nI g)), some (.int (nI o)), some (.int (σ.2.1 119 (4 * (40 * g + o) + q) 0)), some (.int 0), some (.int (nI q)), some (.int (σ.2.1 119 (4 * (40 * g + o) + q) 0))]) rfl ?_
            refine gx_iinc dX6_makesFinal_107 rfl (v := nI (q + 1)) (nI_1 _) (by decide) rfl (L' := [some (.ref (A 6 0 0)), some (.int (nI g)), some (.int (nI o)), some (.int (σ.2.1 119 (4 * (40 * g + o) + q) 0)), some (.int 0), some (.int (nI (q + 1))), some (.int (σ.2.1 119 (4 * (40 * g + o) + q) 0))]) rfl ?_
            refine gx_goto dX6_makesFinal_110 (tgt := 44) (by decide) ?_
            have e9 : sm_ga σ g o (q + 1) = (σ.2.1 119 (4 * (40 * g + o) + q) 0, 0) := by rw [sm_ga, if_pos hc1]; simp [hc2, hc3, hc4]
            have k := ih (q + 1) (some (.int (σ.2.1 119 (4 * (40 * g + o) + q) 0))) (by omega)
            rw [e9] at k
            exact k
        · refine gx_iconst dX6_makesFinal_87 (v := 1) (by decide) ?_
          refine gx_goto dX6_makesFinal_88 (tgt := 92) (by decide) ?_
          refine gx_istore dX6_makesFinal_92 (by decide) rfl (L' := [some (.ref (A 6 0 0)), some (.int (nI g)), some (.int (nI o)), some (.int ((sm_ga σ g o q).1)), some (.int 1), some (.int (nI q)), some (.int (σ.2.1 119 (4 * (40 * g + o) + q) 0))]) rfl ?_
          refine gx_iload dX6_makesFinal_94 rfl ?_
          refine gx_iload_n dX6_makesFinal_96 rfl ?_
          refine gx_icmp_le dX6_makesFinal_97 (tgt := 105) (by decide) (fun hc4 => ?_) (fun hc4 => ?_)
          · refine gx_iload_n dX6_makesFinal_105 rfl ?_
            refine gx_istore_n dX6_makesFinal_106 (by decide) rfl (L' := [some (.ref (A 6 0 0)), some (.int (nI g)), some (.int (nI o)), some (.int ((sm_ga σ g o q).1)), some (.int 1), some (.int (nI q)), some (.int (σ.2.1 119 (4 * (40 * g + o) + q) 0))]) rfl ?_
            refine gx_iinc dX6_makesFinal_107 rfl (v := nI (q + 1)) (nI_1 _) (by decide) rfl (L' := [some (.ref (A 6 0 0)), some (.int (nI g)), some (.int (nI o)), some (.int ((sm_ga σ g o q).1)), some (.int 1), some (.int (nI (q + 1))), some (.int (σ.2.1 119 (4 * (40 * g + o) + q) 0))]) rfl ?_
            refine gx_goto dX6_makesFinal_110 (tgt := 44) (by decide) ?_
            have e9 : sm_ga σ g o (q + 1) = ((sm_ga σ g o q).1, 1) := by rw [sm_ga, if_pos hc1]; simp [hc2, hc3, hc4]
            have k := ih (q + 1) (some (.int (σ.2.1 119 (4 * (40 * g + o) + q) 0))) (by omega)
            rw [e9] at k
            exact k
          · refine gx_iload dX6_makesFinal_100 rfl ?_
            refine gx_goto dX6_makesFinal_102 (tgt := 106) (by decide) ?_
            refine gx_istore_n dX6_makesFinal_106 (by decide) rfl (L' := [some (.ref (A 6 0 0)), some (.int (nI g)), some (.int (nI o)), some (.int (σ.2.1 119 (4 * (40 * g + o) + q) 0)), some (.int 1), some (.int (nI q)), some (.int (σ.2.1 119 (4 * (40 * g + o) + q) 0))]) rfl ?_
            refine gx_iinc dX6_makesFinal_107 rfl (v := nI (q + 1)) (nI_1 _) (by decide) rfl (L' := [some (.ref (A 6 0 0)), some (.int (nI g)), some (.int (nI o)), some (.int (σ.2.1 119 (4 * (40 * g + o) + q) 0)), some (.int 1), some (.int (nI (q + 1))), some (.int (σ.2.1 119 (4 * (40 * g + o) + q) 0))]) rfl ?_
            refine gx_goto dX6_makesFinal_110 (tgt := 44) (by decide) ?_
            have e9 : sm_ga σ g o (q + 1) = (σ.2.1 119 (4 * (40 * g + o) + q) 0, 1) := by rw [sm_ga, if_pos hc1]; simp [hc2, hc3, hc4]
            have k := ih (q + 1) (some (.int (σ.2.1 119 (4 * (40 * g + o) + q) 0))) (by omega)
            rw [e9] at k
            exact k
abbrev sm_mfc (σ : gs_T) (g o : Nat) : Prop := ¬ σ.2.1 114 (40 * g + o) 0 = 0 ∧ σ.2.1 115 (40 * g + o) 0 = 0 ∧ ¬ (sm_ga σ g o (σ.1 100 0 0)).2 = 0
def sm_mf (σ : gs_T) (g m o : Nat) : Option Nat := match m with
  | 0 => none
  | m + 1 => if sm_mfc σ g o then some o else sm_mf σ g m (o + 1)
def gs_mg (c G : Int32) : Int32 := if G ≤ c then c else G
def sm_mf1 (σ : gs_T) (g o : Nat) : gs_T := gs_i (gs_i σ 115 (40 * g + o) 0 (sm_ga σ g o (σ.1 100 0 0)).1) 101 g 0 (gs_mg (σ.2.1 101 g 0) (sm_ga σ g o (σ.1 100 0 0)).1)
def sm_mfs (σ : gs_T) (g : Nat) (r : Option Nat) : gs_T := match r with
  | none => σ
  | some o => sm_mf1 σ g o
def sm_mfr (r : Option Nat) : Int32 := match r with
  | none => 0
  | some _ => 1
set_option maxHeartbeats 4000000 in
theorem cl_mf {S : gx_S} {h : gx_H} {σ : gs_T} {A : gs_A} (R : gs_R h σ A) (hm : σ.1 31 0 0 = 1) (V : gv_V σ) {g : Nat} (hg4 : g < 4) : ∀ (m o : Nat) (w3 w4 w5 w6 : Option Value), o + m = σ.1 104 0 0 → gx_ok [none, none, none, w3] 4 = true → gx_ok [none, none, none, none, w4] 5 = true → gx_ok [none, none, none, none, none, w5] 6 = true → gx_Ev S gm_X6_makesFinal 3 2 [some (.ref (A 6 0 0)), some (.int (nI g)), some (.int (nI o)), w3, w4, w5, w6] [] h (fun r h' => gx_rt (some .boolean) r ∧ gs_R h' (sm_mfs σ g (sm_mf σ g m o)) A ∧ gs_sm h h' ∧ r = some (.int (sm_mfr (sm_mf σ g m o)))) := by
  intro m
  induction m with
  | zero =>
    intro o w3 w4 w5 w6 hq g3 g4 g5
    have hqn : o = σ.1 104 0 0 := by omega
    have hc40 := gv_cnt V
    refine gx_iload_n dX6_makesFinal_2 rfl ?_
    refine gx_aload_n dX6_makesFinal_3 rfl ?_
    refine gx_get dX6_makesFinal_4 gf_X6_124 (gs_g6 R hm) (v := .int (nI (σ.1 104 0 0))) (rfl) ?_
    refine gx_icmp_ge dX6_makesFinal_7 (tgt := 163) (by decide) (fun hc1 => ?_) (fun hc1 => absurd hc1 (fun z => z (by rw [hqn]; exact nI_le (Nat.le_refl _) (by omega))))
    refine gx_iconst dX6_makesFinal_163 (v := 0) (by decide) ?_
    refine gx_ireturn dX6_makesFinal_164 ?_
    exact ⟨⟨_, rfl, rfl⟩, R, gs_sm.rfl, rfl⟩
  | succ m ih =>
    intro o w3 w4 w5 w6 hq g3 g4 g5
    have hc40 := gv_cnt V
    have hqn : o < σ.1 104 0 0 := by omega
    have ho : o < 40 := by omega
    refine gx_iload_n dX6_makesFinal_2 rfl ?_
    refine gx_aload_n dX6_makesFinal_3 rfl ?_
    refine gx_get dX6_makesFinal_4 gf_X6_124 (gs_g6 R hm) (v := .int (nI (σ.1 104 0 0))) (rfl) ?_
    refine gx_icmp_ge dX6_makesFinal_7 (tgt := 163) (by decide) (fun hc0 => absurd hc0 (nI_ge (by omega) (by omega))) (fun hc0 => ?_)
    refine gx_aload_n dX6_makesFinal_10 rfl ?_
    refine gx_get dX6_makesFinal_11 gf_X6_47 (gs_g6 R hm) (v := .ref (A 34 0 0)) (rfl) ?_
    refine gx_iload_n dX6_makesFinal_14 rfl ?_
    refine gx_iload_n dX6_makesFinal_15 rfl ?_
    refine gx_invS dX6_makesFinal_16 wm_X6_105 gt_X6_at ws_X6_at (As := [.int (nI g), .int (nI o)]) (rest := [.ref (A 34 0 0)]) rfl rfl (Nat.le_of_ble_eq_true rfl) (by decide) (cc_X6_atE (g := g) (o := o) (rfl) (rfl)) (fun r1 h1 q1 => ?_)
    obtain ⟨rfl, rfl⟩ := q1
    show gx_Ev _ _ _ _ _ [.int (nI (40 * g + o)), .ref (A 34 0 0)] _ _
    refine gq_34 dX6_makesFinal_19 R hm (q := 40 * g + o) (rfl) (by omega) (v := σ.2.1 114 (40 * g + o) 0) (rfl) ?_
    refine gx_if_eq dX6_makesFinal_20 (tgt := 157) (by decide) (fun hc1 => ?_) (fun hc1 => ?_)
    · refine gx_iinc dX6_makesFinal_157 rfl (v := nI (o + 1)) (nI_1 _) (by decide) rfl (L' := [some (.ref (A 6 0 0)), some (.int (nI g)), some (.int (nI (o + 1))), w3, w4, w5, w6]) rfl ?_
      refine gx_goto dX6_makesFinal_160 (tgt := 2) (by decide) ?_
      have e9 : sm_mf σ g (m + 1) o = sm_mf σ g m (o + 1) := by rw [sm_mf, if_neg (fun z => z.1 hc1)]
      rw [e9]
      exact ih (o + 1) (w3) (w4) (w5) (w6) (by omega) g3 g4 g5
    · refine gx_aload_n dX6_makesFinal_23 rfl ?_
      refine gx_get dX6_makesFinal_24 gf_X6_50 (gs_g6 R hm) (v := .ref (A 35 0 0)) (rfl) ?_
      refine gx_iload_n dX6_makesFinal_27 rfl ?_
      refine gx_iload_n dX6_makesFinal_28 rfl ?_
      refine gx_invS dX6_makesFinal_29 wm_X6_105 gt_X6_at ws_X6_at (As := [.int (nI g), .int (nI o)]) (rest := [.ref (A 35 0 0)]) rfl rfl (Nat.le_of_ble_eq_true rfl) (by decide) (cc_X6_atE (g := g) (o := o) (rfl) (rfl)) (fun r1 h1 q1 => ?_)
      obtain ⟨rfl, rfl⟩ := q1
      show gx_Ev _ _ _ _ _ [.int (nI (40 * g + o)), .ref (A 35 0 0)] _ _
      refine gq_35 dX6_makesFinal_32 R hm (q := 40 * g + o) (rfl) (by omega) (v := σ.2.1 115 (40 * g + o) 0) (rfl) ?_
      refine gx_if_ne dX6_makesFinal_33 (tgt := 157) (by decide) (fun hc2 => ?_) (fun hc2 => ?_)
      · refine gx_iinc dX6_makesFinal_157 rfl (v := nI (o + 1)) (nI_1 _) (by decide) rfl (L' := [some (.ref (A 6 0 0)), some (.int (nI g)), some (.int (nI (o + 1))), w3, w4, w5, w6]) rfl ?_
        refine gx_goto dX6_makesFinal_160 (tgt := 2) (by decide) ?_
        have e9 : sm_mf σ g (m + 1) o = sm_mf σ g m (o + 1) := by rw [sm_mf, if_neg (fun z => hc2 z.2.1)]
        rw [e9]
        exact ih (o + 1) (w3) (w4) (w5) (w6) (by omega) g3 g4 g5
      · refine gx_iconst dX6_makesFinal_36 (v := 0) (by decide) ?_
        refine gx_istore_n dX6_makesFinal_37 (by decide) rfl (L' := [some (.ref (A 6 0 0)), some (.int (nI g)), some (.int (nI o)), some (.int 0), w4, w5, w6]) rfl ?_
        refine gx_iconst dX6_makesFinal_38 (v := 1) (by decide) ?_
        refine gx_istore dX6_makesFinal_39 (by decide) rfl (L' := [some (.ref (A 6 0 0)), some (.int (nI g)), some (.int (nI o)), some (.int 0), some (.int 1), w5, w6]) rfl ?_
        refine gx_iconst dX6_makesFinal_41 (v := 0) (by decide) ?_
        refine gx_istore dX6_makesFinal_42 (by decide) rfl (L' := [some (.ref (A 6 0 0)), some (.int (nI g)), some (.int (nI o)), some (.int 0), some (.int 1), some (.int 0), w6]) rfl ?_
        refine cl_mf_in R hm V hg4 ho (fun w7 => ?_) _ 0 _ (Nat.zero_add _)
        refine gx_iload dX6_makesFinal_113 rfl ?_
        refine gx_if_eq dX6_makesFinal_115 (tgt := 157) (by decide) (fun hc3 => ?_) (fun hc3 => ?_)
        · refine gx_iinc dX6_makesFinal_157 rfl (v := nI (o + 1)) (nI_1 _) (by decide) rfl (L' := [some (.ref (A 6 0 0)), some (.int (nI g)), some (.int (nI (o + 1))), some (.int ((sm_ga σ g o (σ.1 100 0 0)).1)), some (.int ((sm_ga σ g o (σ.1 100 0 0)).2)), some (.int (nI (σ.1 100 0 0))), w7]) rfl ?_
          refine gx_goto dX6_makesFinal_160 (tgt := 2) (by decide) ?_
          have e9 : sm_mf σ g (m + 1) o = sm_mf σ g m (o + 1) := by rw [sm_mf, if_neg (fun z => z.2.2 hc3)]
          rw [e9]
          exact ih (o + 1) (some (.int ((sm_ga σ g o (σ.1 100 0 0)).1))) (some (.int ((sm_ga σ g o (σ.1 100 0 0)).2))) (some (.int (nI (σ.1 100 0 0)))) (w7) (by omega) rfl rfl rfl
        · refine gx_aload_n dX6_makesFinal_118 rfl ?_
          refine gx_get dX6_makesFinal_119 gf_X6_50 (gs_g6 R hm) (v := .ref (A 35 0 0)) (rfl) ?_
          refine gx_iload_n dX6_makesFinal_122 rfl ?_
          refine gx_iload_n dX6_makesFinal_123 rfl ?_
          refine gx_invS dX6_makesFinal_124 wm_X6_105 gt_X6_at ws_X6_at (As := [.int (nI g), .int (nI o)]) (rest := [.ref (A 35 0 0)]) rfl rfl (Nat.le_of_ble_eq_true rfl) (by decide) (cc_X6_atE (g := g) (o := o) (rfl) (rfl)) (fun r1 h1 q1 => ?_)
          obtain ⟨rfl, rfl⟩ := q1
          show gx_Ev _ _ _ _ _ [.int (nI (40 * g + o)), .ref (A 35 0 0)] _ _
          refine gx_iload_n dX6_makesFinal_127 rfl ?_
          refine ga_I115 (σ := σ) hm dX6_makesFinal_128 R (q := 40 * g + o) (v := (sm_ga σ g o (σ.1 100 0 0)).1) (rfl) (by omega) (fun h R hs0 => ?_)
          refine gx_aload_n dX6_makesFinal_129 rfl ?_
          refine gx_get dX6_makesFinal_130 gf_X6_7 (gs_g6 R hm) (v := .ref (A 21 0 0)) (rfl) ?_
          refine gx_iload_n dX6_makesFinal_133 rfl ?_
          refine gx_aload_n dX6_makesFinal_134 rfl ?_
          refine gx_get dX6_makesFinal_135 gf_X6_7 (gs_g6 R hm) (v := .ref (A 21 0 0)) (rfl) ?_
          refine gx_iload_n dX6_makesFinal_138 rfl ?_
          refine gq_21 dX6_makesFinal_139 R hm (q := g) (rfl) (by omega) (v := σ.2.1 101 g 0) (rfl) ?_
          refine gx_iload_n dX6_makesFinal_140 rfl ?_
          refine gx_icmp_ge dX6_makesFinal_141 (tgt := 148) (by decide) (fun hc4 => ?_) (fun hc4 => ?_)
          · refine gx_aload_n dX6_makesFinal_148 rfl ?_
            refine gx_get dX6_makesFinal_149 gf_X6_7 (gs_g6 R hm) (v := .ref (A 21 0 0)) (rfl) ?_
            refine gx_iload_n dX6_makesFinal_152 rfl ?_
            refine gq_21 dX6_makesFinal_153 R hm (q := g) (rfl) (by omega) (v := σ.2.1 101 g 0) (rfl) ?_
            refine ga_I101 (σ := (gs_i σ 115 (40 * g + o) 0 ((sm_ga σ g o (σ.1 100 0 0)).1))) hm dX6_makesFinal_154 R (q := g) (v := σ.2.1 101 g 0) (rfl) (by omega) (fun h R hs1 => ?_)
            refine gx_iconst dX6_makesFinal_155 (v := 1) (by decide) ?_
            refine gx_ireturn dX6_makesFinal_156 ?_
            have e9 : sm_mf σ g (m + 1) o = some o := by rw [sm_mf, if_pos ⟨hc1, hc2, hc3⟩]
            rw [e9]
            have e8 : gs_mg (σ.2.1 101 g 0) (sm_ga σ g o (σ.1 100 0 0)).1 = σ.2.1 101 g 0 := by simp [gs_mg, hc4]
            exact ⟨⟨_, rfl, rfl⟩, by show gs_R _ (sm_mf1 σ g o) A; rw [sm_mf1, e8]; exact R, ((gs_sm.rfl.trans hs0).trans hs1), rfl⟩
          · refine gx_iload_n dX6_makesFinal_144 rfl ?_
            refine gx_goto dX6_makesFinal_145 (tgt := 154) (by decide) ?_
            refine ga_I101 (σ := (gs_i σ 115 (40 * g + o) 0 ((sm_ga σ g o (σ.1 100 0 0)).1))) hm dX6_makesFinal_154 R (q := g) (v := (sm_ga σ g o (σ.1 100 0 0)).1) (rfl) (by omega) (fun h R hs1 => ?_)
            refine gx_iconst dX6_makesFinal_155 (v := 1) (by decide) ?_
            refine gx_ireturn dX6_makesFinal_156 ?_
            have e9 : sm_mf σ g (m + 1) o = some o := by rw [sm_mf, if_pos ⟨hc1, hc2, hc3⟩]
            rw [e9]
            have e8 : gs_mg (σ.2.1 101 g 0) (sm_ga σ g o (σ.1 100 0 0)).1 = (sm_ga σ g o (σ.1 100 0 0)).1 := by simp [gs_mg, hc4]
            exact ⟨⟨_, rfl, rfl⟩, by show gs_R _ (sm_mf1 σ g o) A; rw [sm_mf1, e8]; exact R, ((gs_sm.rfl.trans hs0).trans hs1), rfl⟩
set_option maxHeartbeats 4000000 in
theorem cc_X6_makesFinal {S : gx_S} {h : gx_H} {σ : gs_T} {A : gs_A} (R : gs_R h σ A) (hm : σ.1 31 0 0 = 1) (V : gv_V σ) {g : Nat} (hg4 : g < 4) : gx_Cn S gm_X6_makesFinal 3 [.ref (A 6 0 0), .int (nI g)] h (fun r h' => gs_R h' (sm_mfs σ g (sm_mf σ g (σ.1 104 0 0) 0)) A ∧ gs_sm h h' ∧ r = some (.int (sm_mfr (sm_mf σ g (σ.1 104 0 0) 0)))) := by
  refine gx_Cn.of gt_X6_makesFinal (by simp [Value.category]) (Nat.le_of_ble_eq_true rfl) ?_
  show gx_Ev S gm_X6_makesFinal 3 0 [some (.ref (A 6 0 0)), some (.int (nI g)), none, none, none, none, none] [] h _
  refine gx_iconst dX6_makesFinal_0 (v := 0) (by decide) ?_
  refine gx_istore_n dX6_makesFinal_1 (by decide) rfl (L' := [some (.ref (A 6 0 0)), some (.int (nI g)), some (.int 0), none, none, none, none]) rfl ?_
  exact cl_mf R hm V hg4 _ 0 none none none none (Nat.zero_add _) rfl rfl rfl
end
section
/-! the reference: takes -/
abbrev sm_tt (σ : gs_T) (g o : Nat) : Int32 := if σ.2.1 115 (40 * g + o) 0 ≤ 0 then σ.2.1 119 (4 * (40 * g + o) + g) 0 else σ.2.1 115 (40 * g + o) 0
def sm_tb (σ : gs_T) (g o : Nat) : Nat × Int32 := match o with
  | 0 => (0, 0)
  | o + 1 => if ¬ σ.2.1 114 (40 * g + o) 0 = 0 ∧ σ.2.1 116 (40 * g + o) 0 = 0 then (if (sm_tb σ g o).1 = 0 ∨ sm_tt σ g o < (sm_tb σ g o).2 then (o + 1, sm_tt σ g o) else sm_tb σ g o) else sm_tb σ g o
theorem sm_tb_le (σ : gs_T) (g o : Nat) : (sm_tb σ g o).1 ≤ o := by
  induction o with
  | zero => exact Nat.le_refl _
  | succ o ih =>
    rw [sm_tb]
    split
    · split
      · exact Nat.le_refl _
      · omega
    · omega
theorem gs_sf_m1 {x : Nat} (hx : x ≤ 2 ^ 31) : gs_sf x = -1 ↔ x = 0 := by
  cases x with
  | zero => exact ⟨fun _ => rfl, fun _ => rfl⟩
  | succ x =>
    refine ⟨fun h => ?_, fun h => by omega⟩
    have h2 : nI x = -1 := h
    have h3 := nI_pos (n := x) (by omega)
    rw [h2] at h3
    exact absurd (by decide) h3
abbrev sm_tc (σ : gs_T) (g : Nat) : Prop := ¬ (sm_tb σ g (σ.1 104 0 0)).1 = 0 ∧ ¬ σ.2.1 115 (40 * g + ((sm_tb σ g (σ.1 104 0 0)).1 - 1)) 0 = 0
def sm_tk1 (σ : gs_T) (g b : Nat) : gs_T := gs_n (gs_n (gs_i σ 116 (40 * g + b) 0 1) 124 (40 * g + σ.1 123 g 0) 0 b) 123 g 0 (σ.1 123 g 0 + 1)
def sm_tks (σ : gs_T) (g : Nat) : gs_T := if sm_tc σ g then sm_tk1 σ g ((sm_tb σ g (σ.1 104 0 0)).1 - 1) else σ
set_option maxHeartbeats 4000000 in
theorem cl_tk {S : gx_S} {h : gx_H} {σ : gs_T} {A : gs_A} (R : gs_R h σ A) (hm : σ.1 31 0 0 = 1) (V : gv_V σ) {g : Nat} (hg4 : g < 4) {Q : Option Value → gx_H → Prop} (K : ∀ w, gx_Ev S gm_X6_takes 3 109 [some (.ref (A 6 0 0)), some (.int (nI g)), some (.int (gs_sf (sm_tb σ g (σ.1 104 0 0)).1)), some (.int ((sm_tb σ g (σ.1 104 0 0)).2)), some (.int (nI (σ.1 104 0 0))), w] [] h Q) : ∀ (m q : Nat) (w5 : Option Value), q + m = σ.1 104 0 0 → gx_Ev S gm_X6_takes 3 7 [some (.ref (A 6 0 0)), some (.int (nI g)), some (.int (gs_sf (sm_tb σ g q).1)), some (.int ((sm_tb σ g q).2)), some (.int (nI q)), w5] [] h Q := by
  intro m
  induction m with
  | zero =>
    intro q w5 hq
    have hqn : q = σ.1 104 0 0 := by omega
    have hc40 := gv_cnt V
    refine gx_iload dX6_takes_7 rfl ?_
    refine gx_aload_n dX6_takes_9 rfl ?_
    refine gx_get dX6_takes_10 gf_X6_124 (gs_g6 R hm) (v := .int (nI (σ.1 104 0 0))) (rfl) ?_
    refine gx_icmp_ge dX6_takes_13 (tgt := 109) (by decide) (fun hc1 => ?_) (fun hc1 => absurd hc1 (fun z => z (by rw [hqn]; exact nI_le (Nat.le_refl _) (by omega))))
    have k := K w5
    rw [← hqn] at k
    exact k
  | succ m ih =>
    intro q w5 hq
    have hc40 := gv_cnt V
    have hqn : q < σ.1 104 0 0 := by omega
    have hle := sm_tb_le σ g q
    refine gx_iload dX6_takes_7 rfl ?_
    refine gx_aload_n dX6_takes_9 rfl ?_
    refine gx_get dX6_takes_10 gf_X6_124 (gs_g6 R hm) (v := .int (nI (σ.1 104 0 0))) (rfl) ?_
    refine gx_icmp_ge dX6_takes_13 (tgt := 109) (by decide) (fun hc0 => absurd hc0 (nI_ge (by omega) (by omega))) (fun hc0 => ?_)
    refine gx_aload_n dX6_takes_16 rfl ?_
    refine gx_get dX6_takes_17 gf_X6_47 (gs_g6 R hm) (v := .ref (A 34 0 0)) (rfl) ?_
    refine gx_iload_n dX6_takes_20 rfl ?_
    refine gx_iload dX6_takes_21 rfl ?_
    refine gx_invS dX6_takes_23 wm_X6_105 gt_X6_at ws_X6_at (As := [.int (nI g), .int (nI q)]) (rest := [.ref (A 34 0 0)]) rfl rfl (Nat.le_of_ble_eq_true rfl) (by decide) (cc_X6_atE (g := g) (o := q) (rfl) (rfl)) (fun r1 h1 q1 => ?_)
    obtain ⟨rfl, rfl⟩ := q1
    show gx_Ev _ _ _ _ _ [.int (nI (40 * g + q)), .ref (A 34 0 0)] _ _
    refine gq_34 dX6_takes_26 R hm (q := 40 * g + q) (rfl) (by omega) (v := σ.2.1 114 (40 * g + q) 0) (rfl) ?_
    refine gx_if_eq dX6_takes_27 (tgt := 103) (by decide) (fun hc1 => ?_) (fun hc1 => ?_)
    · refine gx_iinc dX6_takes_103 rfl (v := nI (q + 1)) (nI_1 _) (by decide) rfl (L' := [some (.ref (A 6 0 0)), some (.int (nI g)), some (.int (gs_sf (sm_tb σ g q).1)), some (.int ((sm_tb σ g q).2)), some (.int (nI (q + 1))), w5]) rfl ?_
      refine gx_goto dX6_takes_106 (tgt := 7) (by decide) ?_
      have e9 : sm_tb σ g (q + 1) = sm_tb σ g q := by rw [sm_tb, if_neg (fun z => z.1 hc1)]
      have k := ih (q + 1) (w5) (by omega)
      rw [e9] at k
      exact k
    · refine gx_aload_n dX6_takes_30 rfl ?_
      refine gx_get dX6_takes_31 gf_X6_53 (gs_g6 R hm) (v := .ref (A 36 0 0)) (rfl) ?_
      refine gx_iload_n dX6_takes_34 rfl ?_
      refine gx_iload dX6_takes_35 rfl ?_
      refine gx_invS dX6_takes_37 wm_X6_105 gt_X6_at ws_X6_at (As := [.int (nI g), .int (nI q)]) (rest := [.ref (A 36 0 0)]) rfl rfl (Nat.le_of_ble_eq_true rfl) (by decide) (cc_X6_atE (g := g) (o := q) (rfl) (rfl)) (fun r1 h1 q1 => ?_)
      obtain ⟨rfl, rfl⟩ := q1
      show gx_Ev _ _ _ _ _ [.int (nI (40 * g + q)), .ref (A 36 0 0)] _ _
      refine gq_36 dX6_takes_40 R hm (q := 40 * g + q) (rfl) (by omega) (v := σ.2.1 116 (40 * g + q) 0) (rfl) ?_
      refine gx_if_ne dX6_takes_41 (tgt := 103) (by decide) (fun hc2 => ?_) (fun hc2 => ?_)
      · refine gx_iinc dX6_takes_103 rfl (v := nI (q + 1)) (nI_1 _) (by decide) rfl (L' := [some (.ref (A 6 0 0)), some (.int (nI g)), some (.int (gs_sf (sm_tb σ g q).1)), some (.int ((sm_tb σ g q).2)), some (.int (nI (q + 1))), w5]) rfl ?_
        refine gx_goto dX6_takes_106 (tgt := 7) (by decide) ?_
        have e9 : sm_tb σ g (q + 1) = sm_tb σ g q := by rw [sm_tb, if_neg (fun z => hc2 z.2)]
        have k := ih (q + 1) (w5) (by omega)
        rw [e9] at k
        exact k
      · refine gx_aload_n dX6_takes_44 rfl ?_
        refine gx_get dX6_takes_45 gf_X6_50 (gs_g6 R hm) (v := .ref (A 35 0 0)) (rfl) ?_
        refine gx_iload_n dX6_takes_48 rfl ?_
        refine gx_iload dX6_takes_49 rfl ?_
        refine gx_invS dX6_takes_51 wm_X6_105 gt_X6_at ws_X6_at (As := [.int (nI g), .int (nI q)]) (rest := [.ref (A 35 0 0)]) rfl rfl (Nat.le_of_ble_eq_true rfl) (by decide) (cc_X6_atE (g := g) (o := q) (rfl) (rfl)) (fun r1 h1 q1 => ?_)
        obtain ⟨rfl, rfl⟩ := q1
        show gx_Ev _ _ _ _ _ [.int (nI (40 * g + q)), .ref (A 35 0 0)] _ _
        refine gq_35 dX6_takes_54 R hm (q := 40 * g + q) (rfl) (by omega) (v := σ.2.1 115 (40 * g + q) 0) (rfl) ?_
        refine gx_if_le dX6_takes_55 (tgt := 72) (by decide) (fun hc3 => ?_) (fun hc3 => ?_)
        · refine gx_aload_n dX6_takes_72 rfl ?_
          refine gx_get dX6_takes_73 gf_X6_62 (gs_g6 R hm) (v := .ref (A 39 0 0)) (rfl) ?_
          refine gx_iload_n dX6_takes_76 rfl ?_
          refine gx_iload dX6_takes_77 rfl ?_
          refine gx_iload_n dX6_takes_79 rfl ?_
          refine gx_invS dX6_takes_80 wm_X6_131 gt_X6_of ws_X6_of (As := [.int (nI g), .int (nI q), .int (nI g)]) (rest := [.ref (A 39 0 0)]) rfl rfl (Nat.le_of_ble_eq_true rfl) (by decide) (cc_X6_ofE (g := g) (o := q) (q := g) (rfl) (rfl) (rfl)) (fun r1 h1 q1 => ?_)
          obtain ⟨rfl, rfl⟩ := q1
          show gx_Ev _ _ _ _ _ [.int (nI (4 * (40 * g + q) + g)), .ref (A 39 0 0)] _ _
          refine gq_39 dX6_takes_83 R hm (q := 4 * (40 * g + q) + g) (rfl) (by omega) (v := σ.2.1 119 (4 * (40 * g + q) + g) 0) (rfl) ?_
          refine gx_istore dX6_takes_84 (by decide) rfl (L' := [some (.ref (A 6 0 0)), some (.int (nI g)), some (.int (gs_sf (sm_tb σ g q).1)), some (.int ((sm_tb σ g q).2)), some (.int (nI q)), some (.int (σ.2.1 119 (4 * (40 * g + q) + g) 0))]) rfl ?_
          refine gx_iload_n dX6_takes_86 rfl ?_
          refine gx_iconst dX6_takes_87 (v := (-1)) (by decide) ?_
          refine gx_icmp_eq dX6_takes_88 (tgt := 97) (by decide) (fun hc4 => ?_) (fun hc4 => ?_)
          · have hc4 := (gs_sf_m1 (by omega)).mp hc4
            refine gx_iload dX6_takes_97 rfl ?_
            refine gx_istore_n dX6_takes_99 (by decide) rfl (L' := [some (.ref (A 6 0 0)), some (.int (nI g)), some (.int (nI q)), some (.int ((sm_tb σ g q).2)), some (.int (nI q)), some (.int (σ.2.1 119 (4 * (40 * g + q) + g) 0))]) rfl ?_
            refine gx_iload dX6_takes_100 rfl ?_
            refine gx_istore_n dX6_takes_102 (by decide) rfl (L' := [some (.ref (A 6 0 0)), some (.int (nI g)), some (.int (nI q)), some (.int (σ.2.1 119 (4 * (40 * g + q) + g) 0)), some (.int (nI q)), some (.int (σ.2.1 119 (4 * (40 * g + q) + g) 0))]) rfl ?_
            refine gx_iinc dX6_takes_103 rfl (v := nI (q + 1)) (nI_1 _) (by decide) rfl (L' := [some (.ref (A 6 0 0)), some (.int (nI g)), some (.int (nI q)), some (.int (σ.2.1 119 (4 * (40 * g + q) + g) 0)), some (.int (nI (q + 1))), some (.int (σ.2.1 119 (4 * (40 * g + q) + g) 0))]) rfl ?_
            refine gx_goto dX6_takes_106 (tgt := 7) (by decide) ?_
            have e8 : sm_tt σ g q = σ.2.1 119 (4 * (40 * g + q) + g) 0 := by simp [hc3]
            have e9 : sm_tb σ g (q + 1) = (q + 1, σ.2.1 119 (4 * (40 * g + q) + g) 0) := by rw [sm_tb, if_pos ⟨hc1, hc2⟩, if_pos (Or.inl hc4), e8]
            have k := ih (q + 1) (some (.int (σ.2.1 119 (4 * (40 * g + q) + g) 0))) (by omega)
            rw [e9] at k
            exact k
          · have hc4 := fun z => hc4 ((gs_sf_m1 (by omega)).mpr z)
            refine gx_iload dX6_takes_91 rfl ?_
            refine gx_iload_n dX6_takes_93 rfl ?_
            refine gx_icmp_ge dX6_takes_94 (tgt := 103) (by decide) (fun hc5 => ?_) (fun hc5 => ?_)
            · refine gx_iinc dX6_takes_103 rfl (v := nI (q + 1)) (nI_1 _) (by decide) rfl (L' := [some (.ref (A 6 0 0)), some (.int (nI g)), some (.int (gs_sf (sm_tb σ g q).1)), some (.int ((sm_tb σ g q).2)), some (.int (nI (q + 1))), some (.int (σ.2.1 119 (4 * (40 * g + q) + g) 0))]) rfl ?_
              refine gx_goto dX6_takes_106 (tgt := 7) (by decide) ?_
              have e8 : sm_tt σ g q = σ.2.1 119 (4 * (40 * g + q) + g) 0 := by simp [hc3]
              have e9 : sm_tb σ g (q + 1) = sm_tb σ g q := by rw [sm_tb, if_pos ⟨hc1, hc2⟩, if_neg (fun z => z.elim hc4 (fun z => Int32.not_lt.mpr hc5 (e8 ▸ z)))]
              have k := ih (q + 1) (some (.int (σ.2.1 119 (4 * (40 * g + q) + g) 0))) (by omega)
              rw [e9] at k
              exact k
            · refine gx_iload dX6_takes_97 rfl ?_
              refine gx_istore_n dX6_takes_99 (by decide) rfl (L' := [some (.ref (A 6 0 0)), some (.int (nI g)), some (.int (nI q)), some (.int ((sm_tb σ g q).2)), some (.int (nI q)), some (.int (σ.2.1 119 (4 * (40 * g + q) + g) 0))]) rfl ?_
              refine gx_iload dX6_takes_100 rfl ?_
              refine gx_istore_n dX6_takes_102 (by decide) rfl (L' := [some (.ref (A 6 0 0)), some (.int (nI g)), some (.int (nI q)), some (.int (σ.2.1 119 (4 * (40 * g + q) + g) 0)), some (.int (nI q)), some (.int (σ.2.1 119 (4 * (40 * g + q) + g) 0))]) rfl ?_
              refine gx_iinc dX6_takes_103 rfl (v := nI (q + 1)) (nI_1 _) (by decide) rfl (L' := [some (.ref (A 6 0 0)), some (.int (nI g)), some (.int (nI q)), some (.int (σ.2.1 119 (4 * (40 * g + q) + g) 0)), some (.int (nI (q + 1))), some (.int (σ.2.1 119 (4 * (40 * g + q) + g) 0))]) rfl ?_
              refine gx_goto dX6_takes_106 (tgt := 7) (by decide) ?_
              have e8 : sm_tt σ g q = σ.2.1 119 (4 * (40 * g + q) + g) 0 := by simp [hc3]
              have e9 : sm_tb σ g (q + 1) = (q + 1, σ.2.1 119 (4 * (40 * g + q) + g) 0) := by rw [sm_tb, if_pos ⟨hc1, hc2⟩, if_pos (Or.inr (e8 ▸ Int32.not_le.mp hc5)), e8]
              have k := ih (q + 1) (some (.int (σ.2.1 119 (4 * (40 * g + q) + g) 0))) (by omega)
              rw [e9] at k
              exact k
        · refine gx_aload_n dX6_takes_58 rfl ?_
          refine gx_get dX6_takes_59 gf_X6_50 (gs_g6 R hm) (v := .ref (A 35 0 0)) (rfl) ?_
          refine gx_iload_n dX6_takes_62 rfl ?_
          refine gx_iload dX6_takes_63 rfl ?_
          refine gx_invS dX6_takes_65 wm_X6_105 gt_X6_at ws_X6_at (As := [.int (nI g), .int (nI q)]) (rest := [.ref (A 35 0 0)]) rfl rfl (Nat.le_of_ble_eq_true rfl) (by decide) (cc_X6_atE (g := g) (o := q) (rfl) (rfl)) (fun r1 h1 q1 => ?_)
          obtain ⟨rfl, rfl⟩ := q1
          show gx_Ev _ _ _ _ _ [.int (nI (40 * g + q)), .ref (A 35 0 0)] _ _
          refine gq_35 dX6_takes_68 R hm (q := 40 * g + q) (rfl) (by omega) (v := σ.2.1 115 (40 * g + q) 0) (rfl) ?_
          refine gx_goto dX6_takes_69 (tgt := 84) (by decide) ?_
          refine gx_istore dX6_takes_84 (by decide) rfl (L' := [some (.ref (A 6 0 0)), some (.int (nI g)), some (.int (gs_sf (sm_tb σ g q).1)), some (.int ((sm_tb σ g q).2)), some (.int (nI q)), some (.int (σ.2.1 115 (40 * g + q) 0))]) rfl ?_
          refine gx_iload_n dX6_takes_86 rfl ?_
          refine gx_iconst dX6_takes_87 (v := (-1)) (by decide) ?_
          refine gx_icmp_eq dX6_takes_88 (tgt := 97) (by decide) (fun hc4 => ?_) (fun hc4 => ?_)
          · have hc4 := (gs_sf_m1 (by omega)).mp hc4
            refine gx_iload dX6_takes_97 rfl ?_
            refine gx_istore_n dX6_takes_99 (by decide) rfl (L' := [some (.ref (A 6 0 0)), some (.int (nI g)), some (.int (nI q)), some (.int ((sm_tb σ g q).2)), some (.int (nI q)), some (.int (σ.2.1 115 (40 * g + q) 0))]) rfl ?_
            refine gx_iload dX6_takes_100 rfl ?_
            refine gx_istore_n dX6_takes_102 (by decide) rfl (L' := [some (.ref (A 6 0 0)), some (.int (nI g)), some (.int (nI q)), some (.int (σ.2.1 115 (40 * g + q) 0)), some (.int (nI q)), some (.int (σ.2.1 115 (40 * g + q) 0))]) rfl ?_
            refine gx_iinc dX6_takes_103 rfl (v := nI (q + 1)) (nI_1 _) (by decide) rfl (L' := [some (.ref (A 6 0 0)), some (.int (nI g)), some (.int (nI q)), some (.int (σ.2.1 115 (40 * g + q) 0)), some (.int (nI (q + 1))), some (.int (σ.2.1 115 (40 * g + q) 0))]) rfl ?_
            refine gx_goto dX6_takes_106 (tgt := 7) (by decide) ?_
            have e8 : sm_tt σ g q = σ.2.1 115 (40 * g + q) 0 := by simp [hc3]
            have e9 : sm_tb σ g (q + 1) = (q + 1, σ.2.1 115 (40 * g + q) 0) := by rw [sm_tb, if_pos ⟨hc1, hc2⟩, if_pos (Or.inl hc4), e8]
            have k := ih (q + 1) (some (.int (σ.2.1 115 (40 * g + q) 0))) (by omega)
            rw [e9] at k
            exact k
          · have hc4 := fun z => hc4 ((gs_sf_m1 (by omega)).mpr z)
            refine gx_iload dX6_takes_91 rfl ?_
            refine gx_iload_n dX6_takes_93 rfl ?_
            refine gx_icmp_ge dX6_takes_94 (tgt := 103) (by decide) (fun hc5 => ?_) (fun hc5 => ?_)
            · refine gx_iinc dX6_takes_103 rfl (v := nI (q + 1)) (nI_1 _) (by decide) rfl (L' := [some (.ref (A 6 0 0)), some (.int (nI g)), some (.int (gs_sf (sm_tb σ g q).1)), some (.int ((sm_tb σ g q).2)), some (.int (nI (q + 1))), some (.int (σ.2.1 115 (40 * g + q) 0))]) rfl ?_
              refine gx_goto dX6_takes_106 (tgt := 7) (by decide) ?_
              have e8 : sm_tt σ g q = σ.2.1 115 (40 * g + q) 0 := by simp [hc3]
              have e9 : sm_tb σ g (q + 1) = sm_tb σ g q := by rw [sm_tb, if_pos ⟨hc1, hc2⟩, if_neg (fun z => z.elim hc4 (fun z => Int32.not_lt.mpr hc5 (e8 ▸ z)))]
              have k := ih (q + 1) (some (.int (σ.2.1 115 (40 * g + q) 0))) (by omega)
              rw [e9] at k
              exact k
            · refine gx_iload dX6_takes_97 rfl ?_
              refine gx_istore_n dX6_takes_99 (by decide) rfl (L' := [some (.ref (A 6 0 0)), some (.int (nI g)), some (.int (nI q)), some (.int ((sm_tb σ g q).2)), some (.int (nI q)), some (.int (σ.2.1 115 (40 * g + q) 0))]) rfl ?_
              refine gx_iload dX6_takes_100 rfl ?_
              refine gx_istore_n dX6_takes_102 (by decide) rfl (L' := [some (.ref (A 6 0 0)), some (.int (nI g)), some (.int (nI q)), some (.int (σ.2.1 115 (40 * g + q) 0)), some (.int (nI q)), some (.int (σ.2.1 115 (40 * g + q) 0))]) rfl ?_
              refine gx_iinc dX6_takes_103 rfl (v := nI (q + 1)) (nI_1 _) (by decide) rfl (L' := [some (.ref (A 6 0 0)), some (.int (nI g)), some (.int (nI q)), some (.int (σ.2.1 115 (40 * g + q) 0)), some (.int (nI (q + 1))), some (.int (σ.2.1 115 (40 * g + q) 0))]) rfl ?_
              refine gx_goto dX6_takes_106 (tgt := 7) (by decide) ?_
              have e8 : sm_tt σ g q = σ.2.1 115 (40 * g + q) 0 := by simp [hc3]
              have e9 : sm_tb σ g (q + 1) = (q + 1, σ.2.1 115 (40 * g + q) 0) := by rw [sm_tb, if_pos ⟨hc1, hc2⟩, if_pos (Or.inr (e8 ▸ Int32.not_le.mp hc5)), e8]
              have k := ih (q + 1) (some (.int (σ.2.1 115 (40 * g + q) 0))) (by omega)
              rw [e9] at k
              exact k
set_option maxHeartbeats 4000000 in
theorem cc_X6_takes {S : gx_S} {h : gx_H} {σ : gs_T} {A : gs_A} (R : gs_R h σ A) (hm : σ.1 31 0 0 = 1) (V : gv_V σ) {g : Nat} (hg4 : g < 4) (hT : sm_tc σ g → σ.1 123 g 0 < 40) : gx_Cn S gm_X6_takes 3 [.ref (A 6 0 0), .int (nI g)] h (fun r h' => gs_R h' (sm_tks σ g) A ∧ gs_sm h h' ∧ r = some (.int (gs_bi (sm_tc σ g)))) := by
  refine gx_Cn.of gt_X6_takes (by simp [Value.category]) (Nat.le_of_ble_eq_true rfl) ?_
  show gx_Ev S gm_X6_takes 3 0 [some (.ref (A 6 0 0)), some (.int (nI g)), none, none, none, none] [] h _
  refine gx_iconst dX6_takes_0 (v := (-1)) (by decide) ?_
  refine gx_istore_n dX6_takes_1 (by decide) rfl (L' := [some (.ref (A 6 0 0)), some (.int (nI g)), some (.int (-1)), none, none, none]) rfl ?_
  refine gx_iconst dX6_takes_2 (v := 0) (by decide) ?_
  refine gx_istore_n dX6_takes_3 (by decide) rfl (L' := [some (.ref (A 6 0 0)), some (.int (nI g)), some (.int (-1)), some (.int 0), none, none]) rfl ?_
  refine gx_iconst dX6_takes_4 (v := 0) (by decide) ?_
  refine gx_istore dX6_takes_5 (by decide) rfl (L' := [some (.ref (A 6 0 0)), some (.int (nI g)), some (.int (-1)), some (.int 0), some (.int 0), none]) rfl ?_
  refine cl_tk R hm V hg4 (fun w5 => ?_) _ 0 _ (Nat.zero_add _)
  have hle := sm_tb_le σ g (σ.1 104 0 0)
  have hc40 := gv_cnt V
  generalize hL3 : (sm_tb σ g (σ.1 104 0 0)).2 = l3
  suffices hkk : ∀ x, (sm_tb σ g (σ.1 104 0 0)).1 = x → gx_Ev S gm_X6_takes 3 109 [some (.ref (A 6 0 0)), some (.int (nI g)), some (.int (gs_sf x)), some (.int l3), some (.int (nI (σ.1 104 0 0))), w5] [] h _ from hkk _ rfl
  intro x hX
  rw [hX] at hle
  rcases x with _ | b
  · show gx_Ev S gm_X6_takes 3 109 [some (.ref (A 6 0 0)), some (.int (nI g)), some (.int (-1)), some (.int l3), some (.int (nI (σ.1 104 0 0))), w5] [] _ _
    refine gx_iload_n dX6_takes_109 rfl ?_
    refine gx_iconst dX6_takes_110 (v := (-1)) (by decide) ?_
    refine gx_icmp_eq dX6_takes_111 (tgt := 127) (by decide) (fun hc1 => ?_) (fun hc1 => absurd hc1 (fun z => z rfl))
    refine gx_iconst dX6_takes_127 (v := 0) (by decide) ?_
    refine gx_ireturn dX6_takes_128 ?_
    exact ⟨⟨_, rfl, rfl⟩, by rw [sm_tks, if_neg (fun z => z.1 hX)]; exact R, gs_sm.rfl, congrArg (fun z => some (Value.int z)) (gs_bf (fun z => z.1 hX))⟩
  · show gx_Ev S gm_X6_takes 3 109 [some (.ref (A 6 0 0)), some (.int (nI g)), some (.int (nI b)), some (.int l3), some (.int (nI (σ.1 104 0 0))), w5] [] _ _
    refine gx_iload_n dX6_takes_109 rfl ?_
    refine gx_iconst dX6_takes_110 (v := (-1)) (by decide) ?_
    refine gx_icmp_eq dX6_takes_111 (tgt := 127) (by decide) (fun hc1 => absurd hc1 (fun z => absurd z (fun z => absurd ((gs_sf_m1 (x := b + 1) (by omega)).mp z) (by omega)))) (fun hc1 => ?_)
    refine gx_aload_n dX6_takes_114 rfl ?_
    refine gx_get dX6_takes_115 gf_X6_50 (gs_g6 R hm) (v := .ref (A 35 0 0)) (rfl) ?_
    refine gx_iload_n dX6_takes_118 rfl ?_
    refine gx_iload_n dX6_takes_119 rfl ?_
    refine gx_invS dX6_takes_120 wm_X6_105 gt_X6_at ws_X6_at (As := [.int (nI g), .int (nI b)]) (rest := [.ref (A 35 0 0)]) rfl rfl (Nat.le_of_ble_eq_true rfl) (by decide) (cc_X6_atE (g := g) (o := b) (rfl) (rfl)) (fun r1 h1 q1 => ?_)
    obtain ⟨rfl, rfl⟩ := q1
    show gx_Ev _ _ _ _ _ [.int (nI (40 * g + b)), .ref (A 35 0 0)] _ _
    refine gq_35 dX6_takes_123 R hm (q := 40 * g + b) (rfl) (by omega) (v := σ.2.1 115 (40 * g + b) 0) (rfl) ?_
    refine gx_if_ne dX6_takes_124 (tgt := 129) (by decide) (fun hc2 => ?_) (fun hc2 => ?_)
    · refine gx_aload_n dX6_takes_129 rfl ?_
      refine gx_get dX6_takes_130 gf_X6_53 (gs_g6 R hm) (v := .ref (A 36 0 0)) (rfl) ?_
      refine gx_iload_n dX6_takes_133 rfl ?_
      refine gx_iload_n dX6_takes_134 rfl ?_
      refine gx_invS dX6_takes_135 wm_X6_105 gt_X6_at ws_X6_at (As := [.int (nI g), .int (nI b)]) (rest := [.ref (A 36 0 0)]) rfl rfl (Nat.le_of_ble_eq_true rfl) (by decide) (cc_X6_atE (g := g) (o := b) (rfl) (rfl)) (fun r1 h1 q1 => ?_)
      obtain ⟨rfl, rfl⟩ := q1
      show gx_Ev _ _ _ _ _ [.int (nI (40 * g + b)), .ref (A 36 0 0)] _ _
      refine gx_iconst dX6_takes_138 (v := 1) (by decide) ?_
      refine ga_I116 (σ := σ) hm dX6_takes_139 R (by first | exact Or.inl rfl | exact Or.inr rfl) (q := 40 * g + b) (v := 1) (rfl) (by omega) (fun h R hs0 => ?_)
      refine gx_aload_n dX6_takes_140 rfl ?_
      refine gx_get dX6_takes_141 gf_X6_77 (gs_g6 R hm) (v := .ref (A 44 0 0)) (rfl) ?_
      refine gx_iload_n dX6_takes_144 rfl ?_
      refine gx_aload_n dX6_takes_145 rfl ?_
      refine gx_get dX6_takes_146 gf_X6_74 (gs_g6 R hm) (v := .ref (A 43 0 0)) (rfl) ?_
      refine gx_iload_n dX6_takes_149 rfl ?_
      refine gq_43 dX6_takes_150 R hm (q := g) (rfl) (by omega) (v := nI (σ.1 123 g 0)) (rfl) ?_
      refine gx_invS dX6_takes_151 wm_X6_105 gt_X6_at ws_X6_at (As := [.int (nI g), .int (nI (σ.1 123 g 0))]) (rest := [.ref (A 44 0 0)]) rfl rfl (Nat.le_of_ble_eq_true rfl) (by decide) (cc_X6_atE (g := g) (o := σ.1 123 g 0) (rfl) (rfl)) (fun r1 h1 q1 => ?_)
      obtain ⟨rfl, rfl⟩ := q1
      show gx_Ev _ _ _ _ _ [.int (nI (40 * g + (σ.1 123 g 0))), .ref (A 44 0 0)] _ _
      refine gx_iload_n dX6_takes_154 rfl ?_
      refine ga_N124 (σ := (gs_i σ 116 (40 * g + b) 0 1)) hm dX6_takes_155 R (rfl) (q := 40 * g + (σ.1 123 g 0)) (v := b) (rfl) (by have := hT (show sm_tc σ g from ⟨by rw [hX]; omega, by rw [hX]; exact hc2⟩); omega) (fun h R hs1 => ?_)
      refine gx_aload_n dX6_takes_156 rfl ?_
      refine gx_get dX6_takes_157 gf_X6_74 (gs_g6 R hm) (v := .ref (A 43 0 0)) (rfl) ?_
      refine gx_iload_n dX6_takes_160 rfl ?_
      refine gx_dup2 dX6_takes_161 rfl rfl ?_
      refine gq_43 dX6_takes_162 R hm (q := g) (rfl) (by omega) (v := nI (σ.1 123 g 0)) (rfl) ?_
      refine gx_iconst dX6_takes_163 (v := 1) (by decide) ?_
      refine gx_iadd dX6_takes_164 ?_
      rw [show ((nI (σ.1 123 g 0)) + 1 : Int32) = nI (σ.1 123 g 0 + 1) from nI_1 _]
      refine ga_N123 (σ := (gs_n (gs_i σ 116 (40 * g + b) 0 1) 124 (40 * g + (σ.1 123 g 0)) 0 b)) hm dX6_takes_165 R (rfl) (q := g) (v := σ.1 123 g 0 + 1) (rfl) (by omega) (fun h R hs2 => ?_)
      refine gx_iconst dX6_takes_166 (v := 1) (by decide) ?_
      refine gx_ireturn dX6_takes_167 ?_
      have hyes : sm_tc σ g := ⟨by rw [hX]; omega, by rw [hX]; exact hc2⟩
      exact ⟨⟨_, rfl, rfl⟩, by rw [sm_tks, if_pos hyes, hX]; exact R, (((gs_sm.rfl.trans hs0).trans hs1).trans hs2), congrArg (fun z => some (Value.int z)) (gs_bt hyes)⟩
    · refine gx_iconst dX6_takes_127 (v := 0) (by decide) ?_
      refine gx_ireturn dX6_takes_128 ?_
      exact ⟨⟨_, rfl, rfl⟩, by rw [sm_tks, if_neg (fun z => z.2 (by rw [hX]; exact hc2))]; exact R, gs_sm.rfl, congrArg (fun z => some (Value.int z)) (gs_bf (fun z => z.2 (by rw [hX]; exact hc2)))⟩
end
section
/-! the reference: workOut -/
def sm_wt (σ : gs_T) (g o : Nat) (va vb an : Int32) : gs_T :=
  let s1 := if σ.1 108 o 0 % σ.1 100 0 0 = g ∧ ¬ σ.2.1 106 o 0 = 0 then gs_i σ 103 (σ.1 108 o 0) 0 vb else σ
  let s2 := if σ.1 107 o 0 % σ.1 100 0 0 = g then gs_i s1 103 (σ.1 107 o 0) 0 va else s1
  let s3 := gs_i s2 118 (40 * g + o) 0 1
  if σ.2.1 111 o 0 = 0 then gs_i (gs_i (gs_i s3 111 o 0 1) 112 o 0 an) 113 (σ.1 105 o 0) 0 (gs_mg (σ.2.1 113 (σ.1 105 o 0) 0) (σ.2.1 115 (40 * g + o) 0)) else s3
set_option maxHeartbeats 4000000 in
theorem cl_wo_t {S : gx_S} {h : gx_H} {σ : gs_T} {A : gs_A} (R : gs_R h σ A) (hm : σ.1 31 0 0 = 1) (V : gv_V σ) {g o : Nat} (hg4 : g < 4) (ho : o < 40) (va vb an : Int32) (w8 : Option Value) : gx_Ev S gm_X6_workOut 3 235 [some (.ref (A 6 0 0)), some (.int (nI g)), some (.int (nI o)), some (.int (nI (σ.1 107 o 0))), some (.int (nI (σ.1 108 o 0))), some (.int va), some (.int vb), some (.int an), w8] [] h (fun r h' => gx_rt none r ∧ gs_R h' (sm_wt σ g o va vb an) A ∧ gs_sm h h' ∧ r = none) := by
  refine gx_iload dX6_workOut_235 rfl ?_
  refine gx_aload_n dX6_workOut_237 rfl ?_
  refine gx_get dX6_workOut_238 gf_X6_101 (gs_g6 R hm) (v := .int (nI (σ.1 100 0 0))) (rfl) ?_
  refine gx_irem dX6_workOut_241 (nI_ne0 (by have := gv_n2 V; omega) (by have := gv_n4 V; omega)) ?_
  rw [show ((nI (σ.1 108 o 0)) - (nI (σ.1 108 o 0)) / (nI (σ.1 100 0 0)) * (nI (σ.1 100 0 0)) : Int32) = nI (σ.1 108 o 0 % σ.1 100 0 0) from pk_rem (by have := gv_a V o; have := gv_bk V o; omega) (by have := gv_n2 V; omega) (by have := gv_n4 V; omega)]
  refine gx_iload_n dX6_workOut_242 rfl ?_
  refine gx_icmp_ne dX6_workOut_243 (tgt := 264) (by decide) (fun hb => ?_) (fun hb => ?_)
  · have hb : ¬ σ.1 108 o 0 % σ.1 100 0 0 = g := fun z => hb (congrArg nI z)
    refine gx_iload_n dX6_workOut_264 rfl ?_
    refine gx_aload_n dX6_workOut_265 rfl ?_
    refine gx_get dX6_workOut_266 gf_X6_101 (gs_g6 R hm) (v := .int (nI (σ.1 100 0 0))) (rfl) ?_
    refine gx_irem dX6_workOut_269 (nI_ne0 (by have := gv_n2 V; omega) (by have := gv_n4 V; omega)) ?_
    rw [show ((nI (σ.1 107 o 0)) - (nI (σ.1 107 o 0)) / (nI (σ.1 100 0 0)) * (nI (σ.1 100 0 0)) : Int32) = nI (σ.1 107 o 0 % σ.1 100 0 0) from pk_rem (by have := gv_a V o; have := gv_bk V o; omega) (by have := gv_n2 V; omega) (by have := gv_n4 V; omega)]
    refine gx_iload_n dX6_workOut_270 rfl ?_
    refine gx_icmp_ne dX6_workOut_271 (tgt := 282) (by decide) (fun ha => ?_) (fun ha => ?_)
    · have ha : ¬ σ.1 107 o 0 % σ.1 100 0 0 = g := fun z => ha (congrArg nI z)
      refine gx_aload_n dX6_workOut_282 rfl ?_
      refine gx_get dX6_workOut_283 gf_X6_59 (gs_g6 R hm) (v := .ref (A 38 0 0)) (rfl) ?_
      refine gx_iload_n dX6_workOut_286 rfl ?_
      refine gx_iload_n dX6_workOut_287 rfl ?_
      refine gx_invS dX6_workOut_288 wm_X6_105 gt_X6_at ws_X6_at (As := [.int (nI g), .int (nI o)]) (rest := [.ref (A 38 0 0)]) rfl rfl (Nat.le_of_ble_eq_true rfl) (by decide) (cc_X6_atE (g := g) (o := o) (rfl) (rfl)) (fun r1 h1 q1 => ?_)
      obtain ⟨rfl, rfl⟩ := q1
      show gx_Ev _ _ _ _ _ [.int (nI (40 * g + o)), .ref (A 38 0 0)] _ _
      refine gx_iconst dX6_workOut_291 (v := 1) (by decide) ?_
      refine ga_I118 (σ := σ) hm dX6_workOut_292 R (by first | exact Or.inl rfl | exact Or.inr rfl) (q := 40 * g + o) (v := 1) (rfl) (by first | omega | (have := gv_a V o; omega) | (have := gv_bk V o; omega) | (have := gv_cl V o; omega)) (fun h R hs0 => ?_)
      refine gx_aload_n dX6_workOut_293 rfl ?_
      refine gx_get dX6_workOut_294 gf_X6_38 (gs_g6 R hm) (v := .ref (A 31 0 0)) (rfl) ?_
      refine gx_iload_n dX6_workOut_297 rfl ?_
      refine gq_31 dX6_workOut_298 R hm (q := o) (rfl) (by first | omega | (have := gv_a V o; omega) | (have := gv_bk V o; omega) | (have := gv_cl V o; omega)) (v := σ.2.1 111 o 0) (rfl) ?_
      refine gx_if_ne dX6_workOut_299 (tgt := 372) (by decide) (fun hn => ?_) (fun hn => ?_)
      · refine gx_return dX6_workOut_372 ?_
        have hB : ¬ (σ.1 108 o 0 % σ.1 100 0 0 = g ∧ ¬ σ.2.1 106 o 0 = 0) := fun z => hb z.1
        exact ⟨rfl, by simp only [sm_wt]; rw [if_neg hB, if_neg ha, if_neg hn]; exact R, (gs_sm.rfl.trans hs0), rfl⟩
      · refine gx_aload_n dX6_workOut_302 rfl ?_
        refine gx_get dX6_workOut_303 gf_X6_38 (gs_g6 R hm) (v := .ref (A 31 0 0)) (rfl) ?_
        refine gx_iload_n dX6_workOut_306 rfl ?_
        refine gx_iconst dX6_workOut_307 (v := 1) (by decide) ?_
        refine ga_I111 (σ := (gs_i σ 118 (40 * g + o) 0 1)) hm dX6_workOut_308 R (by first | exact Or.inl rfl | exact Or.inr rfl) (q := o) (v := 1) (rfl) (by first | omega | (have := gv_a V o; omega) | (have := gv_bk V o; omega) | (have := gv_cl V o; omega)) (fun h R hs1 => ?_)
        refine gx_aload_n dX6_workOut_309 rfl ?_
        refine gx_get dX6_workOut_310 gf_X6_41 (gs_g6 R hm) (v := .ref (A 32 0 0)) (rfl) ?_
        refine gx_iload_n dX6_workOut_313 rfl ?_
        refine gx_iload dX6_workOut_314 rfl ?_
        refine ga_I112 (σ := (gs_i (gs_i σ 118 (40 * g + o) 0 1) 111 o 0 1)) hm dX6_workOut_316 R (q := o) (v := an) (rfl) (by first | omega | (have := gv_a V o; omega) | (have := gv_bk V o; omega) | (have := gv_cl V o; omega)) (fun h R hs2 => ?_)
        refine gx_aload_n dX6_workOut_317 rfl ?_
        refine gx_get dX6_workOut_318 gf_X6_20 (gs_g6 R hm) (v := .ref (A 25 0 0)) (rfl) ?_
        refine gx_iload_n dX6_workOut_321 rfl ?_
        refine gq_25 dX6_workOut_322 R hm (q := o) (rfl) (by first | omega | (have := gv_a V o; omega) | (have := gv_bk V o; omega) | (have := gv_cl V o; omega)) (v := nI (σ.1 105 o 0)) (rfl) ?_
        refine gx_istore dX6_workOut_323 (by decide) rfl (L' := [some (.ref (A 6 0 0)), some (.int (nI g)), some (.int (nI o)), some (.int (nI (σ.1 107 o 0))), some (.int (nI (σ.1 108 o 0))), some (.int va), some (.int vb), some (.int an), some (.int (nI (σ.1 105 o 0)))]) rfl ?_
        refine gx_aload_n dX6_workOut_325 rfl ?_
        refine gx_get dX6_workOut_326 gf_X6_44 (gs_g6 R hm) (v := .ref (A 33 0 0)) (rfl) ?_
        refine gx_iload dX6_workOut_329 rfl ?_
        refine gx_aload_n dX6_workOut_331 rfl ?_
        refine gx_get dX6_workOut_332 gf_X6_44 (gs_g6 R hm) (v := .ref (A 33 0 0)) (rfl) ?_
        refine gx_iload dX6_workOut_335 rfl ?_
        refine gq_33 dX6_workOut_337 R hm (q := σ.1 105 o 0) (rfl) (by first | omega | (have := gv_a V o; omega) | (have := gv_bk V o; omega) | (have := gv_cl V o; omega)) (v := σ.2.1 113 (σ.1 105 o 0) 0) (rfl) ?_
        refine gx_aload_n dX6_workOut_338 rfl ?_
        refine gx_get dX6_workOut_339 gf_X6_50 (gs_g6 R hm) (v := .ref (A 35 0 0)) (rfl) ?_
        refine gx_iload_n dX6_workOut_342 rfl ?_
        refine gx_iload_n dX6_workOut_343 rfl ?_
        refine gx_invS dX6_workOut_344 wm_X6_105 gt_X6_at ws_X6_at (As := [.int (nI g), .int (nI o)]) (rest := [.ref (A 35 0 0), .int (σ.2.1 113 (σ.1 105 o 0) 0), .int (nI (σ.1 105 o 0)), .ref (A 33 0 0)]) rfl rfl (Nat.le_of_ble_eq_true rfl) (by decide) (cc_X6_atE (g := g) (o := o) (rfl) (rfl)) (fun r1 h1 q1 => ?_)
        obtain ⟨rfl, rfl⟩ := q1
        show gx_Ev _ _ _ _ _ [.int (nI (40 * g + o)), .ref (A 35 0 0), .int (σ.2.1 113 (σ.1 105 o 0) 0), .int (nI (σ.1 105 o 0)), .ref (A 33 0 0)] _ _
        refine gq_35 dX6_workOut_347 R hm (q := 40 * g + o) (rfl) (by first | omega | (have := gv_a V o; omega) | (have := gv_bk V o; omega) | (have := gv_cl V o; omega)) (v := σ.2.1 115 (40 * g + o) 0) (rfl) ?_
        refine gx_icmp_ge dX6_workOut_348 (tgt := 364) (by decide) (fun ht => ?_) (fun ht => ?_)
        · refine gx_aload_n dX6_workOut_364 rfl ?_
          refine gx_get dX6_workOut_365 gf_X6_44 (gs_g6 R hm) (v := .ref (A 33 0 0)) (rfl) ?_
          refine gx_iload dX6_workOut_368 rfl ?_
          refine gq_33 dX6_workOut_370 R hm (q := σ.1 105 o 0) (rfl) (by first | omega | (have := gv_a V o; omega) | (have := gv_bk V o; omega) | (have := gv_cl V o; omega)) (v := σ.2.1 113 (σ.1 105 o 0) 0) (rfl) ?_
          refine ga_I113 (σ := (gs_i (gs_i (gs_i σ 118 (40 * g + o) 0 1) 111 o 0 1) 112 o 0 an)) hm dX6_workOut_371 R (q := σ.1 105 o 0) (v := σ.2.1 113 (σ.1 105 o 0) 0) (rfl) (by first | omega | (have := gv_a V o; omega) | (have := gv_bk V o; omega) | (have := gv_cl V o; omega)) (fun h R hs3 => ?_)
          refine gx_return dX6_workOut_372 ?_
          have hB : ¬ (σ.1 108 o 0 % σ.1 100 0 0 = g ∧ ¬ σ.2.1 106 o 0 = 0) := fun z => hb z.1
          have e8 : gs_mg (σ.2.1 113 (σ.1 105 o 0) 0) (σ.2.1 115 (40 * g + o) 0) = σ.2.1 113 (σ.1 105 o 0) 0 := by simp [gs_mg, ht]
          exact ⟨rfl, by simp only [sm_wt]; rw [if_neg hB, if_neg ha, if_pos hn, e8]; exact R, ((((gs_sm.rfl.trans hs0).trans hs1).trans hs2).trans hs3), rfl⟩
        · refine gx_aload_n dX6_workOut_351 rfl ?_
          refine gx_get dX6_workOut_352 gf_X6_50 (gs_g6 R hm) (v := .ref (A 35 0 0)) (rfl) ?_
          refine gx_iload_n dX6_workOut_355 rfl ?_
          refine gx_iload_n dX6_workOut_356 rfl ?_
          refine gx_invS dX6_workOut_357 wm_X6_105 gt_X6_at ws_X6_at (As := [.int (nI g), .int (nI o)]) (rest := [.ref (A 35 0 0), .int (nI (σ.1 105 o 0)), .ref (A 33 0 0)]) rfl rfl (Nat.le_of_ble_eq_true rfl) (by decide) (cc_X6_atE (g := g) (o := o) (rfl) (rfl)) (fun r1 h1 q1 => ?_)
          obtain ⟨rfl, rfl⟩ := q1
          show gx_Ev _ _ _ _ _ [.int (nI (40 * g + o)), .ref (A 35 0 0), .int (nI (σ.1 105 o 0)), .ref (A 33 0 0)] _ _
          refine gq_35 dX6_workOut_360 R hm (q := 40 * g + o) (rfl) (by first | omega | (have := gv_a V o; omega) | (have := gv_bk V o; omega) | (have := gv_cl V o; omega)) (v := σ.2.1 115 (40 * g + o) 0) (rfl) ?_
          refine gx_goto dX6_workOut_361 (tgt := 371) (by decide) ?_
          refine ga_I113 (σ := (gs_i (gs_i (gs_i σ 118 (40 * g + o) 0 1) 111 o 0 1) 112 o 0 an)) hm dX6_workOut_371 R (q := σ.1 105 o 0) (v := σ.2.1 115 (40 * g + o) 0) (rfl) (by first | omega | (have := gv_a V o; omega) | (have := gv_bk V o; omega) | (have := gv_cl V o; omega)) (fun h R hs3 => ?_)
          refine gx_return dX6_workOut_372 ?_
          have hB : ¬ (σ.1 108 o 0 % σ.1 100 0 0 = g ∧ ¬ σ.2.1 106 o 0 = 0) := fun z => hb z.1
          have e8 : gs_mg (σ.2.1 113 (σ.1 105 o 0) 0) (σ.2.1 115 (40 * g + o) 0) = σ.2.1 115 (40 * g + o) 0 := by simp [gs_mg, ht]
          exact ⟨rfl, by simp only [sm_wt]; rw [if_neg hB, if_neg ha, if_pos hn, e8]; exact R, ((((gs_sm.rfl.trans hs0).trans hs1).trans hs2).trans hs3), rfl⟩
    · have ha := (nI_eq (by have := gv_n2 V; have := gv_n4 V; have := Nat.mod_lt (σ.1 107 o 0) (show 0 < σ.1 100 0 0 by omega); omega) (by omega)).mp ha
      refine gx_aload_n dX6_workOut_274 rfl ?_
      refine gx_get dX6_workOut_275 gf_X6_17 (gs_g6 R hm) (v := .ref (A 23 0 0)) (rfl) ?_
      refine gx_iload_n dX6_workOut_278 rfl ?_
      refine gx_iload dX6_workOut_279 rfl ?_
      refine ga_I103 (σ := σ) hm dX6_workOut_281 R (q := σ.1 107 o 0) (v := va) (rfl) (by first | omega | (have := gv_a V o; omega) | (have := gv_bk V o; omega) | (have := gv_cl V o; omega)) (fun h R hs0 => ?_)
      refine gx_aload_n dX6_workOut_282 rfl ?_
      refine gx_get dX6_workOut_283 gf_X6_59 (gs_g6 R hm) (v := .ref (A 38 0 0)) (rfl) ?_
      refine gx_iload_n dX6_workOut_286 rfl ?_
      refine gx_iload_n dX6_workOut_287 rfl ?_
      refine gx_invS dX6_workOut_288 wm_X6_105 gt_X6_at ws_X6_at (As := [.int (nI g), .int (nI o)]) (rest := [.ref (A 38 0 0)]) rfl rfl (Nat.le_of_ble_eq_true rfl) (by decide) (cc_X6_atE (g := g) (o := o) (rfl) (rfl)) (fun r1 h1 q1 => ?_)
      obtain ⟨rfl, rfl⟩ := q1
      show gx_Ev _ _ _ _ _ [.int (nI (40 * g + o)), .ref (A 38 0 0)] _ _
      refine gx_iconst dX6_workOut_291 (v := 1) (by decide) ?_
      refine ga_I118 (σ := (gs_i σ 103 (σ.1 107 o 0) 0 va)) hm dX6_workOut_292 R (by first | exact Or.inl rfl | exact Or.inr rfl) (q := 40 * g + o) (v := 1) (rfl) (by first | omega | (have := gv_a V o; omega) | (have := gv_bk V o; omega) | (have := gv_cl V o; omega)) (fun h R hs1 => ?_)
      refine gx_aload_n dX6_workOut_293 rfl ?_
      refine gx_get dX6_workOut_294 gf_X6_38 (gs_g6 R hm) (v := .ref (A 31 0 0)) (rfl) ?_
      refine gx_iload_n dX6_workOut_297 rfl ?_
      refine gq_31 dX6_workOut_298 R hm (q := o) (rfl) (by first | omega | (have := gv_a V o; omega) | (have := gv_bk V o; omega) | (have := gv_cl V o; omega)) (v := σ.2.1 111 o 0) (rfl) ?_
      refine gx_if_ne dX6_workOut_299 (tgt := 372) (by decide) (fun hn => ?_) (fun hn => ?_)
      · refine gx_return dX6_workOut_372 ?_
        have hB : ¬ (σ.1 108 o 0 % σ.1 100 0 0 = g ∧ ¬ σ.2.1 106 o 0 = 0) := fun z => hb z.1
        exact ⟨rfl, by simp only [sm_wt]; rw [if_neg hB, if_pos ha, if_neg hn]; exact R, ((gs_sm.rfl.trans hs0).trans hs1), rfl⟩
      · refine gx_aload_n dX6_workOut_302 rfl ?_
        refine gx_get dX6_workOut_303 gf_X6_38 (gs_g6 R hm) (v := .ref (A 31 0 0)) (rfl) ?_
        refine gx_iload_n dX6_workOut_306 rfl ?_
        refine gx_iconst dX6_workOut_307 (v := 1) (by decide) ?_
        refine ga_I111 (σ := (gs_i (gs_i σ 103 (σ.1 107 o 0) 0 va) 118 (40 * g + o) 0 1)) hm dX6_workOut_308 R (by first | exact Or.inl rfl | exact Or.inr rfl) (q := o) (v := 1) (rfl) (by first | omega | (have := gv_a V o; omega) | (have := gv_bk V o; omega) | (have := gv_cl V o; omega)) (fun h R hs2 => ?_)
        refine gx_aload_n dX6_workOut_309 rfl ?_
        refine gx_get dX6_workOut_310 gf_X6_41 (gs_g6 R hm) (v := .ref (A 32 0 0)) (rfl) ?_
        refine gx_iload_n dX6_workOut_313 rfl ?_
        refine gx_iload dX6_workOut_314 rfl ?_
        refine ga_I112 (σ := (gs_i (gs_i (gs_i σ 103 (σ.1 107 o 0) 0 va) 118 (40 * g + o) 0 1) 111 o 0 1)) hm dX6_workOut_316 R (q := o) (v := an) (rfl) (by first | omega | (have := gv_a V o; omega) | (have := gv_bk V o; omega) | (have := gv_cl V o; omega)) (fun h R hs3 => ?_)
        refine gx_aload_n dX6_workOut_317 rfl ?_
        refine gx_get dX6_workOut_318 gf_X6_20 (gs_g6 R hm) (v := .ref (A 25 0 0)) (rfl) ?_
        refine gx_iload_n dX6_workOut_321 rfl ?_
        refine gq_25 dX6_workOut_322 R hm (q := o) (rfl) (by first | omega | (have := gv_a V o; omega) | (have := gv_bk V o; omega) | (have := gv_cl V o; omega)) (v := nI (σ.1 105 o 0)) (rfl) ?_
        refine gx_istore dX6_workOut_323 (by decide) rfl (L' := [some (.ref (A 6 0 0)), some (.int (nI g)), some (.int (nI o)), some (.int (nI (σ.1 107 o 0))), some (.int (nI (σ.1 108 o 0))), some (.int va), some (.int vb), some (.int an), some (.int (nI (σ.1 105 o 0)))]) rfl ?_
        refine gx_aload_n dX6_workOut_325 rfl ?_
        refine gx_get dX6_workOut_326 gf_X6_44 (gs_g6 R hm) (v := .ref (A 33 0 0)) (rfl) ?_
        refine gx_iload dX6_workOut_329 rfl ?_
        refine gx_aload_n dX6_workOut_331 rfl ?_
        refine gx_get dX6_workOut_332 gf_X6_44 (gs_g6 R hm) (v := .ref (A 33 0 0)) (rfl) ?_
        refine gx_iload dX6_workOut_335 rfl ?_
        refine gq_33 dX6_workOut_337 R hm (q := σ.1 105 o 0) (rfl) (by first | omega | (have := gv_a V o; omega) | (have := gv_bk V o; omega) | (have := gv_cl V o; omega)) (v := σ.2.1 113 (σ.1 105 o 0) 0) (rfl) ?_
        refine gx_aload_n dX6_workOut_338 rfl ?_
        refine gx_get dX6_workOut_339 gf_X6_50 (gs_g6 R hm) (v := .ref (A 35 0 0)) (rfl) ?_
        refine gx_iload_n dX6_workOut_342 rfl ?_
        refine gx_iload_n dX6_workOut_343 rfl ?_
        refine gx_invS dX6_workOut_344 wm_X6_105 gt_X6_at ws_X6_at (As := [.int (nI g), .int (nI o)]) (rest := [.ref (A 35 0 0), .int (σ.2.1 113 (σ.1 105 o 0) 0), .int (nI (σ.1 105 o 0)), .ref (A 33 0 0)]) rfl rfl (Nat.le_of_ble_eq_true rfl) (by decide) (cc_X6_atE (g := g) (o := o) (rfl) (rfl)) (fun r1 h1 q1 => ?_)
        obtain ⟨rfl, rfl⟩ := q1
        show gx_Ev _ _ _ _ _ [.int (nI (40 * g + o)), .ref (A 35 0 0), .int (σ.2.1 113 (σ.1 105 o 0) 0), .int (nI (σ.1 105 o 0)), .ref (A 33 0 0)] _ _
        refine gq_35 dX6_workOut_347 R hm (q := 40 * g + o) (rfl) (by first | omega | (have := gv_a V o; omega) | (have := gv_bk V o; omega) | (have := gv_cl V o; omega)) (v := σ.2.1 115 (40 * g + o) 0) (rfl) ?_
        refine gx_icmp_ge dX6_workOut_348 (tgt := 364) (by decide) (fun ht => ?_) (fun ht => ?_)
        · refine gx_aload_n dX6_workOut_364 rfl ?_
          refine gx_get dX6_workOut_365 gf_X6_44 (gs_g6 R hm) (v := .ref (A 33 0 0)) (rfl) ?_
          refine gx_iload dX6_workOut_368 rfl ?_
          refine gq_33 dX6_workOut_370 R hm (q := σ.1 105 o 0) (rfl) (by first | omega | (have := gv_a V o; omega) | (have := gv_bk V o; omega) | (have := gv_cl V o; omega)) (v := σ.2.1 113 (σ.1 105 o 0) 0) (rfl) ?_
          refine ga_I113 (σ := (gs_i (gs_i (gs_i (gs_i σ 103 (σ.1 107 o 0) 0 va) 118 (40 * g + o) 0 1) 111 o 0 1) 112 o 0 an)) hm dX6_workOut_371 R (q := σ.1 105 o 0) (v := σ.2.1 113 (σ.1 105 o 0) 0) (rfl) (by first | omega | (have := gv_a V o; omega) | (have := gv_bk V o; omega) | (have := gv_cl V o; omega)) (fun h R hs4 => ?_)
          refine gx_return dX6_workOut_372 ?_
          have hB : ¬ (σ.1 108 o 0 % σ.1 100 0 0 = g ∧ ¬ σ.2.1 106 o 0 = 0) := fun z => hb z.1
          have e8 : gs_mg (σ.2.1 113 (σ.1 105 o 0) 0) (σ.2.1 115 (40 * g + o) 0) = σ.2.1 113 (σ.1 105 o 0) 0 := by simp [gs_mg, ht]
          exact ⟨rfl, by simp only [sm_wt]; rw [if_neg hB, if_pos ha, if_pos hn, e8]; exact R, (((((gs_sm.rfl.trans hs0).trans hs1).trans hs2).trans hs3).trans hs4), rfl⟩
        · refine gx_aload_n dX6_workOut_351 rfl ?_
          refine gx_get dX6_workOut_352 gf_X6_50 (gs_g6 R hm) (v := .ref (A 35 0 0)) (rfl) ?_
          refine gx_iload_n dX6_workOut_355 rfl ?_
          refine gx_iload_n dX6_workOut_356 rfl ?_
          refine gx_invS dX6_workOut_357 wm_X6_105 gt_X6_at ws_X6_at (As := [.int (nI g), .int (nI o)]) (rest := [.ref (A 35 0 0), .int (nI (σ.1 105 o 0)), .ref (A 33 0 0)]) rfl rfl (Nat.le_of_ble_eq_true rfl) (by decide) (cc_X6_atE (g := g) (o := o) (rfl) (rfl)) (fun r1 h1 q1 => ?_)
          obtain ⟨rfl, rfl⟩ := q1
          show gx_Ev _ _ _ _ _ [.int (nI (40 * g + o)), .ref (A 35 0 0), .int (nI (σ.1 105 o 0)), .ref (A 33 0 0)] _ _
          refine gq_35 dX6_workOut_360 R hm (q := 40 * g + o) (rfl) (by first | omega | (have := gv_a V o; omega) | (have := gv_bk V o; omega) | (have := gv_cl V o; omega)) (v := σ.2.1 115 (40 * g + o) 0) (rfl) ?_
          refine gx_goto dX6_workOut_361 (tgt := 371) (by decide) ?_
          refine ga_I113 (σ := (gs_i (gs_i (gs_i (gs_i σ 103 (σ.1 107 o 0) 0 va) 118 (40 * g + o) 0 1) 111 o 0 1) 112 o 0 an)) hm dX6_workOut_371 R (q := σ.1 105 o 0) (v := σ.2.1 115 (40 * g + o) 0) (rfl) (by first | omega | (have := gv_a V o; omega) | (have := gv_bk V o; omega) | (have := gv_cl V o; omega)) (fun h R hs4 => ?_)
          refine gx_return dX6_workOut_372 ?_
          have hB : ¬ (σ.1 108 o 0 % σ.1 100 0 0 = g ∧ ¬ σ.2.1 106 o 0 = 0) := fun z => hb z.1
          have e8 : gs_mg (σ.2.1 113 (σ.1 105 o 0) 0) (σ.2.1 115 (40 * g + o) 0) = σ.2.1 115 (40 * g + o) 0 := by simp [gs_mg, ht]
          exact ⟨rfl, by simp only [sm_wt]; rw [if_neg hB, if_pos ha, if_pos hn, e8]; exact R, (((((gs_sm.rfl.trans hs0).trans hs1).trans hs2).trans hs3).trans hs4), rfl⟩
  · have hb := (nI_eq (by have := gv_n2 V; have := gv_n4 V; have := Nat.mod_lt (σ.1 108 o 0) (show 0 < σ.1 100 0 0 by omega); omega) (by omega)).mp hb
    refine gx_aload_n dX6_workOut_246 rfl ?_
    refine gx_get dX6_workOut_247 gf_X6_23 (gs_g6 R hm) (v := .ref (A 26 0 0)) (rfl) ?_
    refine gx_iload_n dX6_workOut_250 rfl ?_
    refine gq_26 dX6_workOut_251 R hm (q := o) (rfl) (by first | omega | (have := gv_a V o; omega) | (have := gv_bk V o; omega) | (have := gv_cl V o; omega)) (v := σ.2.1 106 o 0) (rfl) ?_
    refine gx_if_eq dX6_workOut_252 (tgt := 264) (by decide) (fun hk => ?_) (fun hk => ?_)
    · refine gx_iload_n dX6_workOut_264 rfl ?_
      refine gx_aload_n dX6_workOut_265 rfl ?_
      refine gx_get dX6_workOut_266 gf_X6_101 (gs_g6 R hm) (v := .int (nI (σ.1 100 0 0))) (rfl) ?_
      refine gx_irem dX6_workOut_269 (nI_ne0 (by have := gv_n2 V; omega) (by have := gv_n4 V; omega)) ?_
      rw [show ((nI (σ.1 107 o 0)) - (nI (σ.1 107 o 0)) / (nI (σ.1 100 0 0)) * (nI (σ.1 100 0 0)) : Int32) = nI (σ.1 107 o 0 % σ.1 100 0 0) from pk_rem (by have := gv_a V o; have := gv_bk V o; omega) (by have := gv_n2 V; omega) (by have := gv_n4 V; omega)]
      refine gx_iload_n dX6_workOut_270 rfl ?_
      refine gx_icmp_ne dX6_workOut_271 (tgt := 282) (by decide) (fun ha => ?_) (fun ha => ?_)
      · have ha : ¬ σ.1 107 o 0 % σ.1 100 0 0 = g := fun z => ha (congrArg nI z)
        refine gx_aload_n dX6_workOut_282 rfl ?_
        refine gx_get dX6_workOut_283 gf_X6_59 (gs_g6 R hm) (v := .ref (A 38 0 0)) (rfl) ?_
        refine gx_iload_n dX6_workOut_286 rfl ?_
        refine gx_iload_n dX6_workOut_287 rfl ?_
        refine gx_invS dX6_workOut_288 wm_X6_105 gt_X6_at ws_X6_at (As := [.int (nI g), .int (nI o)]) (rest := [.ref (A 38 0 0)]) rfl rfl (Nat.le_of_ble_eq_true rfl) (by decide) (cc_X6_atE (g := g) (o := o) (rfl) (rfl)) (fun r1 h1 q1 => ?_)
        obtain ⟨rfl, rfl⟩ := q1
        show gx_Ev _ _ _ _ _ [.int (nI (40 * g + o)), .ref (A 38 0 0)] _ _
        refine gx_iconst dX6_workOut_291 (v := 1) (by decide) ?_
        refine ga_I118 (σ := σ) hm dX6_workOut_292 R (by first | exact Or.inl rfl | exact Or.inr rfl) (q := 40 * g + o) (v := 1) (rfl) (by first | omega | (have := gv_a V o; omega) | (have := gv_bk V o; omega) | (have := gv_cl V o; omega)) (fun h R hs0 => ?_)
        refine gx_aload_n dX6_workOut_293 rfl ?_
        refine gx_get dX6_workOut_294 gf_X6_38 (gs_g6 R hm) (v := .ref (A 31 0 0)) (rfl) ?_
        refine gx_iload_n dX6_workOut_297 rfl ?_
        refine gq_31 dX6_workOut_298 R hm (q := o) (rfl) (by first | omega | (have := gv_a V o; omega) | (have := gv_bk V o; omega) | (have := gv_cl V o; omega)) (v := σ.2.1 111 o 0) (rfl) ?_
        refine gx_if_ne dX6_workOut_299 (tgt := 372) (by decide) (fun hn => ?_) (fun hn => ?_)
        · refine gx_return dX6_workOut_372 ?_
          have hB : ¬ (σ.1 108 o 0 % σ.1 100 0 0 = g ∧ ¬ σ.2.1 106 o 0 = 0) := fun z => z.2 hk
          exact ⟨rfl, by simp only [sm_wt]; rw [if_neg hB, if_neg ha, if_neg hn]; exact R, (gs_sm.rfl.trans hs0), rfl⟩
        · refine gx_aload_n dX6_workOut_302 rfl ?_
          refine gx_get dX6_workOut_303 gf_X6_38 (gs_g6 R hm) (v := .ref (A 31 0 0)) (rfl) ?_
          refine gx_iload_n dX6_workOut_306 rfl ?_
          refine gx_iconst dX6_workOut_307 (v := 1) (by decide) ?_
          refine ga_I111 (σ := (gs_i σ 118 (40 * g + o) 0 1)) hm dX6_workOut_308 R (by first | exact Or.inl rfl | exact Or.inr rfl) (q := o) (v := 1) (rfl) (by first | omega | (have := gv_a V o; omega) | (have := gv_bk V o; omega) | (have := gv_cl V o; omega)) (fun h R hs1 => ?_)
          refine gx_aload_n dX6_workOut_309 rfl ?_
          refine gx_get dX6_workOut_310 gf_X6_41 (gs_g6 R hm) (v := .ref (A 32 0 0)) (rfl) ?_
          refine gx_iload_n dX6_workOut_313 rfl ?_
          refine gx_iload dX6_workOut_314 rfl ?_
          refine ga_I112 (σ := (gs_i (gs_i σ 118 (40 * g + o) 0 1) 111 o 0 1)) hm dX6_workOut_316 R (q := o) (v := an) (rfl) (by first | omega | (have := gv_a V o; omega) | (have := gv_bk V o; omega) | (have := gv_cl V o; omega)) (fun h R hs2 => ?_)
          refine gx_aload_n dX6_workOut_317 rfl ?_
          refine gx_get dX6_workOut_318 gf_X6_20 (gs_g6 R hm) (v := .ref (A 25 0 0)) (rfl) ?_
          refine gx_iload_n dX6_workOut_321 rfl ?_
          refine gq_25 dX6_workOut_322 R hm (q := o) (rfl) (by first | omega | (have := gv_a V o; omega) | (have := gv_bk V o; omega) | (have := gv_cl V o; omega)) (v := nI (σ.1 105 o 0)) (rfl) ?_
          refine gx_istore dX6_workOut_323 (by decide) rfl (L' := [some (.ref (A 6 0 0)), some (.int (nI g)), some (.int (nI o)), some (.int (nI (σ.1 107 o 0))), some (.int (nI (σ.1 108 o 0))), some (.int va), some (.int vb), some (.int an), some (.int (nI (σ.1 105 o 0)))]) rfl ?_
          refine gx_aload_n dX6_workOut_325 rfl ?_
          refine gx_get dX6_workOut_326 gf_X6_44 (gs_g6 R hm) (v := .ref (A 33 0 0)) (rfl) ?_
          refine gx_iload dX6_workOut_329 rfl ?_
          refine gx_aload_n dX6_workOut_331 rfl ?_
          refine gx_get dX6_workOut_332 gf_X6_44 (gs_g6 R hm) (v := .ref (A 33 0 0)) (rfl) ?_
          refine gx_iload dX6_workOut_335 rfl ?_
          refine gq_33 dX6_workOut_337 R hm (q := σ.1 105 o 0) (rfl) (by first | omega | (have := gv_a V o; omega) | (have := gv_bk V o; omega) | (have := gv_cl V o; omega)) (v := σ.2.1 113 (σ.1 105 o 0) 0) (rfl) ?_
          refine gx_aload_n dX6_workOut_338 rfl ?_
          refine gx_get dX6_workOut_339 gf_X6_50 (gs_g6 R hm) (v := .ref (A 35 0 0)) (rfl) ?_
          refine gx_iload_n dX6_workOut_342 rfl ?_
          refine gx_iload_n dX6_workOut_343 rfl ?_
          refine gx_invS dX6_workOut_344 wm_X6_105 gt_X6_at ws_X6_at (As := [.int (nI g), .int (nI o)]) (rest := [.ref (A 35 0 0), .int (σ.2.1 113 (σ.1 105 o 0) 0), .int (nI (σ.1 105 o 0)), .ref (A 33 0 0)]) rfl rfl (Nat.le_of_ble_eq_true rfl) (by decide) (cc_X6_atE (g := g) (o := o) (rfl) (rfl)) (fun r1 h1 q1 => ?_)
          obtain ⟨rfl, rfl⟩ := q1
          show gx_Ev _ _ _ _ _ [.int (nI (40 * g + o)), .ref (A 35 0 0), .int (σ.2.1 113 (σ.1 105 o 0) 0), .int (nI (σ.1 105 o 0)), .ref (A 33 0 0)] _ _
          refine gq_35 dX6_workOut_347 R hm (q := 40 * g + o) (rfl) (by first | omega | (have := gv_a V o; omega) | (have := gv_bk V o; omega) | (have := gv_cl V o; omega)) (v := σ.2.1 115 (40 * g + o) 0) (rfl) ?_
          refine gx_icmp_ge dX6_workOut_348 (tgt := 364) (by decide) (fun ht => ?_) (fun ht => ?_)
          · refine gx_aload_n dX6_workOut_364 rfl ?_
            refine gx_get dX6_workOut_365 gf_X6_44 (gs_g6 R hm) (v := .ref (A 33 0 0)) (rfl) ?_
            refine gx_iload dX6_workOut_368 rfl ?_
            refine gq_33 dX6_workOut_370 R hm (q := σ.1 105 o 0) (rfl) (by first | omega | (have := gv_a V o; omega) | (have := gv_bk V o; omega) | (have := gv_cl V o; omega)) (v := σ.2.1 113 (σ.1 105 o 0) 0) (rfl) ?_
            refine ga_I113 (σ := (gs_i (gs_i (gs_i σ 118 (40 * g + o) 0 1) 111 o 0 1) 112 o 0 an)) hm dX6_workOut_371 R (q := σ.1 105 o 0) (v := σ.2.1 113 (σ.1 105 o 0) 0) (rfl) (by first | omega | (have := gv_a V o; omega) | (have := gv_bk V o; omega) | (have := gv_cl V o; omega)) (fun h R hs3 => ?_)
            refine gx_return dX6_workOut_372 ?_
            have hB : ¬ (σ.1 108 o 0 % σ.1 100 0 0 = g ∧ ¬ σ.2.1 106 o 0 = 0) := fun z => z.2 hk
            have e8 : gs_mg (σ.2.1 113 (σ.1 105 o 0) 0) (σ.2.1 115 (40 * g + o) 0) = σ.2.1 113 (σ.1 105 o 0) 0 := by simp [gs_mg, ht]
            exact ⟨rfl, by simp only [sm_wt]; rw [if_neg hB, if_neg ha, if_pos hn, e8]; exact R, ((((gs_sm.rfl.trans hs0).trans hs1).trans hs2).trans hs3), rfl⟩
          · refine gx_aload_n dX6_workOut_351 rfl ?_
            refine gx_get dX6_workOut_352 gf_X6_50 (gs_g6 R hm) (v := .ref (A 35 0 0)) (rfl) ?_
            refine gx_iload_n dX6_workOut_355 rfl ?_
            refine gx_iload_n dX6_workOut_356 rfl ?_
            refine gx_invS dX6_workOut_357 wm_X6_105 gt_X6_at ws_X6_at (As := [.int (nI g), .int (nI o)]) (rest := [.ref (A 35 0 0), .int (nI (σ.1 105 o 0)), .ref (A 33 0 0)]) rfl rfl (Nat.le_of_ble_eq_true rfl) (by decide) (cc_X6_atE (g := g) (o := o) (rfl) (rfl)) (fun r1 h1 q1 => ?_)
            obtain ⟨rfl, rfl⟩ := q1
            show gx_Ev _ _ _ _ _ [.int (nI (40 * g + o)), .ref (A 35 0 0), .int (nI (σ.1 105 o 0)), .ref (A 33 0 0)] _ _
            refine gq_35 dX6_workOut_360 R hm (q := 40 * g + o) (rfl) (by first | omega | (have := gv_a V o; omega) | (have := gv_bk V o; omega) | (have := gv_cl V o; omega)) (v := σ.2.1 115 (40 * g + o) 0) (rfl) ?_
            refine gx_goto dX6_workOut_361 (tgt := 371) (by decide) ?_
            refine ga_I113 (σ := (gs_i (gs_i (gs_i σ 118 (40 * g + o) 0 1) 111 o 0 1) 112 o 0 an)) hm dX6_workOut_371 R (q := σ.1 105 o 0) (v := σ.2.1 115 (40 * g + o) 0) (rfl) (by first | omega | (have := gv_a V o; omega) | (have := gv_bk V o; omega) | (have := gv_cl V o; omega)) (fun h R hs3 => ?_)
            refine gx_return dX6_workOut_372 ?_
            have hB : ¬ (σ.1 108 o 0 % σ.1 100 0 0 = g ∧ ¬ σ.2.1 106 o 0 = 0) := fun z => z.2 hk
            have e8 : gs_mg (σ.2.1 113 (σ.1 105 o 0) 0) (σ.2.1 115 (40 * g + o) 0) = σ.2.1 115 (40 * g + o) 0 := by simp [gs_mg, ht]
            exact ⟨rfl, by simp only [sm_wt]; rw [if_neg hB, if_neg ha, if_pos hn, e8]; exact R, ((((gs_sm.rfl.trans hs0).trans hs1).trans hs2).trans hs3), rfl⟩
      · have ha := (nI_eq (by have := gv_n2 V; have := gv_n4 V; have := Nat.mod_lt (σ.1 107 o 0) (show 0 < σ.1 100 0 0 by omega); omega) (by omega)).mp ha
        refine gx_aload_n dX6_workOut_274 rfl ?_
        refine gx_get dX6_workOut_275 gf_X6_17 (gs_g6 R hm) (v := .ref (A 23 0 0)) (rfl) ?_
        refine gx_iload_n dX6_workOut_278 rfl ?_
        refine gx_iload dX6_workOut_279 rfl ?_
        refine ga_I103 (σ := σ) hm dX6_workOut_281 R (q := σ.1 107 o 0) (v := va) (rfl) (by first | omega | (have := gv_a V o; omega) | (have := gv_bk V o; omega) | (have := gv_cl V o; omega)) (fun h R hs0 => ?_)
        refine gx_aload_n dX6_workOut_282 rfl ?_
        refine gx_get dX6_workOut_283 gf_X6_59 (gs_g6 R hm) (v := .ref (A 38 0 0)) (rfl) ?_
        refine gx_iload_n dX6_workOut_286 rfl ?_
        refine gx_iload_n dX6_workOut_287 rfl ?_
        refine gx_invS dX6_workOut_288 wm_X6_105 gt_X6_at ws_X6_at (As := [.int (nI g), .int (nI o)]) (rest := [.ref (A 38 0 0)]) rfl rfl (Nat.le_of_ble_eq_true rfl) (by decide) (cc_X6_atE (g := g) (o := o) (rfl) (rfl)) (fun r1 h1 q1 => ?_)
        obtain ⟨rfl, rfl⟩ := q1
        show gx_Ev _ _ _ _ _ [.int (nI (40 * g + o)), .ref (A 38 0 0)] _ _
        refine gx_iconst dX6_workOut_291 (v := 1) (by decide) ?_
        refine ga_I118 (σ := (gs_i σ 103 (σ.1 107 o 0) 0 va)) hm dX6_workOut_292 R (by first | exact Or.inl rfl | exact Or.inr rfl) (q := 40 * g + o) (v := 1) (rfl) (by first | omega | (have := gv_a V o; omega) | (have := gv_bk V o; omega) | (have := gv_cl V o; omega)) (fun h R hs1 => ?_)
        refine gx_aload_n dX6_workOut_293 rfl ?_
        refine gx_get dX6_workOut_294 gf_X6_38 (gs_g6 R hm) (v := .ref (A 31 0 0)) (rfl) ?_
        refine gx_iload_n dX6_workOut_297 rfl ?_
        refine gq_31 dX6_workOut_298 R hm (q := o) (rfl) (by first | omega | (have := gv_a V o; omega) | (have := gv_bk V o; omega) | (have := gv_cl V o; omega)) (v := σ.2.1 111 o 0) (rfl) ?_
        refine gx_if_ne dX6_workOut_299 (tgt := 372) (by decide) (fun hn => ?_) (fun hn => ?_)
        · refine gx_return dX6_workOut_372 ?_
          have hB : ¬ (σ.1 108 o 0 % σ.1 100 0 0 = g ∧ ¬ σ.2.1 106 o 0 = 0) := fun z => z.2 hk
          exact ⟨rfl, by simp only [sm_wt]; rw [if_neg hB, if_pos ha, if_neg hn]; exact R, ((gs_sm.rfl.trans hs0).trans hs1), rfl⟩
        · refine gx_aload_n dX6_workOut_302 rfl ?_
          refine gx_get dX6_workOut_303 gf_X6_38 (gs_g6 R hm) (v := .ref (A 31 0 0)) (rfl) ?_
          refine gx_iload_n dX6_workOut_306 rfl ?_
          refine gx_iconst dX6_workOut_307 (v := 1) (by decide) ?_
          refine ga_I111 (σ := (gs_i (gs_i σ 103 (σ.1 107 o 0) 0 va) 118 (40 * g + o) 0 1)) hm dX6_workOut_308 R (by first | exact Or.inl rfl | exact Or.inr rfl) (q := o) (v := 1) (rfl) (by first | omega | (have := gv_a V o; omega) | (have := gv_bk V o; omega) | (have := gv_cl V o; omega)) (fun h R hs2 => ?_)
          refine gx_aload_n dX6_workOut_309 rfl ?_
          refine gx_get dX6_workOut_310 gf_X6_41 (gs_g6 R hm) (v := .ref (A 32 0 0)) (rfl) ?_
          refine gx_iload_n dX6_workOut_313 rfl ?_
          refine gx_iload dX6_workOut_314 rfl ?_
          refine ga_I112 (σ := (gs_i (gs_i (gs_i σ 103 (σ.1 107 o 0) 0 va) 118 (40 * g + o) 0 1) 111 o 0 1)) hm dX6_workOut_316 R (q := o) (v := an) (rfl) (by first | omega | (have := gv_a V o; omega) | (have := gv_bk V o; omega) | (have := gv_cl V o; omega)) (fun h R hs3 => ?_)
          refine gx_aload_n dX6_workOut_317 rfl ?_
          refine gx_get dX6_workOut_318 gf_X6_20 (gs_g6 R hm) (v := .ref (A 25 0 0)) (rfl) ?_
          refine gx_iload_n dX6_workOut_321 rfl ?_
          refine gq_25 dX6_workOut_322 R hm (q := o) (rfl) (by first | omega | (have := gv_a V o; omega) | (have := gv_bk V o; omega) | (have := gv_cl V o; omega)) (v := nI (σ.1 105 o 0)) (rfl) ?_
          refine gx_istore dX6_workOut_323 (by decide) rfl (L' := [some (.ref (A 6 0 0)), some (.int (nI g)), some (.int (nI o)), some (.int (nI (σ.1 107 o 0))), some (.int (nI (σ.1 108 o 0))), some (.int va), some (.int vb), some (.int an), some (.int (nI (σ.1 105 o 0)))]) rfl ?_
          refine gx_aload_n dX6_workOut_325 rfl ?_
          refine gx_get dX6_workOut_326 gf_X6_44 (gs_g6 R hm) (v := .ref (A 33 0 0)) (rfl) ?_
          refine gx_iload dX6_workOut_329 rfl ?_
          refine gx_aload_n dX6_workOut_331 rfl ?_
          refine gx_get dX6_workOut_332 gf_X6_44 (gs_g6 R hm) (v := .ref (A 33 0 0)) (rfl) ?_
          refine gx_iload dX6_workOut_335 rfl ?_
          refine gq_33 dX6_workOut_337 R hm (q := σ.1 105 o 0) (rfl) (by first | omega | (have := gv_a V o; omega) | (have := gv_bk V o; omega) | (have := gv_cl V o; omega)) (v := σ.2.1 113 (σ.1 105 o 0) 0) (rfl) ?_
          refine gx_aload_n dX6_workOut_338 rfl ?_
          refine gx_get dX6_workOut_339 gf_X6_50 (gs_g6 R hm) (v := .ref (A 35 0 0)) (rfl) ?_
          refine gx_iload_n dX6_workOut_342 rfl ?_
          refine gx_iload_n dX6_workOut_343 rfl ?_
          refine gx_invS dX6_workOut_344 wm_X6_105 gt_X6_at ws_X6_at (As := [.int (nI g), .int (nI o)]) (rest := [.ref (A 35 0 0), .int (σ.2.1 113 (σ.1 105 o 0) 0), .int (nI (σ.1 105 o 0)), .ref (A 33 0 0)]) rfl rfl (Nat.le_of_ble_eq_true rfl) (by decide) (cc_X6_atE (g := g) (o := o) (rfl) (rfl)) (fun r1 h1 q1 => ?_)
          obtain ⟨rfl, rfl⟩ := q1
          show gx_Ev _ _ _ _ _ [.int (nI (40 * g + o)), .ref (A 35 0 0), .int (σ.2.1 113 (σ.1 105 o 0) 0), .int (nI (σ.1 105 o 0)), .ref (A 33 0 0)] _ _
          refine gq_35 dX6_workOut_347 R hm (q := 40 * g + o) (rfl) (by first | omega | (have := gv_a V o; omega) | (have := gv_bk V o; omega) | (have := gv_cl V o; omega)) (v := σ.2.1 115 (40 * g + o) 0) (rfl) ?_
          refine gx_icmp_ge dX6_workOut_348 (tgt := 364) (by decide) (fun ht => ?_) (fun ht => ?_)
          · refine gx_aload_n dX6_workOut_364 rfl ?_
            refine gx_get dX6_workOut_365 gf_X6_44 (gs_g6 R hm) (v := .ref (A 33 0 0)) (rfl) ?_
            refine gx_iload dX6_workOut_368 rfl ?_
            refine gq_33 dX6_workOut_370 R hm (q := σ.1 105 o 0) (rfl) (by first | omega | (have := gv_a V o; omega) | (have := gv_bk V o; omega) | (have := gv_cl V o; omega)) (v := σ.2.1 113 (σ.1 105 o 0) 0) (rfl) ?_
            refine ga_I113 (σ := (gs_i (gs_i (gs_i (gs_i σ 103 (σ.1 107 o 0) 0 va) 118 (40 * g + o) 0 1) 111 o 0 1) 112 o 0 an)) hm dX6_workOut_371 R (q := σ.1 105 o 0) (v := σ.2.1 113 (σ.1 105 o 0) 0) (rfl) (by first | omega | (have := gv_a V o; omega) | (have := gv_bk V o; omega) | (have := gv_cl V o; omega)) (fun h R hs4 => ?_)
            refine gx_return dX6_workOut_372 ?_
            have hB : ¬ (σ.1 108 o 0 % σ.1 100 0 0 = g ∧ ¬ σ.2.1 106 o 0 = 0) := fun z => z.2 hk
            have e8 : gs_mg (σ.2.1 113 (σ.1 105 o 0) 0) (σ.2.1 115 (40 * g + o) 0) = σ.2.1 113 (σ.1 105 o 0) 0 := by simp [gs_mg, ht]
            exact ⟨rfl, by simp only [sm_wt]; rw [if_neg hB, if_pos ha, if_pos hn, e8]; exact R, (((((gs_sm.rfl.trans hs0).trans hs1).trans hs2).trans hs3).trans hs4), rfl⟩
          · refine gx_aload_n dX6_workOut_351 rfl ?_
            refine gx_get dX6_workOut_352 gf_X6_50 (gs_g6 R hm) (v := .ref (A 35 0 0)) (rfl) ?_
            refine gx_iload_n dX6_workOut_355 rfl ?_
            refine gx_iload_n dX6_workOut_356 rfl ?_
            refine gx_invS dX6_workOut_357 wm_X6_105 gt_X6_at ws_X6_at (As := [.int (nI g), .int (nI o)]) (rest := [.ref (A 35 0 0), .int (nI (σ.1 105 o 0)), .ref (A 33 0 0)]) rfl rfl (Nat.le_of_ble_eq_true rfl) (by decide) (cc_X6_atE (g := g) (o := o) (rfl) (rfl)) (fun r1 h1 q1 => ?_)
            obtain ⟨rfl, rfl⟩ := q1
            show gx_Ev _ _ _ _ _ [.int (nI (40 * g + o)), .ref (A 35 0 0), .int (nI (σ.1 105 o 0)), .ref (A 33 0 0)] _ _
            refine gq_35 dX6_workOut_360 R hm (q := 40 * g + o) (rfl) (by first | omega | (have := gv_a V o; omega) | (have := gv_bk V o; omega) | (have := gv_cl V o; omega)) (v := σ.2.1 115 (40 * g + o) 0) (rfl) ?_
            refine gx_goto dX6_workOut_361 (tgt := 371) (by decide) ?_
            refine ga_I113 (σ := (gs_i (gs_i (gs_i (gs_i σ 103 (σ.1 107 o 0) 0 va) 118 (40 * g + o) 0 1) 111 o 0 1) 112 o 0 an)) hm dX6_workOut_371 R (q := σ.1 105 o 0) (v := σ.2.1 115 (40 * g + o) 0) (rfl) (by first | omega | (have := gv_a V o; omega) | (have := gv_bk V o; omega) | (have := gv_cl V o; omega)) (fun h R hs4 => ?_)
            refine gx_return dX6_workOut_372 ?_
            have hB : ¬ (σ.1 108 o 0 % σ.1 100 0 0 = g ∧ ¬ σ.2.1 106 o 0 = 0) := fun z => z.2 hk
            have e8 : gs_mg (σ.2.1 113 (σ.1 105 o 0) 0) (σ.2.1 115 (40 * g + o) 0) = σ.2.1 115 (40 * g + o) 0 := by simp [gs_mg, ht]
            exact ⟨rfl, by simp only [sm_wt]; rw [if_neg hB, if_pos ha, if_pos hn, e8]; exact R, (((((gs_sm.rfl.trans hs0).trans hs1).trans hs2).trans hs3).trans hs4), rfl⟩
    · refine gx_aload_n dX6_workOut_255 rfl ?_
      refine gx_get dX6_workOut_256 gf_X6_17 (gs_g6 R hm) (v := .ref (A 23 0 0)) (rfl) ?_
      refine gx_iload dX6_workOut_259 rfl ?_
      refine gx_iload dX6_workOut_261 rfl ?_
      refine ga_I103 (σ := σ) hm dX6_workOut_263 R (q := σ.1 108 o 0) (v := vb) (rfl) (by first | omega | (have := gv_a V o; omega) | (have := gv_bk V o; omega) | (have := gv_cl V o; omega)) (fun h R hs0 => ?_)
      refine gx_iload_n dX6_workOut_264 rfl ?_
      refine gx_aload_n dX6_workOut_265 rfl ?_
      refine gx_get dX6_workOut_266 gf_X6_101 (gs_g6 R hm) (v := .int (nI (σ.1 100 0 0))) (rfl) ?_
      refine gx_irem dX6_workOut_269 (nI_ne0 (by have := gv_n2 V; omega) (by have := gv_n4 V; omega)) ?_
      rw [show ((nI (σ.1 107 o 0)) - (nI (σ.1 107 o 0)) / (nI (σ.1 100 0 0)) * (nI (σ.1 100 0 0)) : Int32) = nI (σ.1 107 o 0 % σ.1 100 0 0) from pk_rem (by have := gv_a V o; have := gv_bk V o; omega) (by have := gv_n2 V; omega) (by have := gv_n4 V; omega)]
      refine gx_iload_n dX6_workOut_270 rfl ?_
      refine gx_icmp_ne dX6_workOut_271 (tgt := 282) (by decide) (fun ha => ?_) (fun ha => ?_)
      · have ha : ¬ σ.1 107 o 0 % σ.1 100 0 0 = g := fun z => ha (congrArg nI z)
        refine gx_aload_n dX6_workOut_282 rfl ?_
        refine gx_get dX6_workOut_283 gf_X6_59 (gs_g6 R hm) (v := .ref (A 38 0 0)) (rfl) ?_
        refine gx_iload_n dX6_workOut_286 rfl ?_
        refine gx_iload_n dX6_workOut_287 rfl ?_
        refine gx_invS dX6_workOut_288 wm_X6_105 gt_X6_at ws_X6_at (As := [.int (nI g), .int (nI o)]) (rest := [.ref (A 38 0 0)]) rfl rfl (Nat.le_of_ble_eq_true rfl) (by decide) (cc_X6_atE (g := g) (o := o) (rfl) (rfl)) (fun r1 h1 q1 => ?_)
        obtain ⟨rfl, rfl⟩ := q1
        show gx_Ev _ _ _ _ _ [.int (nI (40 * g + o)), .ref (A 38 0 0)] _ _
        refine gx_iconst dX6_workOut_291 (v := 1) (by decide) ?_
        refine ga_I118 (σ := (gs_i σ 103 (σ.1 108 o 0) 0 vb)) hm dX6_workOut_292 R (by first | exact Or.inl rfl | exact Or.inr rfl) (q := 40 * g + o) (v := 1) (rfl) (by first | omega | (have := gv_a V o; omega) | (have := gv_bk V o; omega) | (have := gv_cl V o; omega)) (fun h R hs1 => ?_)
        refine gx_aload_n dX6_workOut_293 rfl ?_
        refine gx_get dX6_workOut_294 gf_X6_38 (gs_g6 R hm) (v := .ref (A 31 0 0)) (rfl) ?_
        refine gx_iload_n dX6_workOut_297 rfl ?_
        refine gq_31 dX6_workOut_298 R hm (q := o) (rfl) (by first | omega | (have := gv_a V o; omega) | (have := gv_bk V o; omega) | (have := gv_cl V o; omega)) (v := σ.2.1 111 o 0) (rfl) ?_
        refine gx_if_ne dX6_workOut_299 (tgt := 372) (by decide) (fun hn => ?_) (fun hn => ?_)
        · refine gx_return dX6_workOut_372 ?_
          have hB : (σ.1 108 o 0 % σ.1 100 0 0 = g ∧ ¬ σ.2.1 106 o 0 = 0) := ⟨hb, hk⟩
          exact ⟨rfl, by simp only [sm_wt]; rw [if_pos hB, if_neg ha, if_neg hn]; exact R, ((gs_sm.rfl.trans hs0).trans hs1), rfl⟩
        · refine gx_aload_n dX6_workOut_302 rfl ?_
          refine gx_get dX6_workOut_303 gf_X6_38 (gs_g6 R hm) (v := .ref (A 31 0 0)) (rfl) ?_
          refine gx_iload_n dX6_workOut_306 rfl ?_
          refine gx_iconst dX6_workOut_307 (v := 1) (by decide) ?_
          refine ga_I111 (σ := (gs_i (gs_i σ 103 (σ.1 108 o 0) 0 vb) 118 (40 * g + o) 0 1)) hm dX6_workOut_308 R (by first | exact Or.inl rfl | exact Or.inr rfl) (q := o) (v := 1) (rfl) (by first | omega | (have := gv_a V o; omega) | (have := gv_bk V o; omega) | (have := gv_cl V o; omega)) (fun h R hs2 => ?_)
          refine gx_aload_n dX6_workOut_309 rfl ?_
          refine gx_get dX6_workOut_310 gf_X6_41 (gs_g6 R hm) (v := .ref (A 32 0 0)) (rfl) ?_
          refine gx_iload_n dX6_workOut_313 rfl ?_
          refine gx_iload dX6_workOut_314 rfl ?_
          refine ga_I112 (σ := (gs_i (gs_i (gs_i σ 103 (σ.1 108 o 0) 0 vb) 118 (40 * g + o) 0 1) 111 o 0 1)) hm dX6_workOut_316 R (q := o) (v := an) (rfl) (by first | omega | (have := gv_a V o; omega) | (have := gv_bk V o; omega) | (have := gv_cl V o; omega)) (fun h R hs3 => ?_)
          refine gx_aload_n dX6_workOut_317 rfl ?_
          refine gx_get dX6_workOut_318 gf_X6_20 (gs_g6 R hm) (v := .ref (A 25 0 0)) (rfl) ?_
          refine gx_iload_n dX6_workOut_321 rfl ?_
          refine gq_25 dX6_workOut_322 R hm (q := o) (rfl) (by first | omega | (have := gv_a V o; omega) | (have := gv_bk V o; omega) | (have := gv_cl V o; omega)) (v := nI (σ.1 105 o 0)) (rfl) ?_
          refine gx_istore dX6_workOut_323 (by decide) rfl (L' := [some (.ref (A 6 0 0)), some (.int (nI g)), some (.int (nI o)), some (.int (nI (σ.1 107 o 0))), some (.int (nI (σ.1 108 o 0))), some (.int va), some (.int vb), some (.int an), some (.int (nI (σ.1 105 o 0)))]) rfl ?_
          refine gx_aload_n dX6_workOut_325 rfl ?_
          refine gx_get dX6_workOut_326 gf_X6_44 (gs_g6 R hm) (v := .ref (A 33 0 0)) (rfl) ?_
          refine gx_iload dX6_workOut_329 rfl ?_
          refine gx_aload_n dX6_workOut_331 rfl ?_
          refine gx_get dX6_workOut_332 gf_X6_44 (gs_g6 R hm) (v := .ref (A 33 0 0)) (rfl) ?_
          refine gx_iload dX6_workOut_335 rfl ?_
          refine gq_33 dX6_workOut_337 R hm (q := σ.1 105 o 0) (rfl) (by first | omega | (have := gv_a V o; omega) | (have := gv_bk V o; omega) | (have := gv_cl V o; omega)) (v := σ.2.1 113 (σ.1 105 o 0) 0) (rfl) ?_
          refine gx_aload_n dX6_workOut_338 rfl ?_
          refine gx_get dX6_workOut_339 gf_X6_50 (gs_g6 R hm) (v := .ref (A 35 0 0)) (rfl) ?_
          refine gx_iload_n dX6_workOut_342 rfl ?_
          refine gx_iload_n dX6_workOut_343 rfl ?_
          refine gx_invS dX6_workOut_344 wm_X6_105 gt_X6_at ws_X6_at (As := [.int (nI g), .int (nI o)]) (rest := [.ref (A 35 0 0), .int (σ.2.1 113 (σ.1 105 o 0) 0), .int (nI (σ.1 105 o 0)), .ref (A 33 0 0)]) rfl rfl (Nat.le_of_ble_eq_true rfl) (by decide) (cc_X6_atE (g := g) (o := o) (rfl) (rfl)) (fun r1 h1 q1 => ?_)
          obtain ⟨rfl, rfl⟩ := q1
          show gx_Ev _ _ _ _ _ [.int (nI (40 * g + o)), .ref (A 35 0 0), .int (σ.2.1 113 (σ.1 105 o 0) 0), .int (nI (σ.1 105 o 0)), .ref (A 33 0 0)] _ _
          refine gq_35 dX6_workOut_347 R hm (q := 40 * g + o) (rfl) (by first | omega | (have := gv_a V o; omega) | (have := gv_bk V o; omega) | (have := gv_cl V o; omega)) (v := σ.2.1 115 (40 * g + o) 0) (rfl) ?_
          refine gx_icmp_ge dX6_workOut_348 (tgt := 364) (by decide) (fun ht => ?_) (fun ht => ?_)
          · refine gx_aload_n dX6_workOut_364 rfl ?_
            refine gx_get dX6_workOut_365 gf_X6_44 (gs_g6 R hm) (v := .ref (A 33 0 0)) (rfl) ?_
            refine gx_iload dX6_workOut_368 rfl ?_
            refine gq_33 dX6_workOut_370 R hm (q := σ.1 105 o 0) (rfl) (by first | omega | (have := gv_a V o; omega) | (have := gv_bk V o; omega) | (have := gv_cl V o; omega)) (v := σ.2.1 113 (σ.1 105 o 0) 0) (rfl) ?_
            refine ga_I113 (σ := (gs_i (gs_i (gs_i (gs_i σ 103 (σ.1 108 o 0) 0 vb) 118 (40 * g + o) 0 1) 111 o 0 1) 112 o 0 an)) hm dX6_workOut_371 R (q := σ.1 105 o 0) (v := σ.2.1 113 (σ.1 105 o 0) 0) (rfl) (by first | omega | (have := gv_a V o; omega) | (have := gv_bk V o; omega) | (have := gv_cl V o; omega)) (fun h R hs4 => ?_)
            refine gx_return dX6_workOut_372 ?_
            have hB : (σ.1 108 o 0 % σ.1 100 0 0 = g ∧ ¬ σ.2.1 106 o 0 = 0) := ⟨hb, hk⟩
            have e8 : gs_mg (σ.2.1 113 (σ.1 105 o 0) 0) (σ.2.1 115 (40 * g + o) 0) = σ.2.1 113 (σ.1 105 o 0) 0 := by simp [gs_mg, ht]
            exact ⟨rfl, by simp only [sm_wt]; rw [if_pos hB, if_neg ha, if_pos hn, e8]; exact R, (((((gs_sm.rfl.trans hs0).trans hs1).trans hs2).trans hs3).trans hs4), rfl⟩
          · refine gx_aload_n dX6_workOut_351 rfl ?_
            refine gx_get dX6_workOut_352 gf_X6_50 (gs_g6 R hm) (v := .ref (A 35 0 0)) (rfl) ?_
            refine gx_iload_n dX6_workOut_355 rfl ?_
            refine gx_iload_n dX6_workOut_356 rfl ?_
            refine gx_invS dX6_workOut_357 wm_X6_105 gt_X6_at ws_X6_at (As := [.int (nI g), .int (nI o)]) (rest := [.ref (A 35 0 0), .int (nI (σ.1 105 o 0)), .ref (A 33 0 0)]) rfl rfl (Nat.le_of_ble_eq_true rfl) (by decide) (cc_X6_atE (g := g) (o := o) (rfl) (rfl)) (fun r1 h1 q1 => ?_)
            obtain ⟨rfl, rfl⟩ := q1
            show gx_Ev _ _ _ _ _ [.int (nI (40 * g + o)), .ref (A 35 0 0), .int (nI (σ.1 105 o 0)), .ref (A 33 0 0)] _ _
            refine gq_35 dX6_workOut_360 R hm (q := 40 * g + o) (rfl) (by first | omega | (have := gv_a V o; omega) | (have := gv_bk V o; omega) | (have := gv_cl V o; omega)) (v := σ.2.1 115 (40 * g + o) 0) (rfl) ?_
            refine gx_goto dX6_workOut_361 (tgt := 371) (by decide) ?_
            refine ga_I113 (σ := (gs_i (gs_i (gs_i (gs_i σ 103 (σ.1 108 o 0) 0 vb) 118 (40 * g + o) 0 1) 111 o 0 1) 112 o 0 an)) hm dX6_workOut_371 R (q := σ.1 105 o 0) (v := σ.2.1 115 (40 * g + o) 0) (rfl) (by first | omega | (have := gv_a V o; omega) | (have := gv_bk V o; omega) | (have := gv_cl V o; omega)) (fun h R hs4 => ?_)
            refine gx_return dX6_workOut_372 ?_
            have hB : (σ.1 108 o 0 % σ.1 100 0 0 = g ∧ ¬ σ.2.1 106 o 0 = 0) := ⟨hb, hk⟩
            have e8 : gs_mg (σ.2.1 113 (σ.1 105 o 0) 0) (σ.2.1 115 (40 * g + o) 0) = σ.2.1 115 (40 * g + o) 0 := by simp [gs_mg, ht]
            exact ⟨rfl, by simp only [sm_wt]; rw [if_pos hB, if_neg ha, if_pos hn, e8]; exact R, (((((gs_sm.rfl.trans hs0).trans hs1).trans hs2).trans hs3).trans hs4), rfl⟩
      · have ha := (nI_eq (by have := gv_n2 V; have := gv_n4 V; have := Nat.mod_lt (σ.1 107 o 0) (show 0 < σ.1 100 0 0 by omega); omega) (by omega)).mp ha
        refine gx_aload_n dX6_workOut_274 rfl ?_
        refine gx_get dX6_workOut_275 gf_X6_17 (gs_g6 R hm) (v := .ref (A 23 0 0)) (rfl) ?_
        refine gx_iload_n dX6_workOut_278 rfl ?_
        refine gx_iload dX6_workOut_279 rfl ?_
        refine ga_I103 (σ := (gs_i σ 103 (σ.1 108 o 0) 0 vb)) hm dX6_workOut_281 R (q := σ.1 107 o 0) (v := va) (rfl) (by first | omega | (have := gv_a V o; omega) | (have := gv_bk V o; omega) | (have := gv_cl V o; omega)) (fun h R hs1 => ?_)
        refine gx_aload_n dX6_workOut_282 rfl ?_
        refine gx_get dX6_workOut_283 gf_X6_59 (gs_g6 R hm) (v := .ref (A 38 0 0)) (rfl) ?_
        refine gx_iload_n dX6_workOut_286 rfl ?_
        refine gx_iload_n dX6_workOut_287 rfl ?_
        refine gx_invS dX6_workOut_288 wm_X6_105 gt_X6_at ws_X6_at (As := [.int (nI g), .int (nI o)]) (rest := [.ref (A 38 0 0)]) rfl rfl (Nat.le_of_ble_eq_true rfl) (by decide) (cc_X6_atE (g := g) (o := o) (rfl) (rfl)) (fun r1 h1 q1 => ?_)
        obtain ⟨rfl, rfl⟩ := q1
        show gx_Ev _ _ _ _ _ [.int (nI (40 * g + o)), .ref (A 38 0 0)] _ _
        refine gx_iconst dX6_workOut_291 (v := 1) (by decide) ?_
        refine ga_I118 (σ := (gs_i (gs_i σ 103 (σ.1 108 o 0) 0 vb) 103 (σ.1 107 o 0) 0 va)) hm dX6_workOut_292 R (by first | exact Or.inl rfl | exact Or.inr rfl) (q := 40 * g + o) (v := 1) (rfl) (by first | omega | (have := gv_a V o; omega) | (have := gv_bk V o; omega) | (have := gv_cl V o; omega)) (fun h R hs2 => ?_)
        refine gx_aload_n dX6_workOut_293 rfl ?_
        refine gx_get dX6_workOut_294 gf_X6_38 (gs_g6 R hm) (v := .ref (A 31 0 0)) (rfl) ?_
        refine gx_iload_n dX6_workOut_297 rfl ?_
        refine gq_31 dX6_workOut_298 R hm (q := o) (rfl) (by first | omega | (have := gv_a V o; omega) | (have := gv_bk V o; omega) | (have := gv_cl V o; omega)) (v := σ.2.1 111 o 0) (rfl) ?_
        refine gx_if_ne dX6_workOut_299 (tgt := 372) (by decide) (fun hn => ?_) (fun hn => ?_)
        · refine gx_return dX6_workOut_372 ?_
          have hB : (σ.1 108 o 0 % σ.1 100 0 0 = g ∧ ¬ σ.2.1 106 o 0 = 0) := ⟨hb, hk⟩
          exact ⟨rfl, by simp only [sm_wt]; rw [if_pos hB, if_pos ha, if_neg hn]; exact R, (((gs_sm.rfl.trans hs0).trans hs1).trans hs2), rfl⟩
        · refine gx_aload_n dX6_workOut_302 rfl ?_
          refine gx_get dX6_workOut_303 gf_X6_38 (gs_g6 R hm) (v := .ref (A 31 0 0)) (rfl) ?_
          refine gx_iload_n dX6_workOut_306 rfl ?_
          refine gx_iconst dX6_workOut_307 (v := 1) (by decide) ?_
          refine ga_I111 (σ := (gs_i (gs_i (gs_i σ 103 (σ.1 108 o 0) 0 vb) 103 (σ.1 107 o 0) 0 va) 118 (40 * g + o) 0 1)) hm dX6_workOut_308 R (by first | exact Or.inl rfl | exact Or.inr rfl) (q := o) (v := 1) (rfl) (by first | omega | (have := gv_a V o; omega) | (have := gv_bk V o; omega) | (have := gv_cl V o; omega)) (fun h R hs3 => ?_)
          refine gx_aload_n dX6_workOut_309 rfl ?_
          refine gx_get dX6_workOut_310 gf_X6_41 (gs_g6 R hm) (v := .ref (A 32 0 0)) (rfl) ?_
          refine gx_iload_n dX6_workOut_313 rfl ?_
          refine gx_iload dX6_workOut_314 rfl ?_
          refine ga_I112 (σ := (gs_i (gs_i (gs_i (gs_i σ 103 (σ.1 108 o 0) 0 vb) 103 (σ.1 107 o 0) 0 va) 118 (40 * g + o) 0 1) 111 o 0 1)) hm dX6_workOut_316 R (q := o) (v := an) (rfl) (by first | omega | (have := gv_a V o; omega) | (have := gv_bk V o; omega) | (have := gv_cl V o; omega)) (fun h R hs4 => ?_)
          refine gx_aload_n dX6_workOut_317 rfl ?_
          refine gx_get dX6_workOut_318 gf_X6_20 (gs_g6 R hm) (v := .ref (A 25 0 0)) (rfl) ?_
          refine gx_iload_n dX6_workOut_321 rfl ?_
          refine gq_25 dX6_workOut_322 R hm (q := o) (rfl) (by first | omega | (have := gv_a V o; omega) | (have := gv_bk V o; omega) | (have := gv_cl V o; omega)) (v := nI (σ.1 105 o 0)) (rfl) ?_
          refine gx_istore dX6_workOut_323 (by decide) rfl (L' := [some (.ref (A 6 0 0)), some (.int (nI g)), some (.int (nI o)), some (.int (nI (σ.1 107 o 0))), some (.int (nI (σ.1 108 o 0))), some (.int va), some (.int vb), some (.int an), some (.int (nI (σ.1 105 o 0)))]) rfl ?_
          refine gx_aload_n dX6_workOut_325 rfl ?_
          refine gx_get dX6_workOut_326 gf_X6_44 (gs_g6 R hm) (v := .ref (A 33 0 0)) (rfl) ?_
          refine gx_iload dX6_workOut_329 rfl ?_
          refine gx_aload_n dX6_workOut_331 rfl ?_
          refine gx_get dX6_workOut_332 gf_X6_44 (gs_g6 R hm) (v := .ref (A 33 0 0)) (rfl) ?_
          refine gx_iload dX6_workOut_335 rfl ?_
          refine gq_33 dX6_workOut_337 R hm (q := σ.1 105 o 0) (rfl) (by first | omega | (have := gv_a V o; omega) | (have := gv_bk V o; omega) | (have := gv_cl V o; omega)) (v := σ.2.1 113 (σ.1 105 o 0) 0) (rfl) ?_
          refine gx_aload_n dX6_workOut_338 rfl ?_
          refine gx_get dX6_workOut_339 gf_X6_50 (gs_g6 R hm) (v := .ref (A 35 0 0)) (rfl) ?_
          refine gx_iload_n dX6_workOut_342 rfl ?_
          refine gx_iload_n dX6_workOut_343 rfl ?_
          refine gx_invS dX6_workOut_344 wm_X6_105 gt_X6_at ws_X6_at (As := [.int (nI g), .int (nI o)]) (rest := [.ref (A 35 0 0), .int (σ.2.1 113 (σ.1 105 o 0) 0), .int (nI (σ.1 105 o 0)), .ref (A 33 0 0)]) rfl rfl (Nat.le_of_ble_eq_true rfl) (by decide) (cc_X6_atE (g := g) (o := o) (rfl) (rfl)) (fun r1 h1 q1 => ?_)
          obtain ⟨rfl, rfl⟩ := q1
          show gx_Ev _ _ _ _ _ [.int (nI (40 * g + o)), .ref (A 35 0 0), .int (σ.2.1 113 (σ.1 105 o 0) 0), .int (nI (σ.1 105 o 0)), .ref (A 33 0 0)] _ _
          refine gq_35 dX6_workOut_347 R hm (q := 40 * g + o) (rfl) (by first | omega | (have := gv_a V o; omega) | (have := gv_bk V o; omega) | (have := gv_cl V o; omega)) (v := σ.2.1 115 (40 * g + o) 0) (rfl) ?_
          refine gx_icmp_ge dX6_workOut_348 (tgt := 364) (by decide) (fun ht => ?_) (fun ht => ?_)
          · refine gx_aload_n dX6_workOut_364 rfl ?_
            refine gx_get dX6_workOut_365 gf_X6_44 (gs_g6 R hm) (v := .ref (A 33 0 0)) (rfl) ?_
            refine gx_iload dX6_workOut_368 rfl ?_
            refine gq_33 dX6_workOut_370 R hm (q := σ.1 105 o 0) (rfl) (by first | omega | (have := gv_a V o; omega) | (have := gv_bk V o; omega) | (have := gv_cl V o; omega)) (v := σ.2.1 113 (σ.1 105 o 0) 0) (rfl) ?_
            refine ga_I113 (σ := (gs_i (gs_i (gs_i (gs_i (gs_i σ 103 (σ.1 108 o 0) 0 vb) 103 (σ.1 107 o 0) 0 va) 118 (40 * g + o) 0 1) 111 o 0 1) 112 o 0 an)) hm dX6_workOut_371 R (q := σ.1 105 o 0) (v := σ.2.1 113 (σ.1 105 o 0) 0) (rfl) (by first | omega | (have := gv_a V o; omega) | (have := gv_bk V o; omega) | (have := gv_cl V o; omega)) (fun h R hs5 => ?_)
            refine gx_return dX6_workOut_372 ?_
            have hB : (σ.1 108 o 0 % σ.1 100 0 0 = g ∧ ¬ σ.2.1 106 o 0 = 0) := ⟨hb, hk⟩
            have e8 : gs_mg (σ.2.1 113 (σ.1 105 o 0) 0) (σ.2.1 115 (40 * g + o) 0) = σ.2.1 113 (σ.1 105 o 0) 0 := by simp [gs_mg, ht]
            exact ⟨rfl, by simp only [sm_wt]; rw [if_pos hB, if_pos ha, if_pos hn, e8]; exact R, ((((((gs_sm.rfl.trans hs0).trans hs1).trans hs2).trans hs3).trans hs4).trans hs5), rfl⟩
          · refine gx_aload_n dX6_workOut_351 rfl ?_
            refine gx_get dX6_workOut_352 gf_X6_50 (gs_g6 R hm) (v := .ref (A 35 0 0)) (rfl) ?_
            refine gx_iload_n dX6_workOut_355 rfl ?_
            refine gx_iload_n dX6_workOut_356 rfl ?_
            refine gx_invS dX6_workOut_357 wm_X6_105 gt_X6_at ws_X6_at (As := [.int (nI g), .int (nI o)]) (rest := [.ref (A 35 0 0), .int (nI (σ.1 105 o 0)), .ref (A 33 0 0)]) rfl rfl (Nat.le_of_ble_eq_true rfl) (by decide) (cc_X6_atE (g := g) (o := o) (rfl) (rfl)) (fun r1 h1 q1 => ?_)
            obtain ⟨rfl, rfl⟩ := q1
            show gx_Ev _ _ _ _ _ [.int (nI (40 * g + o)), .ref (A 35 0 0), .int (nI (σ.1 105 o 0)), .ref (A 33 0 0)] _ _
            refine gq_35 dX6_workOut_360 R hm (q := 40 * g + o) (rfl) (by first | omega | (have := gv_a V o; omega) | (have := gv_bk V o; omega) | (have := gv_cl V o; omega)) (v := σ.2.1 115 (40 * g + o) 0) (rfl) ?_
            refine gx_goto dX6_workOut_361 (tgt := 371) (by decide) ?_
            refine ga_I113 (σ := (gs_i (gs_i (gs_i (gs_i (gs_i σ 103 (σ.1 108 o 0) 0 vb) 103 (σ.1 107 o 0) 0 va) 118 (40 * g + o) 0 1) 111 o 0 1) 112 o 0 an)) hm dX6_workOut_371 R (q := σ.1 105 o 0) (v := σ.2.1 115 (40 * g + o) 0) (rfl) (by first | omega | (have := gv_a V o; omega) | (have := gv_bk V o; omega) | (have := gv_cl V o; omega)) (fun h R hs5 => ?_)
            refine gx_return dX6_workOut_372 ?_
            have hB : (σ.1 108 o 0 % σ.1 100 0 0 = g ∧ ¬ σ.2.1 106 o 0 = 0) := ⟨hb, hk⟩
            have e8 : gs_mg (σ.2.1 113 (σ.1 105 o 0) 0) (σ.2.1 115 (40 * g + o) 0) = σ.2.1 115 (40 * g + o) 0 := by simp [gs_mg, ht]
            exact ⟨rfl, by simp only [sm_wt]; rw [if_pos hB, if_pos ha, if_pos hn, e8]; exact R, ((((((gs_sm.rfl.trans hs0).trans hs1).trans hs2).trans hs3).trans hs4).trans hs5), rfl⟩
def sm_wv (σ : gs_T) (o : Nat) (va vb : Int32) : Int32 × Int32 × Int32 := if σ.2.1 106 o 0 = 0 then (va + σ.2.1 109 o 0, if σ.1 107 o 0 = σ.1 108 o 0 then va + σ.2.1 109 o 0 else vb, va + σ.2.1 109 o 0) else if σ.2.1 106 o 0 = 1 then (if va < σ.2.1 109 o 0 then (va, vb, 0) else if σ.1 107 o 0 = σ.1 108 o 0 then (va, vb, 1) else (va - σ.2.1 109 o 0, vb + σ.2.1 109 o 0, 1)) else if σ.2.1 106 o 0 = 2 then (va, vb, va + vb) else (vb, va, vb)
set_option maxHeartbeats 4000000 in
theorem cl_wo_m {S : gx_S} {h : gx_H} {σ : gs_T} {A : gs_A} (R : gs_R h σ A) (hm : σ.1 31 0 0 = 1) (V : gv_V σ) {g o : Nat} (hg4 : g < 4) (ho : o < 40) (va vb : Int32) (w7 w8 : Option Value) (g7 : gx_ok [none, none, none, none, none, none, none, w7] 8 = true) : gx_Ev S gm_X6_workOut 3 92 [some (.ref (A 6 0 0)), some (.int (nI g)), some (.int (nI o)), some (.int (nI (σ.1 107 o 0))), some (.int (nI (σ.1 108 o 0))), some (.int va), some (.int vb), w7, w8] [] h (fun r h' => gx_rt none r ∧ gs_R h' (sm_wt σ g o (sm_wv σ o va vb).1 (sm_wv σ o va vb).2.1 (sm_wv σ o va vb).2.2) A ∧ gs_sm h h' ∧ r = none) := by
  refine gx_aload_n dX6_workOut_92 rfl ?_
  refine gx_get dX6_workOut_93 gf_X6_23 (gs_g6 R hm) (v := .ref (A 26 0 0)) (rfl) ?_
  refine gx_iload_n dX6_workOut_96 rfl ?_
  refine gq_26 dX6_workOut_97 R hm (q := o) (rfl) (by first | omega | (have := gv_a V o; omega) | (have := gv_bk V o; omega) | (have := gv_cl V o; omega)) (v := σ.2.1 106 o 0) (rfl) ?_
  refine gx_if_ne dX6_workOut_98 (tgt := 134) (by decide) (fun k0 => ?_) (fun k0 => ?_)
  · refine gx_aload_n dX6_workOut_134 rfl ?_
    refine gx_get dX6_workOut_135 gf_X6_23 (gs_g6 R hm) (v := .ref (A 26 0 0)) (rfl) ?_
    refine gx_iload_n dX6_workOut_138 rfl ?_
    refine gq_26 dX6_workOut_139 R hm (q := o) (rfl) (by first | omega | (have := gv_a V o; omega) | (have := gv_bk V o; omega) | (have := gv_cl V o; omega)) (v := σ.2.1 106 o 0) (rfl) ?_
    refine gx_iconst dX6_workOut_140 (v := 1) (by decide) ?_
    refine gx_icmp_ne dX6_workOut_141 (tgt := 199) (by decide) (fun k1 => ?_) (fun k1 => ?_)
    · refine gx_aload_n dX6_workOut_199 rfl ?_
      refine gx_get dX6_workOut_200 gf_X6_23 (gs_g6 R hm) (v := .ref (A 26 0 0)) (rfl) ?_
      refine gx_iload_n dX6_workOut_203 rfl ?_
      refine gq_26 dX6_workOut_204 R hm (q := o) (rfl) (by first | omega | (have := gv_a V o; omega) | (have := gv_bk V o; omega) | (have := gv_cl V o; omega)) (v := σ.2.1 106 o 0) (rfl) ?_
      refine gx_iconst dX6_workOut_205 (v := 2) (by decide) ?_
      refine gx_icmp_ne dX6_workOut_206 (tgt := 219) (by decide) (fun k2 => ?_) (fun k2 => ?_)
      · refine gx_iload dX6_workOut_219 rfl ?_
        refine gx_istore dX6_workOut_221 (by decide) g7 (L' := [some (.ref (A 6 0 0)), some (.int (nI g)), some (.int (nI o)), some (.int (nI (σ.1 107 o 0))), some (.int (nI (σ.1 108 o 0))), some (.int va), some (.int vb), w7, some (.int va)]) rfl ?_
        refine gx_iload dX6_workOut_223 rfl ?_
        refine gx_istore dX6_workOut_225 (by decide) rfl (L' := [some (.ref (A 6 0 0)), some (.int (nI g)), some (.int (nI o)), some (.int (nI (σ.1 107 o 0))), some (.int (nI (σ.1 108 o 0))), some (.int vb), some (.int vb), w7, some (.int va)]) rfl ?_
        refine gx_iload dX6_workOut_227 rfl ?_
        refine gx_istore dX6_workOut_229 (by decide) rfl (L' := [some (.ref (A 6 0 0)), some (.int (nI g)), some (.int (nI o)), some (.int (nI (σ.1 107 o 0))), some (.int (nI (σ.1 108 o 0))), some (.int vb), some (.int va), w7, some (.int va)]) rfl ?_
        refine gx_iload dX6_workOut_231 rfl ?_
        refine gx_istore dX6_workOut_233 (by decide) rfl (L' := [some (.ref (A 6 0 0)), some (.int (nI g)), some (.int (nI o)), some (.int (nI (σ.1 107 o 0))), some (.int (nI (σ.1 108 o 0))), some (.int vb), some (.int va), some (.int vb), some (.int va)]) rfl ?_
        have e9 : sm_wv σ o va vb = (vb, va, vb) := by simp [sm_wv, k0, k1, k2]
        rw [e9]
        exact cl_wo_t R hm V hg4 ho vb va vb (some (.int va))
      · refine gx_iload dX6_workOut_209 rfl ?_
        refine gx_iload dX6_workOut_211 rfl ?_
        refine gx_iadd dX6_workOut_213 ?_
        refine gx_istore dX6_workOut_214 (by decide) rfl (L' := [some (.ref (A 6 0 0)), some (.int (nI g)), some (.int (nI o)), some (.int (nI (σ.1 107 o 0))), some (.int (nI (σ.1 108 o 0))), some (.int va), some (.int vb), some (.int (va + vb)), w8]) rfl ?_
        refine gx_goto dX6_workOut_216 (tgt := 235) (by decide) ?_
        have e9 : sm_wv σ o va vb = (va, vb, va + vb) := by simp [sm_wv, k0, k1, k2]
        rw [e9]
        exact cl_wo_t R hm V hg4 ho va vb (va + vb) (w8)
    · refine gx_iload dX6_workOut_144 rfl ?_
      refine gx_aload_n dX6_workOut_146 rfl ?_
      refine gx_get dX6_workOut_147 gf_X6_32 (gs_g6 R hm) (v := .ref (A 29 0 0)) (rfl) ?_
      refine gx_iload_n dX6_workOut_150 rfl ?_
      refine gq_29 dX6_workOut_151 R hm (q := o) (rfl) (by first | omega | (have := gv_a V o; omega) | (have := gv_bk V o; omega) | (have := gv_cl V o; omega)) (v := σ.2.1 109 o 0) (rfl) ?_
      refine gx_icmp_lt dX6_workOut_152 (tgt := 159) (by decide) (fun hlt => ?_) (fun hlt => ?_)
      · refine gx_iconst dX6_workOut_159 (v := 0) (by decide) ?_
        refine gx_istore dX6_workOut_160 (by decide) rfl (L' := [some (.ref (A 6 0 0)), some (.int (nI g)), some (.int (nI o)), some (.int (nI (σ.1 107 o 0))), some (.int (nI (σ.1 108 o 0))), some (.int va), some (.int vb), some (.int 0), w8]) rfl ?_
        refine gx_iload dX6_workOut_162 rfl ?_
        refine gx_iconst dX6_workOut_164 (v := 1) (by decide) ?_
        refine gx_icmp_ne dX6_workOut_165 (tgt := 235) (by decide) (fun hc5 => ?_) (fun hc5 => absurd hc5 (by decide))
        have e9 : sm_wv σ o va vb = (va, vb, 0) := by simp [sm_wv, k0, k1, hlt, hc5]
        rw [e9]
        exact cl_wo_t R hm V hg4 ho va vb 0 (w8)
      · refine gx_iconst dX6_workOut_155 (v := 1) (by decide) ?_
        refine gx_goto dX6_workOut_156 (tgt := 160) (by decide) ?_
        refine gx_istore dX6_workOut_160 (by decide) rfl (L' := [some (.ref (A 6 0 0)), some (.int (nI g)), some (.int (nI o)), some (.int (nI (σ.1 107 o 0))), some (.int (nI (σ.1 108 o 0))), some (.int va), some (.int vb), some (.int 1), w8]) rfl ?_
        refine gx_iload dX6_workOut_162 rfl ?_
        refine gx_iconst dX6_workOut_164 (v := 1) (by decide) ?_
        refine gx_icmp_ne dX6_workOut_165 (tgt := 235) (by decide) (fun hc6 => absurd hc6 (by decide)) (fun hc6 => ?_)
        refine gx_iload_n dX6_workOut_168 rfl ?_
        refine gx_iload dX6_workOut_169 rfl ?_
        refine gx_icmp_eq dX6_workOut_171 (tgt := 235) (by decide) (fun hab => ?_) (fun hab => ?_)
        · have hab := (nI_eq (by have := gv_a V o; omega) (by have := gv_bk V o; omega)).mp hab
          have e9 : sm_wv σ o va vb = (va, vb, 1) := by simp [sm_wv, k0, k1, hlt, hc6, hab]
          rw [e9]
          exact cl_wo_t R hm V hg4 ho va vb 1 (w8)
        · have hab : ¬ σ.1 107 o 0 = σ.1 108 o 0 := fun z => hab (congrArg nI z)
          refine gx_iload dX6_workOut_174 rfl ?_
          refine gx_aload_n dX6_workOut_176 rfl ?_
          refine gx_get dX6_workOut_177 gf_X6_32 (gs_g6 R hm) (v := .ref (A 29 0 0)) (rfl) ?_
          refine gx_iload_n dX6_workOut_180 rfl ?_
          refine gq_29 dX6_workOut_181 R hm (q := o) (rfl) (by first | omega | (have := gv_a V o; omega) | (have := gv_bk V o; omega) | (have := gv_cl V o; omega)) (v := σ.2.1 109 o 0) (rfl) ?_
          refine gx_isub dX6_workOut_182 ?_
          refine gx_istore dX6_workOut_183 (by decide) rfl (L' := [some (.ref (A 6 0 0)), some (.int (nI g)), some (.int (nI o)), some (.int (nI (σ.1 107 o 0))), some (.int (nI (σ.1 108 o 0))), some (.int (va - (σ.2.1 109 o 0))), some (.int vb), some (.int 1), w8]) rfl ?_
          refine gx_iload dX6_workOut_185 rfl ?_
          refine gx_aload_n dX6_workOut_187 rfl ?_
          refine gx_get dX6_workOut_188 gf_X6_32 (gs_g6 R hm) (v := .ref (A 29 0 0)) (rfl) ?_
          refine gx_iload_n dX6_workOut_191 rfl ?_
          refine gq_29 dX6_workOut_192 R hm (q := o) (rfl) (by first | omega | (have := gv_a V o; omega) | (have := gv_bk V o; omega) | (have := gv_cl V o; omega)) (v := σ.2.1 109 o 0) (rfl) ?_
          refine gx_iadd dX6_workOut_193 ?_
          refine gx_istore dX6_workOut_194 (by decide) rfl (L' := [some (.ref (A 6 0 0)), some (.int (nI g)), some (.int (nI o)), some (.int (nI (σ.1 107 o 0))), some (.int (nI (σ.1 108 o 0))), some (.int (va - (σ.2.1 109 o 0))), some (.int (vb + (σ.2.1 109 o 0))), some (.int 1), w8]) rfl ?_
          refine gx_goto dX6_workOut_196 (tgt := 235) (by decide) ?_
          have e9 : sm_wv σ o va vb = (va - (σ.2.1 109 o 0), vb + (σ.2.1 109 o 0), 1) := by simp [sm_wv, k0, k1, hlt, hc6, hab]
          rw [e9]
          exact cl_wo_t R hm V hg4 ho (va - (σ.2.1 109 o 0)) (vb + (σ.2.1 109 o 0)) 1 (w8)
  · refine gx_iload dX6_workOut_101 rfl ?_
    refine gx_aload_n dX6_workOut_103 rfl ?_
    refine gx_get dX6_workOut_104 gf_X6_32 (gs_g6 R hm) (v := .ref (A 29 0 0)) (rfl) ?_
    refine gx_iload_n dX6_workOut_107 rfl ?_
    refine gq_29 dX6_workOut_108 R hm (q := o) (rfl) (by first | omega | (have := gv_a V o; omega) | (have := gv_bk V o; omega) | (have := gv_cl V o; omega)) (v := σ.2.1 109 o 0) (rfl) ?_
    refine gx_iadd dX6_workOut_109 ?_
    refine gx_istore dX6_workOut_110 (by decide) rfl (L' := [some (.ref (A 6 0 0)), some (.int (nI g)), some (.int (nI o)), some (.int (nI (σ.1 107 o 0))), some (.int (nI (σ.1 108 o 0))), some (.int (va + (σ.2.1 109 o 0))), some (.int vb), w7, w8]) rfl ?_
    refine gx_iload dX6_workOut_112 rfl ?_
    refine gx_istore dX6_workOut_114 (by decide) rfl (L' := [some (.ref (A 6 0 0)), some (.int (nI g)), some (.int (nI o)), some (.int (nI (σ.1 107 o 0))), some (.int (nI (σ.1 108 o 0))), some (.int (va + (σ.2.1 109 o 0))), some (.int vb), some (.int (va + (σ.2.1 109 o 0))), w8]) rfl ?_
    refine gx_iload_n dX6_workOut_116 rfl ?_
    refine gx_iload dX6_workOut_117 rfl ?_
    refine gx_icmp_ne dX6_workOut_119 (tgt := 127) (by decide) (fun hab => ?_) (fun hab => ?_)
    · have hab : ¬ σ.1 107 o 0 = σ.1 108 o 0 := fun z => hab (congrArg nI z)
      refine gx_iload dX6_workOut_127 rfl ?_
      refine gx_istore dX6_workOut_129 (by decide) rfl (L' := [some (.ref (A 6 0 0)), some (.int (nI g)), some (.int (nI o)), some (.int (nI (σ.1 107 o 0))), some (.int (nI (σ.1 108 o 0))), some (.int (va + (σ.2.1 109 o 0))), some (.int vb), some (.int (va + (σ.2.1 109 o 0))), w8]) rfl ?_
      refine gx_goto dX6_workOut_131 (tgt := 235) (by decide) ?_
      have e9 : sm_wv σ o va vb = (va + (σ.2.1 109 o 0), vb, va + (σ.2.1 109 o 0)) := by simp [sm_wv, k0, hab]
      rw [e9]
      exact cl_wo_t R hm V hg4 ho (va + (σ.2.1 109 o 0)) vb (va + (σ.2.1 109 o 0)) (w8)
    · have hab := (nI_eq (by have := gv_a V o; omega) (by have := gv_bk V o; omega)).mp hab
      refine gx_iload dX6_workOut_122 rfl ?_
      refine gx_goto dX6_workOut_124 (tgt := 129) (by decide) ?_
      refine gx_istore dX6_workOut_129 (by decide) rfl (L' := [some (.ref (A 6 0 0)), some (.int (nI g)), some (.int (nI o)), some (.int (nI (σ.1 107 o 0))), some (.int (nI (σ.1 108 o 0))), some (.int (va + (σ.2.1 109 o 0))), some (.int (va + (σ.2.1 109 o 0))), some (.int (va + (σ.2.1 109 o 0))), w8]) rfl ?_
      refine gx_goto dX6_workOut_131 (tgt := 235) (by decide) ?_
      have e9 : sm_wv σ o va vb = (va + (σ.2.1 109 o 0), va + (σ.2.1 109 o 0), va + (σ.2.1 109 o 0)) := by simp [sm_wv, k0, hab]
      rw [e9]
      exact cl_wo_t R hm V hg4 ho (va + (σ.2.1 109 o 0)) (va + (σ.2.1 109 o 0)) (va + (σ.2.1 109 o 0)) (w8)
def sm_va (σ : gs_T) (g o : Nat) : Int32 := if σ.1 107 o 0 % σ.1 100 0 0 = g then σ.2.1 103 (σ.1 107 o 0) 0 else σ.2.1 121 (4 * (40 * g + o) + σ.1 107 o 0 % σ.1 100 0 0) 0
def sm_vb (σ : gs_T) (g o : Nat) : Int32 := if σ.1 108 o 0 % σ.1 100 0 0 = g then σ.2.1 103 (σ.1 108 o 0) 0 else σ.2.1 122 (4 * (40 * g + o) + σ.1 108 o 0 % σ.1 100 0 0) 0
def sm_wo (σ : gs_T) (g o : Nat) : gs_T := sm_wt σ g o (sm_wv σ o (sm_va σ g o) (sm_vb σ g o)).1 (sm_wv σ o (sm_va σ g o) (sm_vb σ g o)).2.1 (sm_wv σ o (sm_va σ g o) (sm_vb σ g o)).2.2
set_option maxHeartbeats 4000000 in
theorem cc_X6_workOut {S : gx_S} {h : gx_H} {σ : gs_T} {A : gs_A} (R : gs_R h σ A) (hm : σ.1 31 0 0 = 1) (V : gv_V σ) {g o : Nat} (hg4 : g < 4) (ho : o < 40) : gx_Cn S gm_X6_workOut 3 [.ref (A 6 0 0), .int (nI g), .int (nI o)] h (fun r h' => gs_R h' (sm_wo σ g o) A ∧ gs_sm h h' ∧ r = none) := by
  refine gx_Cn.of gt_X6_workOut (by simp [Value.category]) (Nat.le_of_ble_eq_true rfl) ?_
  show gx_Ev S gm_X6_workOut 3 0 [some (.ref (A 6 0 0)), some (.int (nI g)), some (.int (nI o)), none, none, none, none, none, none] [] h _
  refine gx_aload_n dX6_workOut_0 rfl ?_
  refine gx_get dX6_workOut_1 gf_X6_26 (gs_g6 R hm) (v := .ref (A 27 0 0)) (rfl) ?_
  refine gx_iload_n dX6_workOut_4 rfl ?_
  refine gq_27 dX6_workOut_5 R hm (q := o) (rfl) (by first | omega | (have := gv_a V o; omega) | (have := gv_bk V o; omega) | (have := gv_cl V o; omega)) (v := nI (σ.1 107 o 0)) (rfl) ?_
  refine gx_istore_n dX6_workOut_6 (by decide) rfl (L' := [some (.ref (A 6 0 0)), some (.int (nI g)), some (.int (nI o)), some (.int (nI (σ.1 107 o 0))), none, none, none, none, none]) rfl ?_
  refine gx_aload_n dX6_workOut_7 rfl ?_
  refine gx_get dX6_workOut_8 gf_X6_29 (gs_g6 R hm) (v := .ref (A 28 0 0)) (rfl) ?_
  refine gx_iload_n dX6_workOut_11 rfl ?_
  refine gq_28 dX6_workOut_12 R hm (q := o) (rfl) (by first | omega | (have := gv_a V o; omega) | (have := gv_bk V o; omega) | (have := gv_cl V o; omega)) (v := nI (σ.1 108 o 0)) (rfl) ?_
  refine gx_istore dX6_workOut_13 (by decide) rfl (L' := [some (.ref (A 6 0 0)), some (.int (nI g)), some (.int (nI o)), some (.int (nI (σ.1 107 o 0))), some (.int (nI (σ.1 108 o 0))), none, none, none, none]) rfl ?_
  refine gx_iload_n dX6_workOut_15 rfl ?_
  refine gx_aload_n dX6_workOut_16 rfl ?_
  refine gx_get dX6_workOut_17 gf_X6_101 (gs_g6 R hm) (v := .int (nI (σ.1 100 0 0))) (rfl) ?_
  refine gx_irem dX6_workOut_20 (nI_ne0 (by have := gv_n2 V; omega) (by have := gv_n4 V; omega)) ?_
  rw [show ((nI (σ.1 107 o 0)) - (nI (σ.1 107 o 0)) / (nI (σ.1 100 0 0)) * (nI (σ.1 100 0 0)) : Int32) = nI (σ.1 107 o 0 % σ.1 100 0 0) from pk_rem (by have := gv_a V o; have := gv_bk V o; omega) (by have := gv_n2 V; omega) (by have := gv_n4 V; omega)]
  refine gx_iload_n dX6_workOut_21 rfl ?_
  refine gx_icmp_ne dX6_workOut_22 (tgt := 34) (by decide) (fun ha => ?_) (fun ha => ?_)
  · have ha : ¬ σ.1 107 o 0 % σ.1 100 0 0 = g := fun z => ha (congrArg nI z)
    refine gx_aload_n dX6_workOut_34 rfl ?_
    refine gx_get dX6_workOut_35 gf_X6_68 (gs_g6 R hm) (v := .ref (A 41 0 0)) (rfl) ?_
    refine gx_iload_n dX6_workOut_38 rfl ?_
    refine gx_iload_n dX6_workOut_39 rfl ?_
    refine gx_iload_n dX6_workOut_40 rfl ?_
    refine gx_aload_n dX6_workOut_41 rfl ?_
    refine gx_get dX6_workOut_42 gf_X6_101 (gs_g6 R hm) (v := .int (nI (σ.1 100 0 0))) (rfl) ?_
    refine gx_irem dX6_workOut_45 (nI_ne0 (by have := gv_n2 V; omega) (by have := gv_n4 V; omega)) ?_
    rw [show ((nI (σ.1 107 o 0)) - (nI (σ.1 107 o 0)) / (nI (σ.1 100 0 0)) * (nI (σ.1 100 0 0)) : Int32) = nI (σ.1 107 o 0 % σ.1 100 0 0) from pk_rem (by have := gv_a V o; have := gv_bk V o; omega) (by have := gv_n2 V; omega) (by have := gv_n4 V; omega)]
    refine gx_invS dX6_workOut_46 wm_X6_131 gt_X6_of ws_X6_of (As := [.int (nI g), .int (nI o), .int (nI (σ.1 107 o 0 % σ.1 100 0 0))]) (rest := [.ref (A 41 0 0)]) rfl rfl (Nat.le_of_ble_eq_true rfl) (by decide) (cc_X6_ofE (g := g) (o := o) (q := σ.1 107 o 0 % σ.1 100 0 0) (rfl) (rfl) (rfl)) (fun r1 h1 q1 => ?_)
    obtain ⟨rfl, rfl⟩ := q1
    show gx_Ev _ _ _ _ _ [.int (nI (4 * (40 * g + o) + (σ.1 107 o 0 % σ.1 100 0 0))), .ref (A 41 0 0)] _ _
    refine gq_41 dX6_workOut_49 R hm (q := 4 * (40 * g + o) + (σ.1 107 o 0 % σ.1 100 0 0)) (rfl) (by have := gv_n2 V; have := gv_n4 V; have := Nat.mod_lt (σ.1 107 o 0) (show 0 < σ.1 100 0 0 by omega); omega) (v := σ.2.1 121 (4 * (40 * g + o) + (σ.1 107 o 0 % σ.1 100 0 0)) 0) (rfl) ?_
    refine gx_istore dX6_workOut_50 (by decide) rfl (L' := [some (.ref (A 6 0 0)), some (.int (nI g)), some (.int (nI o)), some (.int (nI (σ.1 107 o 0))), some (.int (nI (σ.1 108 o 0))), some (.int (σ.2.1 121 (4 * (40 * g + o) + (σ.1 107 o 0 % σ.1 100 0 0)) 0)), none, none, none]) rfl ?_
    refine gx_iload dX6_workOut_52 rfl ?_
    refine gx_aload_n dX6_workOut_54 rfl ?_
    refine gx_get dX6_workOut_55 gf_X6_101 (gs_g6 R hm) (v := .int (nI (σ.1 100 0 0))) (rfl) ?_
    refine gx_irem dX6_workOut_58 (nI_ne0 (by have := gv_n2 V; omega) (by have := gv_n4 V; omega)) ?_
    rw [show ((nI (σ.1 108 o 0)) - (nI (σ.1 108 o 0)) / (nI (σ.1 100 0 0)) * (nI (σ.1 100 0 0)) : Int32) = nI (σ.1 108 o 0 % σ.1 100 0 0) from pk_rem (by have := gv_a V o; have := gv_bk V o; omega) (by have := gv_n2 V; omega) (by have := gv_n4 V; omega)]
    refine gx_iload_n dX6_workOut_59 rfl ?_
    refine gx_icmp_ne dX6_workOut_60 (tgt := 73) (by decide) (fun hb => ?_) (fun hb => ?_)
    · have hb : ¬ σ.1 108 o 0 % σ.1 100 0 0 = g := fun z => hb (congrArg nI z)
      refine gx_aload_n dX6_workOut_73 rfl ?_
      refine gx_get dX6_workOut_74 gf_X6_71 (gs_g6 R hm) (v := .ref (A 42 0 0)) (rfl) ?_
      refine gx_iload_n dX6_workOut_77 rfl ?_
      refine gx_iload_n dX6_workOut_78 rfl ?_
      refine gx_iload dX6_workOut_79 rfl ?_
      refine gx_aload_n dX6_workOut_81 rfl ?_
      refine gx_get dX6_workOut_82 gf_X6_101 (gs_g6 R hm) (v := .int (nI (σ.1 100 0 0))) (rfl) ?_
      refine gx_irem dX6_workOut_85 (nI_ne0 (by have := gv_n2 V; omega) (by have := gv_n4 V; omega)) ?_
      rw [show ((nI (σ.1 108 o 0)) - (nI (σ.1 108 o 0)) / (nI (σ.1 100 0 0)) * (nI (σ.1 100 0 0)) : Int32) = nI (σ.1 108 o 0 % σ.1 100 0 0) from pk_rem (by have := gv_a V o; have := gv_bk V o; omega) (by have := gv_n2 V; omega) (by have := gv_n4 V; omega)]
      refine gx_invS dX6_workOut_86 wm_X6_131 gt_X6_of ws_X6_of (As := [.int (nI g), .int (nI o), .int (nI (σ.1 108 o 0 % σ.1 100 0 0))]) (rest := [.ref (A 42 0 0)]) rfl rfl (Nat.le_of_ble_eq_true rfl) (by decide) (cc_X6_ofE (g := g) (o := o) (q := σ.1 108 o 0 % σ.1 100 0 0) (rfl) (rfl) (rfl)) (fun r1 h1 q1 => ?_)
      obtain ⟨rfl, rfl⟩ := q1
      show gx_Ev _ _ _ _ _ [.int (nI (4 * (40 * g + o) + (σ.1 108 o 0 % σ.1 100 0 0))), .ref (A 42 0 0)] _ _
      refine gq_42 dX6_workOut_89 R hm (q := 4 * (40 * g + o) + (σ.1 108 o 0 % σ.1 100 0 0)) (rfl) (by have := gv_n2 V; have := gv_n4 V; have := Nat.mod_lt (σ.1 108 o 0) (show 0 < σ.1 100 0 0 by omega); omega) (v := σ.2.1 122 (4 * (40 * g + o) + (σ.1 108 o 0 % σ.1 100 0 0)) 0) (rfl) ?_
      refine gx_istore dX6_workOut_90 (by decide) rfl (L' := [some (.ref (A 6 0 0)), some (.int (nI g)), some (.int (nI o)), some (.int (nI (σ.1 107 o 0))), some (.int (nI (σ.1 108 o 0))), some (.int (σ.2.1 121 (4 * (40 * g + o) + (σ.1 107 o 0 % σ.1 100 0 0)) 0)), some (.int (σ.2.1 122 (4 * (40 * g + o) + (σ.1 108 o 0 % σ.1 100 0 0)) 0)), none, none]) rfl ?_
      have e8 : sm_va σ g o = σ.2.1 121 (4 * (40 * g + o) + (σ.1 107 o 0 % σ.1 100 0 0)) 0 := by rw [sm_va, if_neg ha]
      have e9 : sm_vb σ g o = σ.2.1 122 (4 * (40 * g + o) + (σ.1 108 o 0 % σ.1 100 0 0)) 0 := by rw [sm_vb, if_neg hb]
      rw [sm_wo, e8, e9]
      exact cl_wo_m R hm V hg4 ho (σ.2.1 121 (4 * (40 * g + o) + (σ.1 107 o 0 % σ.1 100 0 0)) 0) (σ.2.1 122 (4 * (40 * g + o) + (σ.1 108 o 0 % σ.1 100 0 0)) 0) none none rfl
    · have hb := (nI_eq (by have := gv_n2 V; have := gv_n4 V; have := Nat.mod_lt (σ.1 108 o 0) (show 0 < σ.1 100 0 0 by omega); omega) (by omega)).mp hb
      refine gx_aload_n dX6_workOut_63 rfl ?_
      refine gx_get dX6_workOut_64 gf_X6_17 (gs_g6 R hm) (v := .ref (A 23 0 0)) (rfl) ?_
      refine gx_iload dX6_workOut_67 rfl ?_
      refine gq_23 dX6_workOut_69 R hm (q := σ.1 108 o 0) (rfl) (by first | omega | (have := gv_a V o; omega) | (have := gv_bk V o; omega) | (have := gv_cl V o; omega)) (v := σ.2.1 103 (σ.1 108 o 0) 0) (rfl) ?_
      refine gx_goto dX6_workOut_70 (tgt := 90) (by decide) ?_
      refine gx_istore dX6_workOut_90 (by decide) rfl (L' := [some (.ref (A 6 0 0)), some (.int (nI g)), some (.int (nI o)), some (.int (nI (σ.1 107 o 0))), some (.int (nI (σ.1 108 o 0))), some (.int (σ.2.1 121 (4 * (40 * g + o) + (σ.1 107 o 0 % σ.1 100 0 0)) 0)), some (.int (σ.2.1 103 (σ.1 108 o 0) 0)), none, none]) rfl ?_
      have e8 : sm_va σ g o = σ.2.1 121 (4 * (40 * g + o) + (σ.1 107 o 0 % σ.1 100 0 0)) 0 := by rw [sm_va, if_neg ha]
      have e9 : sm_vb σ g o = σ.2.1 103 (σ.1 108 o 0) 0 := by rw [sm_vb, if_pos hb]
      rw [sm_wo, e8, e9]
      exact cl_wo_m R hm V hg4 ho (σ.2.1 121 (4 * (40 * g + o) + (σ.1 107 o 0 % σ.1 100 0 0)) 0) (σ.2.1 103 (σ.1 108 o 0) 0) none none rfl
  · have ha := (nI_eq (by have := gv_n2 V; have := gv_n4 V; have := Nat.mod_lt (σ.1 107 o 0) (show 0 < σ.1 100 0 0 by omega); omega) (by omega)).mp ha
    refine gx_aload_n dX6_workOut_25 rfl ?_
    refine gx_get dX6_workOut_26 gf_X6_17 (gs_g6 R hm) (v := .ref (A 23 0 0)) (rfl) ?_
    refine gx_iload_n dX6_workOut_29 rfl ?_
    refine gq_23 dX6_workOut_30 R hm (q := σ.1 107 o 0) (rfl) (by first | omega | (have := gv_a V o; omega) | (have := gv_bk V o; omega) | (have := gv_cl V o; omega)) (v := σ.2.1 103 (σ.1 107 o 0) 0) (rfl) ?_
    refine gx_goto dX6_workOut_31 (tgt := 50) (by decide) ?_
    refine gx_istore dX6_workOut_50 (by decide) rfl (L' := [some (.ref (A 6 0 0)), some (.int (nI g)), some (.int (nI o)), some (.int (nI (σ.1 107 o 0))), some (.int (nI (σ.1 108 o 0))), some (.int (σ.2.1 103 (σ.1 107 o 0) 0)), none, none, none]) rfl ?_
    refine gx_iload dX6_workOut_52 rfl ?_
    refine gx_aload_n dX6_workOut_54 rfl ?_
    refine gx_get dX6_workOut_55 gf_X6_101 (gs_g6 R hm) (v := .int (nI (σ.1 100 0 0))) (rfl) ?_
    refine gx_irem dX6_workOut_58 (nI_ne0 (by have := gv_n2 V; omega) (by have := gv_n4 V; omega)) ?_
    rw [show ((nI (σ.1 108 o 0)) - (nI (σ.1 108 o 0)) / (nI (σ.1 100 0 0)) * (nI (σ.1 100 0 0)) : Int32) = nI (σ.1 108 o 0 % σ.1 100 0 0) from pk_rem (by have := gv_a V o; have := gv_bk V o; omega) (by have := gv_n2 V; omega) (by have := gv_n4 V; omega)]
    refine gx_iload_n dX6_workOut_59 rfl ?_
    refine gx_icmp_ne dX6_workOut_60 (tgt := 73) (by decide) (fun hb => ?_) (fun hb => ?_)
    · have hb : ¬ σ.1 108 o 0 % σ.1 100 0 0 = g := fun z => hb (congrArg nI z)
      refine gx_aload_n dX6_workOut_73 rfl ?_
      refine gx_get dX6_workOut_74 gf_X6_71 (gs_g6 R hm) (v := .ref (A 42 0 0)) (rfl) ?_
      refine gx_iload_n dX6_workOut_77 rfl ?_
      refine gx_iload_n dX6_workOut_78 rfl ?_
      refine gx_iload dX6_workOut_79 rfl ?_
      refine gx_aload_n dX6_workOut_81 rfl ?_
      refine gx_get dX6_workOut_82 gf_X6_101 (gs_g6 R hm) (v := .int (nI (σ.1 100 0 0))) (rfl) ?_
      refine gx_irem dX6_workOut_85 (nI_ne0 (by have := gv_n2 V; omega) (by have := gv_n4 V; omega)) ?_
      rw [show ((nI (σ.1 108 o 0)) - (nI (σ.1 108 o 0)) / (nI (σ.1 100 0 0)) * (nI (σ.1 100 0 0)) : Int32) = nI (σ.1 108 o 0 % σ.1 100 0 0) from pk_rem (by have := gv_a V o; have := gv_bk V o; omega) (by have := gv_n2 V; omega) (by have := gv_n4 V; omega)]
      refine gx_invS dX6_workOut_86 wm_X6_131 gt_X6_of ws_X6_of (As := [.int (nI g), .int (nI o), .int (nI (σ.1 108 o 0 % σ.1 100 0 0))]) (rest := [.ref (A 42 0 0)]) rfl rfl (Nat.le_of_ble_eq_true rfl) (by decide) (cc_X6_ofE (g := g) (o := o) (q := σ.1 108 o 0 % σ.1 100 0 0) (rfl) (rfl) (rfl)) (fun r1 h1 q1 => ?_)
      obtain ⟨rfl, rfl⟩ := q1
      show gx_Ev _ _ _ _ _ [.int (nI (4 * (40 * g + o) + (σ.1 108 o 0 % σ.1 100 0 0))), .ref (A 42 0 0)] _ _
      refine gq_42 dX6_workOut_89 R hm (q := 4 * (40 * g + o) + (σ.1 108 o 0 % σ.1 100 0 0)) (rfl) (by have := gv_n2 V; have := gv_n4 V; have := Nat.mod_lt (σ.1 108 o 0) (show 0 < σ.1 100 0 0 by omega); omega) (v := σ.2.1 122 (4 * (40 * g + o) + (σ.1 108 o 0 % σ.1 100 0 0)) 0) (rfl) ?_
      refine gx_istore dX6_workOut_90 (by decide) rfl (L' := [some (.ref (A 6 0 0)), some (.int (nI g)), some (.int (nI o)), some (.int (nI (σ.1 107 o 0))), some (.int (nI (σ.1 108 o 0))), some (.int (σ.2.1 103 (σ.1 107 o 0) 0)), some (.int (σ.2.1 122 (4 * (40 * g + o) + (σ.1 108 o 0 % σ.1 100 0 0)) 0)), none, none]) rfl ?_
      have e8 : sm_va σ g o = σ.2.1 103 (σ.1 107 o 0) 0 := by rw [sm_va, if_pos ha]
      have e9 : sm_vb σ g o = σ.2.1 122 (4 * (40 * g + o) + (σ.1 108 o 0 % σ.1 100 0 0)) 0 := by rw [sm_vb, if_neg hb]
      rw [sm_wo, e8, e9]
      exact cl_wo_m R hm V hg4 ho (σ.2.1 103 (σ.1 107 o 0) 0) (σ.2.1 122 (4 * (40 * g + o) + (σ.1 108 o 0 % σ.1 100 0 0)) 0) none none rfl
    · have hb := (nI_eq (by have := gv_n2 V; have := gv_n4 V; have := Nat.mod_lt (σ.1 108 o 0) (show 0 < σ.1 100 0 0 by omega); omega) (by omega)).mp hb
      refine gx_aload_n dX6_workOut_63 rfl ?_
      refine gx_get dX6_workOut_64 gf_X6_17 (gs_g6 R hm) (v := .ref (A 23 0 0)) (rfl) ?_
      refine gx_iload dX6_workOut_67 rfl ?_
      refine gq_23 dX6_workOut_69 R hm (q := σ.1 108 o 0) (rfl) (by first | omega | (have := gv_a V o; omega) | (have := gv_bk V o; omega) | (have := gv_cl V o; omega)) (v := σ.2.1 103 (σ.1 108 o 0) 0) (rfl) ?_
      refine gx_goto dX6_workOut_70 (tgt := 90) (by decide) ?_
      refine gx_istore dX6_workOut_90 (by decide) rfl (L' := [some (.ref (A 6 0 0)), some (.int (nI g)), some (.int (nI o)), some (.int (nI (σ.1 107 o 0))), some (.int (nI (σ.1 108 o 0))), some (.int (σ.2.1 103 (σ.1 107 o 0) 0)), some (.int (σ.2.1 103 (σ.1 108 o 0) 0)), none, none]) rfl ?_
      have e8 : sm_va σ g o = σ.2.1 103 (σ.1 107 o 0) 0 := by rw [sm_va, if_pos ha]
      have e9 : sm_vb σ g o = σ.2.1 103 (σ.1 108 o 0) 0 := by rw [sm_vb, if_pos hb]
      rw [sm_wo, e8, e9]
      exact cl_wo_m R hm V hg4 ho (σ.2.1 103 (σ.1 107 o 0) 0) (σ.2.1 103 (σ.1 108 o 0) 0) none none rfl
end
section
/-! the reference: works -/
def sm_wk (σ : gs_T) (g m k : Nat) : Nat := match m with
  | 0 => k
  | m + 1 => if σ.2.1 118 (40 * g + σ.1 124 (40 * g + k) 0) 0 = 0 then k else sm_wk σ g m (k + 1)
theorem sm_wk_le (σ : gs_T) (g m k : Nat) : sm_wk σ g m k ≤ k + m := by
  induction m generalizing k with
  | zero => exact Nat.le_refl _
  | succ m ih =>
    rw [sm_wk]
    split
    · omega
    · have := ih (k + 1)
      omega
abbrev sm_wbc (σ : gs_T) (g o q : Nat) : Prop := ¬ q = g ∧ gv_of σ q o ∧ σ.2.1 120 (4 * (40 * g + o) + q) 0 = 0
def sm_wb (σ : gs_T) (g o m q : Nat) : Bool := match m with
  | 0 => true
  | m + 1 => if sm_wbc σ g o q then false else sm_wb σ g o m (q + 1)
def sm_wx (σ : gs_T) (g : Nat) : Nat := sm_wk σ g (σ.1 123 g 0) 0
def sm_wo_ (σ : gs_T) (g : Nat) : Nat := σ.1 124 (40 * g + sm_wx σ g) 0
def sm_ws (σ : gs_T) (g : Nat) : gs_T := if sm_wx σ g = σ.1 123 g 0 then σ else if σ.2.1 117 (40 * g + sm_wo_ σ g) 0 = 0 then sm_po (gs_i σ 117 (40 * g + sm_wo_ σ g) 0 1) 2 (sm_wo_ σ g) (g + 1) (-1) (σ.1 100 0 0) else if sm_wb σ g (sm_wo_ σ g) (σ.1 100 0 0) 0 = true then sm_wo σ g (sm_wo_ σ g) else σ
def sm_wr (σ : gs_T) (g : Nat) : Int32 := if sm_wx σ g = σ.1 123 g 0 then 0 else if σ.2.1 117 (40 * g + sm_wo_ σ g) 0 = 0 then 1 else if sm_wb σ g (sm_wo_ σ g) (σ.1 100 0 0) 0 = true then 1 else 0
set_option maxHeartbeats 4000000 in
theorem cl_w1 {S : gx_S} {h : gx_H} {σ : gs_T} {A : gs_A} (R : gs_R h σ A) (hm : σ.1 31 0 0 = 1) (V : gv_V σ) {g : Nat} (hg4 : g < 4) (w3 w4 : Option Value) {Q : Option Value → gx_H → Prop} : ∀ (m k : Nat), k + m = σ.1 123 g 0 → gx_Ev S gm_X6_works 4 40 [some (.ref (A 6 0 0)), some (.int (nI g)), some (.int (nI (sm_wk σ g m k))), w3, w4] [] h Q → gx_Ev S gm_X6_works 4 2 [some (.ref (A 6 0 0)), some (.int (nI g)), some (.int (nI k)), w3, w4] [] h Q := by
  intro m
  induction m with
  | zero =>
    intro k hk K
    have hqn : k = σ.1 123 g 0 := by omega
    have h40 := gv_tc V g
    refine gx_iload_n dX6_works_2 rfl ?_
    refine gx_aload_n dX6_works_3 rfl ?_
    refine gx_get dX6_works_4 gf_X6_74 (gs_g6 R hm) (v := .ref (A 43 0 0)) (rfl) ?_
    refine gx_iload_n dX6_works_7 rfl ?_
    refine gq_43 dX6_works_8 R hm (q := g) (rfl) (by omega) (v := nI (σ.1 123 g 0)) (rfl) ?_
    refine gx_icmp_ge dX6_works_9 (tgt := 40) (by decide) (fun hc1 => ?_) (fun hc1 => absurd hc1 (fun z => z (by rw [hqn]; exact nI_le (Nat.le_refl _) (by omega))))
    exact K
  | succ m ih =>
    intro k hk K
    have h40 := gv_tc V g
    have hqn : k < σ.1 123 g 0 := by omega
    have hrow := gv_tr V (40 * g + k)
    refine gx_iload_n dX6_works_2 rfl ?_
    refine gx_aload_n dX6_works_3 rfl ?_
    refine gx_get dX6_works_4 gf_X6_74 (gs_g6 R hm) (v := .ref (A 43 0 0)) (rfl) ?_
    refine gx_iload_n dX6_works_7 rfl ?_
    refine gq_43 dX6_works_8 R hm (q := g) (rfl) (by omega) (v := nI (σ.1 123 g 0)) (rfl) ?_
    refine gx_icmp_ge dX6_works_9 (tgt := 40) (by decide) (fun hc0 => absurd hc0 (nI_ge (by omega) (by omega))) (fun hc0 => ?_)
    refine gx_aload_n dX6_works_12 rfl ?_
    refine gx_get dX6_works_13 gf_X6_59 (gs_g6 R hm) (v := .ref (A 38 0 0)) (rfl) ?_
    refine gx_iload_n dX6_works_16 rfl ?_
    refine gx_aload_n dX6_works_17 rfl ?_
    refine gx_get dX6_works_18 gf_X6_77 (gs_g6 R hm) (v := .ref (A 44 0 0)) (rfl) ?_
    refine gx_iload_n dX6_works_21 rfl ?_
    refine gx_iload_n dX6_works_22 rfl ?_
    refine gx_invS dX6_works_23 wm_X6_105 gt_X6_at ws_X6_at (As := [.int (nI g), .int (nI k)]) (rest := [.ref (A 44 0 0), .int (nI g), .ref (A 38 0 0)]) rfl rfl (Nat.le_of_ble_eq_true rfl) (by decide) (cc_X6_atE (g := g) (o := k) (rfl) (rfl)) (fun r1 h1 q1 => ?_)
    obtain ⟨rfl, rfl⟩ := q1
    show gx_Ev _ _ _ _ _ [.int (nI (40 * g + k)), .ref (A 44 0 0), .int (nI g), .ref (A 38 0 0)] _ _
    refine gq_44 dX6_works_26 R hm (q := 40 * g + k) (rfl) (by omega) (v := nI (σ.1 124 (40 * g + k) 0)) (rfl) ?_
    refine gx_invS dX6_works_27 wm_X6_105 gt_X6_at ws_X6_at (As := [.int (nI g), .int (nI (σ.1 124 (40 * g + k) 0))]) (rest := [.ref (A 38 0 0)]) rfl rfl (Nat.le_of_ble_eq_true rfl) (by decide) (cc_X6_atE (g := g) (o := σ.1 124 (40 * g + k) 0) (rfl) (rfl)) (fun r1 h1 q1 => ?_)
    obtain ⟨rfl, rfl⟩ := q1
    show gx_Ev _ _ _ _ _ [.int (nI (40 * g + (σ.1 124 (40 * g + k) 0))), .ref (A 38 0 0)] _ _
    refine gq_38 dX6_works_30 R hm (q := 40 * g + (σ.1 124 (40 * g + k) 0)) (rfl) (by omega) (v := σ.2.1 118 (40 * g + (σ.1 124 (40 * g + k) 0)) 0) (rfl) ?_
    refine gx_if_eq dX6_works_31 (tgt := 40) (by decide) (fun hc1 => ?_) (fun hc1 => ?_)
    · rw [sm_wk, if_pos hc1] at K
      exact K
    · refine gx_iinc dX6_works_34 rfl (v := nI (k + 1)) (nI_1 _) (by decide) rfl (L' := [some (.ref (A 6 0 0)), some (.int (nI g)), some (.int (nI (k + 1))), w3, w4]) rfl ?_
      refine gx_goto dX6_works_37 (tgt := 2) (by decide) ?_
      rw [sm_wk, if_neg hc1] at K
      exact ih (k + 1) (by omega) K
set_option maxHeartbeats 4000000 in
theorem cl_w2 {S : gx_S} {h : gx_H} {σ : gs_T} {A : gs_A} (R : gs_R h σ A) (hm : σ.1 31 0 0 = 1) (V : gv_V σ) {g o : Nat} (hg4 : g < 4) (ho : o < 40) (w2 : Option Value) : ∀ (m q : Nat), q + m = σ.1 100 0 0 → gx_Ev S gm_X6_works 4 100 [some (.ref (A 6 0 0)), some (.int (nI g)), w2, some (.int (nI o)), some (.int (nI q))] [] h (fun r h' => gx_rt (some .boolean) r ∧ gs_R h' (if sm_wb σ g o m q = true then sm_wo σ g o else σ) A ∧ gs_sm h h' ∧ r = some (.int (if sm_wb σ g o m q = true then 1 else 0))) := by
  intro m
  induction m with
  | zero =>
    intro q hk
    have hqn : q = σ.1 100 0 0 := by omega
    have h40 := gv_n4 V
    refine gx_iload dX6_works_100 rfl ?_
    refine gx_aload_n dX6_works_102 rfl ?_
    refine gx_get dX6_works_103 gf_X6_101 (gs_g6 R hm) (v := .int (nI (σ.1 100 0 0))) (rfl) ?_
    refine gx_icmp_ge dX6_works_106 (tgt := 148) (by decide) (fun hc1 => ?_) (fun hc1 => absurd hc1 (fun z => z (by rw [hqn]; exact nI_le (Nat.le_refl _) (by omega))))
    refine gx_aload_n dX6_works_148 rfl ?_
    refine gx_iload_n dX6_works_149 rfl ?_
    refine gx_iload_n dX6_works_150 rfl ?_
    refine gx_invV dX6_works_151 wm_X6_152 gt_X6_workOut wy_X6_workOut wl_X6_workOut (ci := 6) rfl rfl (gs_g6 R hm) (As := [.int (nI g), .int (nI o)]) (rest := []) rfl rfl (Nat.le_of_ble_eq_true rfl) (by decide) (cc_X6_workOut R hm V (g := g) (o := o) hg4 ho) (fun r1 h1 q1 => ?_)
    obtain ⟨R, hs0, rfl⟩ := q1
    show gx_Ev _ _ _ _ _ [] _ _
    refine gx_iconst dX6_works_154 (v := 1) (by decide) ?_
    refine gx_ireturn dX6_works_155 ?_
    exact ⟨⟨_, rfl, rfl⟩, R, (gs_sm.rfl.trans hs0), rfl⟩
  | succ m ih =>
    intro q hk
    have h40 := gv_n4 V
    have hqn : q < σ.1 100 0 0 := by omega
    refine gx_iload dX6_works_100 rfl ?_
    refine gx_aload_n dX6_works_102 rfl ?_
    refine gx_get dX6_works_103 gf_X6_101 (gs_g6 R hm) (v := .int (nI (σ.1 100 0 0))) (rfl) ?_
    refine gx_icmp_ge dX6_works_106 (tgt := 148) (by decide) (fun hc0 => absurd hc0 (nI_ge (by omega) (by omega))) (fun hc0 => ?_)
    refine gx_iload dX6_works_109 rfl ?_
    refine gx_iload_n dX6_works_111 rfl ?_
    refine gx_icmp_eq dX6_works_112 (tgt := 142) (by decide) (fun hc1 => ?_) (fun hc1 => ?_)
    · have hc1 := (nI_eq (by omega) (by omega)).mp hc1
      refine gx_iinc dX6_works_142 rfl (v := nI (q + 1)) (nI_1 _) (by decide) rfl (L' := [some (.ref (A 6 0 0)), some (.int (nI g)), w2, some (.int (nI o)), some (.int (nI (q + 1)))]) rfl ?_
      refine gx_goto dX6_works_145 (tgt := 100) (by decide) ?_
      have e9 : sm_wb σ g o (m + 1) q = sm_wb σ g o m (q + 1) := by rw [sm_wb, if_neg (fun z => z.1 hc1)]
      rw [e9]
      exact ih (q + 1) (by omega)
    · have hc1 : ¬ q = g := fun z => hc1 (congrArg nI z)
      refine gx_aload_n dX6_works_115 rfl ?_
      refine gx_iload dX6_works_116 rfl ?_
      refine gx_iload_n dX6_works_118 rfl ?_
      refine gx_invV dX6_works_119 wm_X6_112 gt_X6_isOf wy_X6_isOf wl_X6_isOf (ci := 6) rfl rfl (gs_g6 R hm) (As := [.int (nI q), .int (nI o)]) (rest := []) rfl rfl (Nat.le_of_ble_eq_true rfl) (by decide) (cc_X6_isOf R hm V (g := q) (o := o) (by omega) (ho)) (fun r1 h1 q1 => ?_)
      obtain ⟨rfl, rfl⟩ := q1
      show gx_Ev _ _ _ _ _ [.int (gs_bi (gv_of σ q o))] _ _
      refine gx_if_eq dX6_works_122 (tgt := 142) (by decide) (fun hc2 => ?_) (fun hc2 => ?_)
      · have hc2 := gs_b0 hc2
        refine gx_iinc dX6_works_142 rfl (v := nI (q + 1)) (nI_1 _) (by decide) rfl (L' := [some (.ref (A 6 0 0)), some (.int (nI g)), w2, some (.int (nI o)), some (.int (nI (q + 1)))]) rfl ?_
        refine gx_goto dX6_works_145 (tgt := 100) (by decide) ?_
        have e9 : sm_wb σ g o (m + 1) q = sm_wb σ g o m (q + 1) := by rw [sm_wb, if_neg (fun z => hc2 z.2.1)]
        rw [e9]
        exact ih (q + 1) (by omega)
      · have hc2 := gs_b1 hc2
        refine gx_aload_n dX6_works_125 rfl ?_
        refine gx_get dX6_works_126 gf_X6_65 (gs_g6 R hm) (v := .ref (A 40 0 0)) (rfl) ?_
        refine gx_iload_n dX6_works_129 rfl ?_
        refine gx_iload_n dX6_works_130 rfl ?_
        refine gx_iload dX6_works_131 rfl ?_
        refine gx_invS dX6_works_133 wm_X6_131 gt_X6_of ws_X6_of (As := [.int (nI g), .int (nI o), .int (nI q)]) (rest := [.ref (A 40 0 0)]) rfl rfl (Nat.le_of_ble_eq_true rfl) (by decide) (cc_X6_ofE (g := g) (o := o) (q := q) (rfl) (rfl) (rfl)) (fun r1 h1 q1 => ?_)
        obtain ⟨rfl, rfl⟩ := q1
        show gx_Ev _ _ _ _ _ [.int (nI (4 * (40 * g + o) + q)), .ref (A 40 0 0)] _ _
        refine gq_40 dX6_works_136 R hm (q := 4 * (40 * g + o) + q) (rfl) (by omega) (v := σ.2.1 120 (4 * (40 * g + o) + q) 0) (rfl) ?_
        refine gx_if_ne dX6_works_137 (tgt := 142) (by decide) (fun hc3 => ?_) (fun hc3 => ?_)
        · refine gx_iinc dX6_works_142 rfl (v := nI (q + 1)) (nI_1 _) (by decide) rfl (L' := [some (.ref (A 6 0 0)), some (.int (nI g)), w2, some (.int (nI o)), some (.int (nI (q + 1)))]) rfl ?_
          refine gx_goto dX6_works_145 (tgt := 100) (by decide) ?_
          have e9 : sm_wb σ g o (m + 1) q = sm_wb σ g o m (q + 1) := by rw [sm_wb, if_neg (fun z => hc3 z.2.2)]
          rw [e9]
          exact ih (q + 1) (by omega)
        · refine gx_iconst dX6_works_140 (v := 0) (by decide) ?_
          refine gx_ireturn dX6_works_141 ?_
          have e9 : sm_wb σ g o (m + 1) q = false := by rw [sm_wb, if_pos ⟨hc1, hc2, hc3⟩]
          rw [e9]
          exact ⟨⟨_, rfl, rfl⟩, R, gs_sm.rfl, rfl⟩
set_option maxHeartbeats 4000000 in
theorem cc_X6_works {S : gx_S} {h : gx_H} {σ : gs_T} {A : gs_A} (R : gs_R h σ A) (hm : σ.1 31 0 0 = 1) (V : gv_V σ) {g : Nat} (hg4 : g < 4) (hg : g < σ.1 100 0 0) (hF : σ.1 125 0 0 + 4 ≤ 400) : gx_Cn S gm_X6_works 4 [.ref (A 6 0 0), .int (nI g)] h (fun r h' => gs_R h' (sm_ws σ g) A ∧ gs_sm h h' ∧ r = some (.int (sm_wr σ g))) := by
  refine gx_Cn.of gt_X6_works (by simp [Value.category]) (Nat.le_of_ble_eq_true rfl) ?_
  show gx_Ev S gm_X6_works 4 0 [some (.ref (A 6 0 0)), some (.int (nI g)), none, none, none] [] h _
  refine gx_iconst dX6_works_0 (v := 0) (by decide) ?_
  refine gx_istore_n dX6_works_1 (by decide) rfl (L' := [some (.ref (A 6 0 0)), some (.int (nI g)), some (.int 0), none, none]) rfl ?_
  refine cl_w1 R hm V hg4 none none _ 0 (Nat.zero_add _) ?_
  have hle := sm_wk_le σ g (σ.1 123 g 0) 0
  have h40 := gv_tc V g
  have hrow := gv_tr V (40 * g + sm_wx σ g)
  show gx_Ev S gm_X6_works 4 40 [some (.ref (A 6 0 0)), some (.int (nI g)), some (.int (nI (sm_wx σ g))), none, none] [] h _
  have hle : sm_wx σ g ≤ σ.1 123 g 0 := by rw [sm_wx]; omega
  refine gx_iload_n dX6_works_40 rfl ?_
  refine gx_aload_n dX6_works_41 rfl ?_
  refine gx_get dX6_works_42 gf_X6_74 (gs_g6 R hm) (v := .ref (A 43 0 0)) (rfl) ?_
  refine gx_iload_n dX6_works_45 rfl ?_
  refine gq_43 dX6_works_46 R hm (q := g) (rfl) (by omega) (v := nI (σ.1 123 g 0)) (rfl) ?_
  refine gx_icmp_ne dX6_works_47 (tgt := 52) (by decide) (fun hc1 => ?_) (fun hc1 => ?_)
  · have hc1 : ¬ sm_wx σ g = σ.1 123 g 0 := fun z => hc1 (congrArg nI z)
    refine gx_aload_n dX6_works_52 rfl ?_
    refine gx_get dX6_works_53 gf_X6_77 (gs_g6 R hm) (v := .ref (A 44 0 0)) (rfl) ?_
    refine gx_iload_n dX6_works_56 rfl ?_
    refine gx_iload_n dX6_works_57 rfl ?_
    refine gx_invS dX6_works_58 wm_X6_105 gt_X6_at ws_X6_at (As := [.int (nI g), .int (nI (sm_wx σ g))]) (rest := [.ref (A 44 0 0)]) rfl rfl (Nat.le_of_ble_eq_true rfl) (by decide) (cc_X6_atE (g := g) (o := sm_wx σ g) (rfl) (rfl)) (fun r1 h1 q1 => ?_)
    obtain ⟨rfl, rfl⟩ := q1
    show gx_Ev _ _ _ _ _ [.int (nI (40 * g + (sm_wx σ g))), .ref (A 44 0 0)] _ _
    refine gq_44 dX6_works_61 R hm (q := 40 * g + (sm_wx σ g)) (rfl) (by omega) (v := nI (σ.1 124 (40 * g + (sm_wx σ g)) 0)) (rfl) ?_
    refine gx_istore_n dX6_works_62 (by decide) rfl (L' := [some (.ref (A 6 0 0)), some (.int (nI g)), some (.int (nI (sm_wx σ g))), some (.int (nI (σ.1 124 (40 * g + (sm_wx σ g)) 0))), none]) rfl ?_
    refine gx_aload_n dX6_works_63 rfl ?_
    refine gx_get dX6_works_64 gf_X6_56 (gs_g6 R hm) (v := .ref (A 37 0 0)) (rfl) ?_
    refine gx_iload_n dX6_works_67 rfl ?_
    refine gx_iload_n dX6_works_68 rfl ?_
    refine gx_invS dX6_works_69 wm_X6_105 gt_X6_at ws_X6_at (As := [.int (nI g), .int (nI (σ.1 124 (40 * g + (sm_wx σ g)) 0))]) (rest := [.ref (A 37 0 0)]) rfl rfl (Nat.le_of_ble_eq_true rfl) (by decide) (cc_X6_atE (g := g) (o := σ.1 124 (40 * g + (sm_wx σ g)) 0) (rfl) (rfl)) (fun r1 h1 q1 => ?_)
    obtain ⟨rfl, rfl⟩ := q1
    show gx_Ev _ _ _ _ _ [.int (nI (40 * g + (σ.1 124 (40 * g + (sm_wx σ g)) 0))), .ref (A 37 0 0)] _ _
    refine gq_37 dX6_works_72 R hm (q := 40 * g + (σ.1 124 (40 * g + (sm_wx σ g)) 0)) (rfl) (by omega) (v := σ.2.1 117 (40 * g + (σ.1 124 (40 * g + (sm_wx σ g)) 0)) 0) (rfl) ?_
    refine gx_if_ne dX6_works_73 (tgt := 97) (by decide) (fun hc2 => ?_) (fun hc2 => ?_)
    · have hc2 : ¬ σ.2.1 117 (40 * g + sm_wo_ σ g) 0 = 0 := hc2
      refine gx_iconst dX6_works_97 (v := 0) (by decide) ?_
      refine gx_istore dX6_works_98 (by decide) rfl (L' := [some (.ref (A 6 0 0)), some (.int (nI g)), some (.int (nI (sm_wx σ g))), some (.int (nI (σ.1 124 (40 * g + (sm_wx σ g)) 0))), some (.int 0)]) rfl ?_
      have k := cl_w2 (S := S) R hm V hg4 hrow (some (.int (nI (sm_wx σ g)))) _ 0 (Nat.zero_add _)
      refine k.mono (fun r h9 hq9 => ⟨hq9.1, ?_, hq9.2.2.1, ?_⟩)
      · rw [sm_ws, if_neg hc1, if_neg hc2]; exact hq9.2.1
      · rw [sm_wr, if_neg hc1, if_neg hc2]; exact hq9.2.2.2
    · have hc2 : σ.2.1 117 (40 * g + sm_wo_ σ g) 0 = 0 := hc2
      refine gx_aload_n dX6_works_76 rfl ?_
      refine gx_get dX6_works_77 gf_X6_56 (gs_g6 R hm) (v := .ref (A 37 0 0)) (rfl) ?_
      refine gx_iload_n dX6_works_80 rfl ?_
      refine gx_iload_n dX6_works_81 rfl ?_
      refine gx_invS dX6_works_82 wm_X6_105 gt_X6_at ws_X6_at (As := [.int (nI g), .int (nI (σ.1 124 (40 * g + (sm_wx σ g)) 0))]) (rest := [.ref (A 37 0 0)]) rfl rfl (Nat.le_of_ble_eq_true rfl) (by decide) (cc_X6_atE (g := g) (o := σ.1 124 (40 * g + (sm_wx σ g)) 0) (rfl) (rfl)) (fun r1 h1 q1 => ?_)
      obtain ⟨rfl, rfl⟩ := q1
      show gx_Ev _ _ _ _ _ [.int (nI (40 * g + (σ.1 124 (40 * g + (sm_wx σ g)) 0))), .ref (A 37 0 0)] _ _
      refine gx_iconst dX6_works_85 (v := 1) (by decide) ?_
      refine ga_I117 (σ := σ) hm dX6_works_86 R (by first | exact Or.inl rfl | exact Or.inr rfl) (q := 40 * g + (σ.1 124 (40 * g + (sm_wx σ g)) 0)) (v := 1) (rfl) (by omega) (fun h R hs0 => ?_)
      refine gx_aload_n dX6_works_87 rfl ?_
      refine gx_iconst dX6_works_88 (v := 2) (by decide) ?_
      refine gx_iload_n dX6_works_89 rfl ?_
      refine gx_iload_n dX6_works_90 rfl ?_
      refine gx_iconst dX6_works_91 (v := (-1)) (by decide) ?_
      refine gx_invV dX6_works_92 wm_X6_127 gt_X6_putOthers wy_X6_putOthers wl_X6_putOthers (ci := 6) rfl rfl (gs_g6 R hm) (As := [.int 2, .int (nI (σ.1 124 (40 * g + (sm_wx σ g)) 0)), .int (nI g), .int (-1)]) (rest := []) rfl rfl (Nat.le_of_ble_eq_true rfl) (by decide) (cc_X6_putOthers R hm V 2 (o := σ.1 124 (40 * g + (sm_wx σ g)) 0) (f := g + 1) (-1) (hrow) (hg) (hF)) (fun r1 h1 q1 => ?_)
      obtain ⟨R, hs1, rfl⟩ := q1
      show gx_Ev _ _ _ _ _ [] _ _
      refine gx_iconst dX6_works_95 (v := 1) (by decide) ?_
      refine gx_ireturn dX6_works_96 ?_
      exact ⟨⟨_, rfl, rfl⟩, by rw [sm_ws, if_neg hc1, if_pos hc2]; exact R, ((gs_sm.rfl.trans hs0).trans hs1), by rw [sm_wr, if_neg hc1, if_pos hc2]⟩
  · have hc1 := (nI_eq (by omega) (by omega)).mp hc1
    refine gx_iconst dX6_works_50 (v := 0) (by decide) ?_
    refine gx_ireturn dX6_works_51 ?_
    exact ⟨⟨_, rfl, rfl⟩, by rw [sm_ws, if_pos hc1]; exact R, gs_sm.rfl, by rw [sm_wr, if_pos hc1]⟩
end
section
/-! the reference: comes, bring, twice -/
def sm_st (σ : gs_T) (g : Nat) : gs_T := match sm_mf σ g (σ.1 104 0 0) 0 with
  | some o => sm_mf1 σ g o
  | none => if sm_tc σ g then sm_tks σ g else sm_ws σ g
def sm_sb (σ : gs_T) (g : Nat) : Bool := match sm_mf σ g (σ.1 104 0 0) 0 with
  | some _ => true
  | none => if sm_tc σ g then true else if sm_wr σ g = 0 then false else true
def sm_lp (g n : Nat) (σ : gs_T) : gs_T := match n with
  | 0 => σ
  | n + 1 => if sm_sb σ g = true then sm_lp g n (sm_st σ g) else sm_st σ g
def sm_ok (g n : Nat) (σ : gs_T) : Prop := match n with
  | 0 => False
  | n + 1 => (gv_V σ ∧ σ.1 31 0 0 = 1 ∧ g < σ.1 100 0 0 ∧ σ.1 125 0 0 + 4 ≤ 400 ∧ (sm_tc σ g → σ.1 123 g 0 < 40)) ∧ (sm_sb σ g = true → sm_ok g n (sm_st σ g))
set_option maxHeartbeats 4000000 in
theorem cl_cm {S : gx_S} {h0 : gx_H} {A : gs_A} {g : Nat} (hg4 : g < 4) (w1 w3 : Option Value) (g3 : gx_ok [none, none, none, w3] 4 = true) : ∀ (n : Nat) (σ : gs_T) (h : gx_H), gs_R h σ A → gs_sm h0 h → sm_ok g n σ → gx_Ev S gm_X6_comes 5 160 [some (.ref (A 6 0 0)), w1, some (.int (nI g)), w3, some (.int 1)] [] h (fun r h' => gx_rt none r ∧ gs_R h' (sm_lp g n σ) A ∧ gs_sm h0 h' ∧ r = none) := by
  intro n
  induction n with
  | zero => intro σ h R hs0 hok; exact hok.elim
  | succ n ih =>
    intro σ h R hs hok
    obtain ⟨⟨V, hm, hg, hF, hT⟩, hnext⟩ := hok
    rcases hmf : sm_mf σ g (σ.1 104 0 0) 0 with _ | o1
    · by_cases htk : sm_tc σ g
      · refine gx_iload dX6_comes_160 rfl ?_
        refine gx_if_eq dX6_comes_162 (tgt := 199) (by decide) (fun hc1 => absurd hc1 (by decide)) (fun hc1 => ?_)
        refine gx_aload_n dX6_comes_165 rfl ?_
        refine gx_iload_n dX6_comes_166 rfl ?_
        refine gx_invV dX6_comes_167 wm_X6_142 gt_X6_makesFinal wy_X6_makesFinal wl_X6_makesFinal (ci := 6) rfl rfl (gs_g6 R hm) (As := [.int (nI g)]) (rest := []) rfl rfl (Nat.le_of_ble_eq_true rfl) (by decide) (cc_X6_makesFinal R hm V (g := g) hg4) (fun r1 h1 q1 => ?_)
        rw [hmf] at q1
        obtain ⟨R, hs0, rfl⟩ := q1
        have R : gs_R _ σ A := R
        show gx_Ev _ _ _ _ _ [.int 0] _ _
        refine gx_if_ne dX6_comes_170 (tgt := 189) (by decide) (fun hc2 => absurd hc2 (by decide)) (fun hc2 => ?_)
        refine gx_aload_n dX6_comes_173 rfl ?_
        refine gx_iload_n dX6_comes_174 rfl ?_
        refine gx_invV dX6_comes_175 wm_X6_146 gt_X6_takes wy_X6_takes wl_X6_takes (ci := 6) rfl rfl (gs_g6 R hm) (As := [.int (nI g)]) (rest := []) rfl rfl (Nat.le_of_ble_eq_true rfl) (by decide) (cc_X6_takes R hm V (g := g) hg4 hT) (fun r1 h1 q1 => ?_)
        rw [← gs_bt htk] at q1
        obtain ⟨R, hs1, rfl⟩ := q1
        have R : gs_R _ (sm_tks σ g) A := R
        show gx_Ev _ _ _ _ _ [.int 1] _ _
        refine gx_if_ne dX6_comes_178 (tgt := 189) (by decide) (fun hc3 => ?_) (fun hc3 => absurd hc3 (by decide))
        refine gx_iconst dX6_comes_189 (v := 1) (by decide) ?_
        refine gx_goto dX6_comes_190 (tgt := 194) (by decide) ?_
        refine gx_istore dX6_comes_194 (by decide) g3 (L' := [some (.ref (A 6 0 0)), w1, some (.int (nI g)), w3, some (.int 1)]) rfl ?_
        refine gx_goto dX6_comes_196 (tgt := 160) (by decide) ?_
        have eb : sm_sb σ g = true := by rw [sm_sb, hmf]; simp [htk]
        have es : sm_st σ g = sm_tks σ g := by rw [sm_st, hmf]; simp [htk]
        rw [sm_lp, if_pos eb, es]
        exact ih _ _ R ((hs.trans hs0).trans hs1) (es ▸ hnext eb)
      · by_cases hwr : sm_wr σ g = 0
        · refine gx_iload dX6_comes_160 rfl ?_
          refine gx_if_eq dX6_comes_162 (tgt := 199) (by decide) (fun hc1 => absurd hc1 (by decide)) (fun hc1 => ?_)
          refine gx_aload_n dX6_comes_165 rfl ?_
          refine gx_iload_n dX6_comes_166 rfl ?_
          refine gx_invV dX6_comes_167 wm_X6_142 gt_X6_makesFinal wy_X6_makesFinal wl_X6_makesFinal (ci := 6) rfl rfl (gs_g6 R hm) (As := [.int (nI g)]) (rest := []) rfl rfl (Nat.le_of_ble_eq_true rfl) (by decide) (cc_X6_makesFinal R hm V (g := g) hg4) (fun r1 h1 q1 => ?_)
          rw [hmf] at q1
          obtain ⟨R, hs0, rfl⟩ := q1
          have R : gs_R _ σ A := R
          show gx_Ev _ _ _ _ _ [.int 0] _ _
          refine gx_if_ne dX6_comes_170 (tgt := 189) (by decide) (fun hc2 => absurd hc2 (by decide)) (fun hc2 => ?_)
          refine gx_aload_n dX6_comes_173 rfl ?_
          refine gx_iload_n dX6_comes_174 rfl ?_
          refine gx_invV dX6_comes_175 wm_X6_146 gt_X6_takes wy_X6_takes wl_X6_takes (ci := 6) rfl rfl (gs_g6 R hm) (As := [.int (nI g)]) (rest := []) rfl rfl (Nat.le_of_ble_eq_true rfl) (by decide) (cc_X6_takes R hm V (g := g) hg4 hT) (fun r1 h1 q1 => ?_)
          rw [← gs_bf htk, sm_tks, if_neg htk] at q1
          obtain ⟨R, hs1, rfl⟩ := q1
          have R : gs_R _ σ A := R
          show gx_Ev _ _ _ _ _ [.int 0] _ _
          refine gx_if_ne dX6_comes_178 (tgt := 189) (by decide) (fun hc3 => absurd hc3 (by decide)) (fun hc3 => ?_)
          refine gx_aload_n dX6_comes_181 rfl ?_
          refine gx_iload_n dX6_comes_182 rfl ?_
          refine gx_invV dX6_comes_183 wm_X6_149 gt_X6_works wy_X6_works wl_X6_works (ci := 6) rfl rfl (gs_g6 R hm) (As := [.int (nI g)]) (rest := []) rfl rfl (Nat.le_of_ble_eq_true rfl) (by decide) (cc_X6_works R hm V (g := g) hg4 hg hF) (fun r1 h1 q1 => ?_)
          obtain ⟨R, hs2, rfl⟩ := q1
          have R : gs_R _ (sm_ws σ g) A := R
          show gx_Ev _ _ _ _ _ [.int (sm_wr σ g)] _ _
          refine gx_if_eq dX6_comes_186 (tgt := 193) (by decide) (fun hc4 => ?_) (fun hc4 => absurd hc4 (fun z => z hwr))
          refine gx_iconst dX6_comes_193 (v := 0) (by decide) ?_
          refine gx_istore dX6_comes_194 (by decide) g3 (L' := [some (.ref (A 6 0 0)), w1, some (.int (nI g)), w3, some (.int 0)]) rfl ?_
          refine gx_goto dX6_comes_196 (tgt := 160) (by decide) ?_
          refine gx_iload dX6_comes_160 rfl ?_
          refine gx_if_eq dX6_comes_162 (tgt := 199) (by decide) (fun hc1 => ?_) (fun hc1 => absurd hc1 (by decide))
          refine gx_return dX6_comes_199 ?_
          have eb : ¬ sm_sb σ g = true := by rw [sm_sb, hmf]; simp [htk, hwr]
          have es : sm_st σ g = sm_ws σ g := by rw [sm_st, hmf]; simp [htk]
          exact ⟨rfl, by rw [sm_lp, if_neg eb, es]; exact R, (((hs.trans hs0).trans hs1).trans hs2), rfl⟩
        · refine gx_iload dX6_comes_160 rfl ?_
          refine gx_if_eq dX6_comes_162 (tgt := 199) (by decide) (fun hc1 => absurd hc1 (by decide)) (fun hc1 => ?_)
          refine gx_aload_n dX6_comes_165 rfl ?_
          refine gx_iload_n dX6_comes_166 rfl ?_
          refine gx_invV dX6_comes_167 wm_X6_142 gt_X6_makesFinal wy_X6_makesFinal wl_X6_makesFinal (ci := 6) rfl rfl (gs_g6 R hm) (As := [.int (nI g)]) (rest := []) rfl rfl (Nat.le_of_ble_eq_true rfl) (by decide) (cc_X6_makesFinal R hm V (g := g) hg4) (fun r1 h1 q1 => ?_)
          rw [hmf] at q1
          obtain ⟨R, hs0, rfl⟩ := q1
          have R : gs_R _ σ A := R
          show gx_Ev _ _ _ _ _ [.int 0] _ _
          refine gx_if_ne dX6_comes_170 (tgt := 189) (by decide) (fun hc2 => absurd hc2 (by decide)) (fun hc2 => ?_)
          refine gx_aload_n dX6_comes_173 rfl ?_
          refine gx_iload_n dX6_comes_174 rfl ?_
          refine gx_invV dX6_comes_175 wm_X6_146 gt_X6_takes wy_X6_takes wl_X6_takes (ci := 6) rfl rfl (gs_g6 R hm) (As := [.int (nI g)]) (rest := []) rfl rfl (Nat.le_of_ble_eq_true rfl) (by decide) (cc_X6_takes R hm V (g := g) hg4 hT) (fun r1 h1 q1 => ?_)
          rw [← gs_bf htk, sm_tks, if_neg htk] at q1
          obtain ⟨R, hs1, rfl⟩ := q1
          have R : gs_R _ σ A := R
          show gx_Ev _ _ _ _ _ [.int 0] _ _
          refine gx_if_ne dX6_comes_178 (tgt := 189) (by decide) (fun hc3 => absurd hc3 (by decide)) (fun hc3 => ?_)
          refine gx_aload_n dX6_comes_181 rfl ?_
          refine gx_iload_n dX6_comes_182 rfl ?_
          refine gx_invV dX6_comes_183 wm_X6_149 gt_X6_works wy_X6_works wl_X6_works (ci := 6) rfl rfl (gs_g6 R hm) (As := [.int (nI g)]) (rest := []) rfl rfl (Nat.le_of_ble_eq_true rfl) (by decide) (cc_X6_works R hm V (g := g) hg4 hg hF) (fun r1 h1 q1 => ?_)
          obtain ⟨R, hs2, rfl⟩ := q1
          have R : gs_R _ (sm_ws σ g) A := R
          show gx_Ev _ _ _ _ _ [.int (sm_wr σ g)] _ _
          refine gx_if_eq dX6_comes_186 (tgt := 193) (by decide) (fun hc4 => absurd hc4 (hwr)) (fun hc4 => ?_)
          refine gx_iconst dX6_comes_189 (v := 1) (by decide) ?_
          refine gx_goto dX6_comes_190 (tgt := 194) (by decide) ?_
          refine gx_istore dX6_comes_194 (by decide) g3 (L' := [some (.ref (A 6 0 0)), w1, some (.int (nI g)), w3, some (.int 1)]) rfl ?_
          refine gx_goto dX6_comes_196 (tgt := 160) (by decide) ?_
          have eb : sm_sb σ g = true := by rw [sm_sb, hmf]; simp [htk, hwr]
          have es : sm_st σ g = sm_ws σ g := by rw [sm_st, hmf]; simp [htk]
          rw [sm_lp, if_pos eb, es]
          exact ih _ _ R (((hs.trans hs0).trans hs1).trans hs2) (es ▸ hnext eb)
    · refine gx_iload dX6_comes_160 rfl ?_
      refine gx_if_eq dX6_comes_162 (tgt := 199) (by decide) (fun hc1 => absurd hc1 (by decide)) (fun hc1 => ?_)
      refine gx_aload_n dX6_comes_165 rfl ?_
      refine gx_iload_n dX6_comes_166 rfl ?_
      refine gx_invV dX6_comes_167 wm_X6_142 gt_X6_makesFinal wy_X6_makesFinal wl_X6_makesFinal (ci := 6) rfl rfl (gs_g6 R hm) (As := [.int (nI g)]) (rest := []) rfl rfl (Nat.le_of_ble_eq_true rfl) (by decide) (cc_X6_makesFinal R hm V (g := g) hg4) (fun r1 h1 q1 => ?_)
      rw [hmf] at q1
      obtain ⟨R, hs0, rfl⟩ := q1
      have R : gs_R _ (sm_mf1 σ g o1) A := R
      show gx_Ev _ _ _ _ _ [.int 1] _ _
      refine gx_if_ne dX6_comes_170 (tgt := 189) (by decide) (fun hc2 => ?_) (fun hc2 => absurd hc2 (by decide))
      refine gx_iconst dX6_comes_189 (v := 1) (by decide) ?_
      refine gx_goto dX6_comes_190 (tgt := 194) (by decide) ?_
      refine gx_istore dX6_comes_194 (by decide) g3 (L' := [some (.ref (A 6 0 0)), w1, some (.int (nI g)), w3, some (.int 1)]) rfl ?_
      refine gx_goto dX6_comes_196 (tgt := 160) (by decide) ?_
      have eb : sm_sb σ g = true := by rw [sm_sb, hmf]
      have es : sm_st σ g = sm_mf1 σ g o1 := by rw [sm_st, hmf]
      rw [sm_lp, if_pos eb, es]
      exact ih _ _ R (hs.trans hs0) (es ▸ hnext eb)
def sm_rc (σ : gs_T) (i q : Nat) : gs_T := if σ.2.1 126 i 0 = 0 then sm_cs σ (σ.1 129 i 0) (σ.1 127 i 0) else if σ.2.1 126 i 0 = 1 then gs_i σ 119 (4 * (40 * σ.1 129 i 0 + σ.1 127 i 0) + q) 0 (σ.2.1 130 i 0) else if σ.2.1 120 (4 * (40 * σ.1 129 i 0 + σ.1 127 i 0) + q) 0 = 0 then gs_i (gs_i (gs_i σ 120 (4 * (40 * σ.1 129 i 0 + σ.1 127 i 0) + q) 0 1) 121 (4 * (40 * σ.1 129 i 0 + σ.1 127 i 0) + q) 0 (σ.2.1 131 i 0)) 122 (4 * (40 * σ.1 129 i 0 + σ.1 127 i 0) + q) 0 (σ.2.1 132 i 0) else σ
def sm_rb (σ : gs_T) (i q : Nat) : gs_T := gs_i (sm_rc σ i q) 133 0 0 ((sm_rc σ i q).2.1 133 0 0 + 1)
set_option maxHeartbeats 4000000 in
theorem cc_X6_comes {S : gx_S} {h : gx_H} {σ : gs_T} {A : gs_A} (R : gs_R h σ A) (hm : σ.1 31 0 0 = 1) (V : gv_V σ) {i q n : Nat} (hi : i < 400) (hq : q < 4) (hfr : ¬ σ.2.1 126 i 0 = 0 → σ.1 128 i 0 = q + 1) (hF : σ.1 125 0 0 + 4 ≤ 400) (hmr : (sm_rc σ i q).1 31 0 0 = 1) (hok : sm_ok (σ.1 129 i 0) n (sm_rb σ i q)) : gx_Cn S gm_X6_comes 5 [.ref (A 6 0 0), .int (nI i)] h (fun r h' => gs_R h' (sm_lp (σ.1 129 i 0) n (sm_rb σ i q)) A ∧ gs_sm h h' ∧ r = none) := by
  refine gx_Cn.of gt_X6_comes (by simp [Value.category]) (Nat.le_of_ble_eq_true rfl) ?_
  show gx_Ev S gm_X6_comes 5 0 [some (.ref (A 6 0 0)), some (.int (nI i)), none, none, none] [] h _
  have hto : σ.1 129 i 0 < 4 := Nat.lt_of_lt_of_le (gv_to V i) (gv_n4 V)
  have ho := gv_oo V i
  refine gx_aload_n dX6_comes_0 rfl ?_
  refine gx_get dX6_comes_1 gf_X6_89 (gs_g6 R hm) (v := .ref (A 49 0 0)) (rfl) ?_
  refine gx_iload_n dX6_comes_4 rfl ?_
  refine gq_49 dX6_comes_5 R hm (q := i) (rfl) (by omega) (v := nI (σ.1 129 i 0)) (rfl) ?_
  refine gx_istore_n dX6_comes_6 (by decide) rfl (L' := [some (.ref (A 6 0 0)), some (.int (nI i)), some (.int (nI (σ.1 129 i 0))), none, none]) rfl ?_
  refine gx_aload_n dX6_comes_7 rfl ?_
  refine gx_get dX6_comes_8 gf_X6_83 (gs_g6 R hm) (v := .ref (A 47 0 0)) (rfl) ?_
  refine gx_iload_n dX6_comes_11 rfl ?_
  refine gq_47 dX6_comes_12 R hm (q := i) (rfl) (by omega) (v := nI (σ.1 127 i 0)) (rfl) ?_
  refine gx_istore_n dX6_comes_13 (by decide) rfl (L' := [some (.ref (A 6 0 0)), some (.int (nI i)), some (.int (nI (σ.1 129 i 0))), some (.int (nI (σ.1 127 i 0))), none]) rfl ?_
  refine gx_aload_n dX6_comes_14 rfl ?_
  refine gx_get dX6_comes_15 gf_X6_80 (gs_g6 R hm) (v := .ref (A 46 0 0)) (rfl) ?_
  refine gx_iload_n dX6_comes_18 rfl ?_
  refine gq_46 dX6_comes_19 R hm (q := i) (rfl) (by omega) (v := σ.2.1 126 i 0) (rfl) ?_
  refine gx_if_ne dX6_comes_20 (tgt := 32) (by decide) (fun k0 => ?_) (fun k0 => ?_)
  · refine gx_aload_n dX6_comes_32 rfl ?_
    refine gx_get dX6_comes_33 gf_X6_80 (gs_g6 R hm) (v := .ref (A 46 0 0)) (rfl) ?_
    refine gx_iload_n dX6_comes_36 rfl ?_
    refine gq_46 dX6_comes_37 R hm (q := i) (rfl) (by omega) (v := σ.2.1 126 i 0) (rfl) ?_
    refine gx_iconst dX6_comes_38 (v := 1) (by decide) ?_
    refine gx_icmp_ne dX6_comes_39 (tgt := 67) (by decide) (fun k1 => ?_) (fun k1 => ?_)
    · refine gx_aload_n dX6_comes_67 rfl ?_
      refine gx_get dX6_comes_68 gf_X6_65 (gs_g6 R hm) (v := .ref (A 40 0 0)) (rfl) ?_
      refine gx_iload_n dX6_comes_71 rfl ?_
      refine gx_iload_n dX6_comes_72 rfl ?_
      refine gx_aload_n dX6_comes_73 rfl ?_
      refine gx_get dX6_comes_74 gf_X6_86 (gs_g6 R hm) (v := .ref (A 48 0 0)) (rfl) ?_
      refine gx_iload_n dX6_comes_77 rfl ?_
      refine gq_48 dX6_comes_78 R hm (q := i) (rfl) (by omega) (v := gs_sf (σ.1 128 i 0)) (rfl) ?_
      refine gx_invS dX6_comes_79 wm_X6_131 gt_X6_of ws_X6_of (As := [.int (nI (σ.1 129 i 0)), .int (nI (σ.1 127 i 0)), .int (gs_sf (σ.1 128 i 0))]) (rest := [.ref (A 40 0 0)]) rfl rfl (Nat.le_of_ble_eq_true rfl) (by decide) (cc_X6_ofE (g := σ.1 129 i 0) (o := σ.1 127 i 0) (q := q) (rfl) (rfl) (by rw [hfr k0]; rfl)) (fun r1 h1 q1 => ?_)
      obtain ⟨rfl, rfl⟩ := q1
      show gx_Ev _ _ _ _ _ [.int (nI (4 * (40 * (σ.1 129 i 0) + (σ.1 127 i 0)) + q)), .ref (A 40 0 0)] _ _
      refine gq_40 dX6_comes_82 R hm (q := 4 * (40 * (σ.1 129 i 0) + (σ.1 127 i 0)) + q) (rfl) (by omega) (v := σ.2.1 120 (4 * (40 * (σ.1 129 i 0) + (σ.1 127 i 0)) + q) 0) (rfl) ?_
      refine gx_if_ne dX6_comes_83 (tgt := 147) (by decide) (fun k2 => ?_) (fun k2 => ?_)
      · have hτ : sm_rc σ i q = σ := by rw [sm_rc, if_neg k0, if_neg k1, if_neg k2]
        skip
        rw [← hτ] at R
        have hmτ : (sm_rc σ i q).1 31 0 0 = 1 := hmr
        generalize hτ2 : sm_rc σ i q = τ at R hmτ
        have hok : sm_ok (σ.1 129 i 0) n (gs_i τ 133 0 0 (τ.2.1 133 0 0 + 1)) := by rw [← hτ2]; exact hok
        have hm := hmτ
        rw [sm_rb, hτ2]
        refine gx_aload_n dX6_comes_147 rfl ?_
        refine gx_dup dX6_comes_148 rfl ?_
        refine gx_get dX6_comes_149 gf_X6_139 (gs_g6 R hm) (v := .int (τ.2.1 133 0 0)) (rfl) ?_
        refine gx_iconst dX6_comes_152 (v := 1) (by decide) ?_
        refine gx_iadd dX6_comes_153 ?_
        refine gp_I133 (σ := τ) hm dX6_comes_154 gf_X6_139 R (v := (τ.2.1 133 0 0) + 1) (fun h R hs0 => ?_)
        refine gx_iconst dX6_comes_157 (v := 1) (by decide) ?_
        refine gx_istore dX6_comes_158 (by decide) rfl (L' := [some (.ref (A 6 0 0)), some (.int (nI i)), some (.int (nI (σ.1 129 i 0))), some (.int (nI (σ.1 127 i 0))), some (.int 1)]) rfl ?_
        exact cl_cm hto _ _ rfl n _ _ R hs0 hok
      · refine gx_aload_n dX6_comes_86 rfl ?_
        refine gx_get dX6_comes_87 gf_X6_65 (gs_g6 R hm) (v := .ref (A 40 0 0)) (rfl) ?_
        refine gx_iload_n dX6_comes_90 rfl ?_
        refine gx_iload_n dX6_comes_91 rfl ?_
        refine gx_aload_n dX6_comes_92 rfl ?_
        refine gx_get dX6_comes_93 gf_X6_86 (gs_g6 R hm) (v := .ref (A 48 0 0)) (rfl) ?_
        refine gx_iload_n dX6_comes_96 rfl ?_
        refine gq_48 dX6_comes_97 R hm (q := i) (rfl) (by omega) (v := gs_sf (σ.1 128 i 0)) (rfl) ?_
        refine gx_invS dX6_comes_98 wm_X6_131 gt_X6_of ws_X6_of (As := [.int (nI (σ.1 129 i 0)), .int (nI (σ.1 127 i 0)), .int (gs_sf (σ.1 128 i 0))]) (rest := [.ref (A 40 0 0)]) rfl rfl (Nat.le_of_ble_eq_true rfl) (by decide) (cc_X6_ofE (g := σ.1 129 i 0) (o := σ.1 127 i 0) (q := q) (rfl) (rfl) (by rw [hfr k0]; rfl)) (fun r1 h1 q1 => ?_)
        obtain ⟨rfl, rfl⟩ := q1
        show gx_Ev _ _ _ _ _ [.int (nI (4 * (40 * (σ.1 129 i 0) + (σ.1 127 i 0)) + q)), .ref (A 40 0 0)] _ _
        refine gx_iconst dX6_comes_101 (v := 1) (by decide) ?_
        refine ga_I120 (σ := σ) hm dX6_comes_102 R (by first | exact Or.inl rfl | exact Or.inr rfl) (q := 4 * (40 * (σ.1 129 i 0) + (σ.1 127 i 0)) + q) (v := 1) (rfl) (by omega) (fun h R hs0 => ?_)
        refine gx_aload_n dX6_comes_103 rfl ?_
        refine gx_get dX6_comes_104 gf_X6_68 (gs_g6 R hm) (v := .ref (A 41 0 0)) (rfl) ?_
        refine gx_iload_n dX6_comes_107 rfl ?_
        refine gx_iload_n dX6_comes_108 rfl ?_
        refine gx_aload_n dX6_comes_109 rfl ?_
        refine gx_get dX6_comes_110 gf_X6_86 (gs_g6 R hm) (v := .ref (A 48 0 0)) (rfl) ?_
        refine gx_iload_n dX6_comes_113 rfl ?_
        refine gq_48 dX6_comes_114 R hm (q := i) (rfl) (by omega) (v := gs_sf (σ.1 128 i 0)) (rfl) ?_
        refine gx_invS dX6_comes_115 wm_X6_131 gt_X6_of ws_X6_of (As := [.int (nI (σ.1 129 i 0)), .int (nI (σ.1 127 i 0)), .int (gs_sf (σ.1 128 i 0))]) (rest := [.ref (A 41 0 0)]) rfl rfl (Nat.le_of_ble_eq_true rfl) (by decide) (cc_X6_ofE (g := σ.1 129 i 0) (o := σ.1 127 i 0) (q := q) (rfl) (rfl) (by rw [hfr k0]; rfl)) (fun r1 h1 q1 => ?_)
        obtain ⟨rfl, rfl⟩ := q1
        show gx_Ev _ _ _ _ _ [.int (nI (4 * (40 * (σ.1 129 i 0) + (σ.1 127 i 0)) + q)), .ref (A 41 0 0)] _ _
        refine gx_aload_n dX6_comes_118 rfl ?_
        refine gx_get dX6_comes_119 gf_X6_95 (gs_g6 R hm) (v := .ref (A 51 0 0)) (rfl) ?_
        refine gx_iload_n dX6_comes_122 rfl ?_
        refine gq_51 dX6_comes_123 R hm (q := i) (rfl) (by omega) (v := σ.2.1 131 i 0) (rfl) ?_
        refine ga_I121 (σ := (gs_i σ 120 (4 * (40 * (σ.1 129 i 0) + (σ.1 127 i 0)) + q) 0 1)) hm dX6_comes_124 R (q := 4 * (40 * (σ.1 129 i 0) + (σ.1 127 i 0)) + q) (v := σ.2.1 131 i 0) (rfl) (by omega) (fun h R hs1 => ?_)
        refine gx_aload_n dX6_comes_125 rfl ?_
        refine gx_get dX6_comes_126 gf_X6_71 (gs_g6 R hm) (v := .ref (A 42 0 0)) (rfl) ?_
        refine gx_iload_n dX6_comes_129 rfl ?_
        refine gx_iload_n dX6_comes_130 rfl ?_
        refine gx_aload_n dX6_comes_131 rfl ?_
        refine gx_get dX6_comes_132 gf_X6_86 (gs_g6 R hm) (v := .ref (A 48 0 0)) (rfl) ?_
        refine gx_iload_n dX6_comes_135 rfl ?_
        refine gq_48 dX6_comes_136 R hm (q := i) (rfl) (by omega) (v := gs_sf (σ.1 128 i 0)) (rfl) ?_
        refine gx_invS dX6_comes_137 wm_X6_131 gt_X6_of ws_X6_of (As := [.int (nI (σ.1 129 i 0)), .int (nI (σ.1 127 i 0)), .int (gs_sf (σ.1 128 i 0))]) (rest := [.ref (A 42 0 0)]) rfl rfl (Nat.le_of_ble_eq_true rfl) (by decide) (cc_X6_ofE (g := σ.1 129 i 0) (o := σ.1 127 i 0) (q := q) (rfl) (rfl) (by rw [hfr k0]; rfl)) (fun r1 h1 q1 => ?_)
        obtain ⟨rfl, rfl⟩ := q1
        show gx_Ev _ _ _ _ _ [.int (nI (4 * (40 * (σ.1 129 i 0) + (σ.1 127 i 0)) + q)), .ref (A 42 0 0)] _ _
        refine gx_aload_n dX6_comes_140 rfl ?_
        refine gx_get dX6_comes_141 gf_X6_98 (gs_g6 R hm) (v := .ref (A 52 0 0)) (rfl) ?_
        refine gx_iload_n dX6_comes_144 rfl ?_
        refine gq_52 dX6_comes_145 R hm (q := i) (rfl) (by omega) (v := σ.2.1 132 i 0) (rfl) ?_
        refine ga_I122 (σ := (gs_i (gs_i σ 120 (4 * (40 * (σ.1 129 i 0) + (σ.1 127 i 0)) + q) 0 1) 121 (4 * (40 * (σ.1 129 i 0) + (σ.1 127 i 0)) + q) 0 (σ.2.1 131 i 0))) hm dX6_comes_146 R (q := 4 * (40 * (σ.1 129 i 0) + (σ.1 127 i 0)) + q) (v := σ.2.1 132 i 0) (rfl) (by omega) (fun h R hs2 => ?_)
        have hτ : sm_rc σ i q = (gs_i (gs_i (gs_i σ 120 (4 * (40 * (σ.1 129 i 0) + (σ.1 127 i 0)) + q) 0 1) 121 (4 * (40 * (σ.1 129 i 0) + (σ.1 127 i 0)) + q) 0 (σ.2.1 131 i 0)) 122 (4 * (40 * (σ.1 129 i 0) + (σ.1 127 i 0)) + q) 0 (σ.2.1 132 i 0)) := by rw [sm_rc, if_neg k0, if_neg k1, if_pos k2]
        have hs9 := (((gs_sm.rfl.trans hs0).trans hs1).trans hs2)
        rw [← hτ] at R
        have hmτ : (sm_rc σ i q).1 31 0 0 = 1 := hmr
        generalize hτ2 : sm_rc σ i q = τ at R hmτ
        have hok : sm_ok (σ.1 129 i 0) n (gs_i τ 133 0 0 (τ.2.1 133 0 0 + 1)) := by rw [← hτ2]; exact hok
        have hm := hmτ
        rw [sm_rb, hτ2]
        refine gx_aload_n dX6_comes_147 rfl ?_
        refine gx_dup dX6_comes_148 rfl ?_
        refine gx_get dX6_comes_149 gf_X6_139 (gs_g6 R hm) (v := .int (τ.2.1 133 0 0)) (rfl) ?_
        refine gx_iconst dX6_comes_152 (v := 1) (by decide) ?_
        refine gx_iadd dX6_comes_153 ?_
        refine gp_I133 (σ := τ) hm dX6_comes_154 gf_X6_139 R (v := (τ.2.1 133 0 0) + 1) (fun h R hs0 => ?_)
        refine gx_iconst dX6_comes_157 (v := 1) (by decide) ?_
        refine gx_istore dX6_comes_158 (by decide) rfl (L' := [some (.ref (A 6 0 0)), some (.int (nI i)), some (.int (nI (σ.1 129 i 0))), some (.int (nI (σ.1 127 i 0))), some (.int 1)]) rfl ?_
        exact cl_cm hto _ _ rfl n _ _ R (hs9.trans hs0) hok
    · refine gx_aload_n dX6_comes_42 rfl ?_
      refine gx_get dX6_comes_43 gf_X6_62 (gs_g6 R hm) (v := .ref (A 39 0 0)) (rfl) ?_
      refine gx_iload_n dX6_comes_46 rfl ?_
      refine gx_iload_n dX6_comes_47 rfl ?_
      refine gx_aload_n dX6_comes_48 rfl ?_
      refine gx_get dX6_comes_49 gf_X6_86 (gs_g6 R hm) (v := .ref (A 48 0 0)) (rfl) ?_
      refine gx_iload_n dX6_comes_52 rfl ?_
      refine gq_48 dX6_comes_53 R hm (q := i) (rfl) (by omega) (v := gs_sf (σ.1 128 i 0)) (rfl) ?_
      refine gx_invS dX6_comes_54 wm_X6_131 gt_X6_of ws_X6_of (As := [.int (nI (σ.1 129 i 0)), .int (nI (σ.1 127 i 0)), .int (gs_sf (σ.1 128 i 0))]) (rest := [.ref (A 39 0 0)]) rfl rfl (Nat.le_of_ble_eq_true rfl) (by decide) (cc_X6_ofE (g := σ.1 129 i 0) (o := σ.1 127 i 0) (q := q) (rfl) (rfl) (by rw [hfr k0]; rfl)) (fun r1 h1 q1 => ?_)
      obtain ⟨rfl, rfl⟩ := q1
      show gx_Ev _ _ _ _ _ [.int (nI (4 * (40 * (σ.1 129 i 0) + (σ.1 127 i 0)) + q)), .ref (A 39 0 0)] _ _
      refine gx_aload_n dX6_comes_57 rfl ?_
      refine gx_get dX6_comes_58 gf_X6_92 (gs_g6 R hm) (v := .ref (A 50 0 0)) (rfl) ?_
      refine gx_iload_n dX6_comes_61 rfl ?_
      refine gq_50 dX6_comes_62 R hm (q := i) (rfl) (by omega) (v := σ.2.1 130 i 0) (rfl) ?_
      refine ga_I119 (σ := σ) hm dX6_comes_63 R (q := 4 * (40 * (σ.1 129 i 0) + (σ.1 127 i 0)) + q) (v := σ.2.1 130 i 0) (rfl) (by omega) (fun h R hs0 => ?_)
      refine gx_goto dX6_comes_64 (tgt := 147) (by decide) ?_
      have hτ : sm_rc σ i q = (gs_i σ 119 (4 * (40 * (σ.1 129 i 0) + (σ.1 127 i 0)) + q) 0 (σ.2.1 130 i 0)) := by rw [sm_rc, if_neg k0, if_pos k1]
      have hs9 := (gs_sm.rfl.trans hs0)
      rw [← hτ] at R
      have hmτ : (sm_rc σ i q).1 31 0 0 = 1 := hmr
      generalize hτ2 : sm_rc σ i q = τ at R hmτ
      have hok : sm_ok (σ.1 129 i 0) n (gs_i τ 133 0 0 (τ.2.1 133 0 0 + 1)) := by rw [← hτ2]; exact hok
      have hm := hmτ
      rw [sm_rb, hτ2]
      refine gx_aload_n dX6_comes_147 rfl ?_
      refine gx_dup dX6_comes_148 rfl ?_
      refine gx_get dX6_comes_149 gf_X6_139 (gs_g6 R hm) (v := .int (τ.2.1 133 0 0)) (rfl) ?_
      refine gx_iconst dX6_comes_152 (v := 1) (by decide) ?_
      refine gx_iadd dX6_comes_153 ?_
      refine gp_I133 (σ := τ) hm dX6_comes_154 gf_X6_139 R (v := (τ.2.1 133 0 0) + 1) (fun h R hs0 => ?_)
      refine gx_iconst dX6_comes_157 (v := 1) (by decide) ?_
      refine gx_istore dX6_comes_158 (by decide) rfl (L' := [some (.ref (A 6 0 0)), some (.int (nI i)), some (.int (nI (σ.1 129 i 0))), some (.int (nI (σ.1 127 i 0))), some (.int 1)]) rfl ?_
      exact cl_cm hto _ _ rfl n _ _ R (hs9.trans hs0) hok
  · refine gx_aload_n dX6_comes_23 rfl ?_
    refine gx_iload_n dX6_comes_24 rfl ?_
    refine gx_iload_n dX6_comes_25 rfl ?_
    refine gx_invV dX6_comes_26 wm_X6_135 gt_X6_comesStart wy_X6_comesStart wl_X6_comesStart (ci := 6) rfl rfl (gs_g6 R hm) (As := [.int (nI (σ.1 129 i 0)), .int (nI (σ.1 127 i 0))]) (rest := []) rfl rfl (Nat.le_of_ble_eq_true rfl) (by decide) (cc_X6_comesStart R hm V (g := σ.1 129 i 0) (o := σ.1 127 i 0) (gv_to V i) hto ho hF) (fun r1 h1 q1 => ?_)
    obtain ⟨R, hs0, rfl⟩ := q1
    show gx_Ev _ _ _ _ _ [] _ _
    refine gx_goto dX6_comes_29 (tgt := 147) (by decide) ?_
    have hτ : sm_rc σ i q = (sm_cs σ (σ.1 129 i 0) (σ.1 127 i 0)) := by rw [sm_rc, if_pos k0]
    have hs9 := (gs_sm.rfl.trans hs0)
    rw [← hτ] at R
    have hmτ : (sm_rc σ i q).1 31 0 0 = 1 := hmr
    generalize hτ2 : sm_rc σ i q = τ at R hmτ
    have hok : sm_ok (σ.1 129 i 0) n (gs_i τ 133 0 0 (τ.2.1 133 0 0 + 1)) := by rw [← hτ2]; exact hok
    have hm := hmτ
    rw [sm_rb, hτ2]
    refine gx_aload_n dX6_comes_147 rfl ?_
    refine gx_dup dX6_comes_148 rfl ?_
    refine gx_get dX6_comes_149 gf_X6_139 (gs_g6 R hm) (v := .int (τ.2.1 133 0 0)) (rfl) ?_
    refine gx_iconst dX6_comes_152 (v := 1) (by decide) ?_
    refine gx_iadd dX6_comes_153 ?_
    refine gp_I133 (σ := τ) hm dX6_comes_154 gf_X6_139 R (v := (τ.2.1 133 0 0) + 1) (fun h R hs0 => ?_)
    refine gx_iconst dX6_comes_157 (v := 1) (by decide) ?_
    refine gx_istore dX6_comes_158 (by decide) rfl (L' := [some (.ref (A 6 0 0)), some (.int (nI i)), some (.int (nI (σ.1 129 i 0))), some (.int (nI (σ.1 127 i 0))), some (.int 1)]) rfl ?_
    exact cl_cm hto _ _ rfl n _ _ R (hs9.trans hs0) hok
end
section
/-! the reference: bring, twice -/
def sm_sh (σ : gs_T) (k m : Nat) : gs_T := match m with
  | 0 => σ
  | m + 1 => sm_sh (sm_move σ (k + 1) k) (k + 1) m
theorem gv_move {σ : gs_T} {i j : Nat} (V : gv_V σ) : gv_V (sm_move σ i j) :=
  gv_i (gv_i (gv_i (gv_n (gv_n (gv_n (gv_i V) (by decide) (V.2 127 i 0)) (by decide) (V.2 128 i 0)) (by decide) (V.2 129 i 0))))
theorem gv_sh {σ : gs_T} {k m : Nat} (V : gv_V σ) : gv_V (sm_sh σ k m) ∧ (sm_sh σ k m).1 100 0 0 = σ.1 100 0 0 ∧ (sm_sh σ k m).1 31 0 0 = σ.1 31 0 0 ∧ (sm_sh σ k m).1 125 0 0 = σ.1 125 0 0 := by
  induction m generalizing σ k with
  | zero => exact ⟨V, rfl, rfl, rfl⟩
  | succ m ih => exact ih (gv_move V)
set_option maxHeartbeats 4000000 in
theorem cl_br {S : gx_S} {h0 : gx_H} {A : gs_A} (w1 : Option Value) (g1 : gx_ok [none, w1] 2 = true) {Q : Option Value → gx_H → Prop} : ∀ (m k : Nat) (τ : gs_T) (h : gx_H), k + m = τ.1 125 0 0 → gv_V τ → τ.1 31 0 0 = 1 → τ.1 125 0 0 < 399 → gs_R h τ A → gs_sm h0 h → (∀ h, gs_R h (sm_sh τ k m) A → gs_sm h0 h → gx_Ev S gm_X6_bring 6 69 [some (.ref (A 6 0 0)), w1, some (.int (nI (k + m)))] [] h Q) → gx_Ev S gm_X6_bring 6 47 [some (.ref (A 6 0 0)), w1, some (.int (nI k))] [] h Q := by
  intro m
  induction m with
  | zero =>
    intro k τ h hk V hm hF R hs K
    refine gx_iload_n dX6_bring_47 rfl ?_
    refine gx_aload_n dX6_bring_48 rfl ?_
    refine gx_get dX6_bring_49 gf_X6_109 (gs_g6 R hm) (v := .int (nI (τ.1 125 0 0))) (rfl) ?_
    refine gx_icmp_ge dX6_bring_52 (tgt := 69) (by decide) (fun hc1 => ?_) (fun hc1 => absurd hc1 (fun z => z (by rw [← hk]; exact nI_le (Nat.le_refl _) (by omega))))
    exact K _ R hs
  | succ m ih =>
    intro k τ h hk V hm hF R hs K
    refine gx_iload_n dX6_bring_47 rfl ?_
    refine gx_aload_n dX6_bring_48 rfl ?_
    refine gx_get dX6_bring_49 gf_X6_109 (gs_g6 R hm) (v := .int (nI (τ.1 125 0 0))) (rfl) ?_
    refine gx_icmp_ge dX6_bring_52 (tgt := 69) (by decide) (fun hc1 => absurd hc1 (nI_ge (by omega) (by omega))) (fun hc1 => ?_)
    refine gx_aload_n dX6_bring_55 rfl ?_
    refine gx_iload_n dX6_bring_56 rfl ?_
    refine gx_iconst dX6_bring_57 (v := 1) (by decide) ?_
    refine gx_iadd dX6_bring_58 ?_
    rw [show ((nI k) + 1 : Int32) = nI (k + 1) from nI_1 _]
    refine gx_iload_n dX6_bring_59 rfl ?_
    refine gx_invV dX6_bring_60 wm_X6_155 gt_X6_move wy_X6_move wl_X6_move (ci := 6) rfl rfl (gs_g6 R hm) (As := [.int (nI (k + 1)), .int (nI k)]) (rest := []) rfl rfl (Nat.le_of_ble_eq_true rfl) (by decide) (cc_X6_move R hm V (i := k + 1) (j := k) (by omega) (by omega)) (fun r1 h1 q1 => ?_)
    obtain ⟨R, hs0, rfl⟩ := q1
    show gx_Ev _ _ _ _ _ [] _ _
    refine gx_iinc dX6_bring_63 rfl (v := nI (k + 1)) (nI_1 _) (by decide) g1 (L' := [some (.ref (A 6 0 0)), w1, some (.int (nI (k + 1)))]) rfl ?_
    refine gx_goto dX6_bring_66 (tgt := 47) (by decide) ?_
    refine ih (k + 1) (sm_move τ (k + 1) k) _ (show k + 1 + m = τ.1 125 0 0 by omega) (gv_move V) hm hF R (hs.trans hs0) (fun h8 R8 s8 => ?_)
    have k8 := K h8 R8 s8
    rw [show k + (m + 1) = k + 1 + m by omega] at k8
    exact k8
theorem sm_st_no {σ : gs_T} {g : Nat} (h : ¬ sm_sb σ g = true) : sm_st σ g = σ := by
  rw [sm_sb] at h
  rw [sm_st]
  split at h
  · exact absurd rfl h
  · rename_i hmf
    try rw [hmf]
    split at h
    · exact absurd rfl h
    · rename_i htk
      split at h
      · rename_i hwr
        show (if sm_tc σ g then sm_tks σ g else sm_ws σ g) = σ
        rw [if_neg htk, sm_ws]
        rw [sm_wr] at hwr
        split
        · rfl
        · rename_i h1
          rw [if_neg h1] at hwr
          split
          · rename_i h2
            rw [if_pos h2] at hwr
            exact absurd hwr (by decide)
          · rename_i h2
            rw [if_neg h2] at hwr
            split
            · rename_i h3
              rw [if_pos h3] at hwr
              exact absurd hwr (by decide)
            · rfl
      · exact absurd rfl h
theorem sm_lp_ok {g n : Nat} {σ : gs_T} (h : sm_ok g n σ) : gv_V (sm_lp g n σ) ∧ (sm_lp g n σ).1 31 0 0 = 1 ∧ (sm_lp g n σ).1 125 0 0 + 4 ≤ 400 := by
  induction n generalizing σ with
  | zero => exact h.elim
  | succ n ih =>
    rw [sm_lp]
    split
    · rename_i hb
      exact ih (h.2 hb)
    · rename_i hb
      rw [sm_st_no hb]
      exact ⟨h.1.1, h.1.2.1, h.1.2.2.2.1⟩
abbrev sv_in (x : Int32) (n : Nat) : Prop := 0 ≤ x ∧ x < nI n
abbrev sm_bc (σ : gs_T) (x : Int32) : Prop := sv_in x (σ.1 125 0 0) ∧ σ.2.1 102 (σ.1 129 x.toNatClampNeg 0) 0 = 0
def sm_bs (σ : gs_T) (j : Nat) : gs_T := sm_sh (gs_n (sm_move σ j 399) 125 0 0 (σ.1 125 0 0 - 1)) j (σ.1 125 0 0 - 1 - j)
theorem gv_bs {σ : gs_T} {j : Nat} (V : gv_V σ) : gv_V (sm_bs σ j) ∧ (sm_bs σ j).1 100 0 0 = σ.1 100 0 0 ∧ (sm_bs σ j).1 31 0 0 = σ.1 31 0 0 ∧ (sm_bs σ j).1 125 0 0 = σ.1 125 0 0 - 1 := gv_sh (gv_n (gv_move V) (by decide) trivial)
def sm_bring (σ : gs_T) (x : Int32) (q n : Nat) : gs_T := if sm_bc σ x then sm_lp ((sm_bs σ x.toNatClampNeg).1 129 399 0) n (sm_rb (sm_bs σ x.toNatClampNeg) 399 q) else σ
def sm_bringr (σ : gs_T) (x : Int32) (q n : Nat) : Int32 := if sm_bc σ x then nI ((sm_bring σ x q n).1 125 0 0) else -1
/-- what comes needs of the message in place i -/
def sm_pre (σ : gs_T) (i q n : Nat) : Prop := (¬ σ.2.1 126 i 0 = 0 → σ.1 128 i 0 = q + 1) ∧ σ.1 125 0 0 + 4 ≤ 400 ∧ (sm_rc σ i q).1 31 0 0 = 1 ∧ sm_ok (σ.1 129 i 0) n (sm_rb σ i q)
def sm_twice (σ : gs_T) (x : Int32) (q n : Nat) : gs_T := if sm_bc σ x then sm_lp (σ.1 129 x.toNatClampNeg 0) n (sm_rb σ x.toNatClampNeg q) else σ
def sm_twicer (σ : gs_T) (x : Int32) (q n : Nat) : Int32 := if sm_bc σ x then nI ((sm_twice σ x q n).1 125 0 0) else -1
theorem cc_X6_moveE {S : gx_S} {h : gx_H} {σ : gs_T} {A : gs_A} (R : gs_R h σ A) (hm : σ.1 31 0 0 = 1) (V : gv_V σ) {x y : Int32} {i j : Nat} (hx : x = nI i) (hy : y = nI j) (hi : i < 400) (hj : j < 400) : gx_Cn S gm_X6_move 1 [.ref (A 6 0 0), .int x, .int y] h (fun r h' => gs_R h' (sm_move σ i j) A ∧ gs_sm h h' ∧ r = none) := by
  subst hx; subst hy; exact cc_X6_move R hm V hi hj
theorem cc_X6_comesE {S : gx_S} {h : gx_H} {σ : gs_T} {A : gs_A} (R : gs_R h σ A) (hm : σ.1 31 0 0 = 1) (V : gv_V σ) {x : Int32} {i q n : Nat} (hx : x = nI i) (hi : i < 400) (hq : q < 4) (hfr : ¬ σ.2.1 126 i 0 = 0 → σ.1 128 i 0 = q + 1) (hF : σ.1 125 0 0 + 4 ≤ 400) (hmr : (sm_rc σ i q).1 31 0 0 = 1) (hok : sm_ok (σ.1 129 i 0) n (sm_rb σ i q)) : gx_Cn S gm_X6_comes 5 [.ref (A 6 0 0), .int x] h (fun r h' => gs_R h' (sm_lp (σ.1 129 i 0) n (sm_rb σ i q)) A ∧ gs_sm h h' ∧ r = none) := by
  subst hx; exact cc_X6_comes R hm V hi hq hfr hF hmr hok
set_option maxHeartbeats 4000000 in
theorem cc_X6_bring {S : gx_S} {h : gx_H} {σ : gs_T} {A : gs_A} (R : gs_R h σ A) (hm : σ.1 31 0 0 = 1) (V : gv_V σ) (x : Int32) {q n : Nat} (hq : q < 4) (hF0 : σ.1 125 0 0 < 400) (hpre : sm_bc σ x → sm_pre (sm_bs σ x.toNatClampNeg) 399 q n) : gx_Cn S gm_X6_bring 6 [.ref (A 6 0 0), .int x] h (fun r h' => gs_R h' (sm_bring σ x q n) A ∧ gs_sm h h' ∧ r = some (.int (sm_bringr σ x q n))) := by
  refine gx_Cn.of gt_X6_bring (by simp [Value.category]) (Nat.le_of_ble_eq_true rfl) ?_
  show gx_Ev S gm_X6_bring 6 0 [some (.ref (A 6 0 0)), some (.int x), none] [] h _
  refine gx_iload_n dX6_bring_0 rfl ?_
  refine gx_aload_n dX6_bring_1 rfl ?_
  refine gx_get dX6_bring_2 gf_X6_109 (gs_g6 R hm) (v := .int (nI (σ.1 125 0 0))) (rfl) ?_
  refine gx_invS dX6_bring_5 wm_X6_120 gt_X6_isIn ws_X6_isIn (As := [.int x, .int (nI (σ.1 125 0 0))]) (rest := []) rfl rfl (Nat.le_of_ble_eq_true rfl) (by decide) (cc_X6_isIn x (nI (σ.1 125 0 0))) (fun r1 h1 q1 => ?_)
  obtain ⟨rfl, rfl⟩ := q1
  show gx_Ev _ _ _ _ _ [.int (gs_bi (0 ≤ x ∧ x < (nI (σ.1 125 0 0))))] _ _
  refine gx_if_eq dX6_bring_8 (tgt := 25) (by decide) (fun hc1 => ?_) (fun hc1 => ?_)
  · have hc1 := gs_b0 hc1
    refine gx_iconst dX6_bring_25 (v := (-1)) (by decide) ?_
    refine gx_ireturn dX6_bring_26 ?_
    have hno : ¬ sm_bc σ x := fun z => hc1 z.1
    exact ⟨⟨_, rfl, rfl⟩, by rw [sm_bring, if_neg hno]; exact R, gs_sm.rfl, by rw [sm_bringr, if_neg hno]⟩
  · have hc1 := gs_b1 hc1
    refine gx_aload_n dX6_bring_11 rfl ?_
    refine gx_get dX6_bring_12 gf_X6_13 (gs_g6 R hm) (v := .ref (A 22 0 0)) (rfl) ?_
    refine gx_aload_n dX6_bring_15 rfl ?_
    refine gx_get dX6_bring_16 gf_X6_89 (gs_g6 R hm) (v := .ref (A 49 0 0)) (rfl) ?_
    refine gx_iload_n dX6_bring_19 rfl ?_
    refine gq_49 dX6_bring_20 R hm (q := x.toNatClampNeg) ((gs_ixl (N := σ.1 125 0 0) rfl hc1 (by omega)).1) (by have := (gs_ixl (N := σ.1 125 0 0) rfl hc1 (by omega)).2; omega) (v := nI (σ.1 129 x.toNatClampNeg 0)) (rfl) ?_
    refine gq_22 dX6_bring_21 R hm (q := σ.1 129 x.toNatClampNeg 0) (rfl) (Nat.lt_of_lt_of_le (gv_to V _) (gv_n4 V)) (v := σ.2.1 102 (σ.1 129 x.toNatClampNeg 0) 0) (rfl) ?_
    refine gx_if_eq dX6_bring_22 (tgt := 27) (by decide) (fun hc2 => ?_) (fun hc2 => ?_)
    · refine gx_aload_n dX6_bring_27 rfl ?_
      refine gx_iload_n dX6_bring_28 rfl ?_
      refine gx_sipush dX6_bring_29 (v := 399) (by decide) ?_
      refine gx_invV dX6_bring_32 wm_X6_155 gt_X6_move wy_X6_move wl_X6_move (ci := 6) rfl rfl (gs_g6 R hm) (As := [.int x, .int 399]) (rest := []) rfl rfl (Nat.le_of_ble_eq_true rfl) (by decide) (cc_X6_moveE R hm V (i := x.toNatClampNeg) (j := 399) ((gs_ixl (N := σ.1 125 0 0) rfl hc1 (by omega)).1) (by decide) (by have := (gs_ixl (N := σ.1 125 0 0) rfl hc1 (by omega)).2; omega) (by decide)) (fun r1 h1 q1 => ?_)
      obtain ⟨R, hs0, rfl⟩ := q1
      show gx_Ev _ _ _ _ _ [] _ _
      refine gx_aload_n dX6_bring_35 rfl ?_
      refine gx_dup dX6_bring_36 rfl ?_
      refine gx_get dX6_bring_37 gf_X6_109 (gs_g6 R hm) (v := .int (nI ((sm_move σ x.toNatClampNeg 399).1 125 0 0))) (rfl) ?_
      refine gx_iconst dX6_bring_40 (v := 1) (by decide) ?_
      refine gx_isub dX6_bring_41 ?_
      refine gp_N125 (σ := (sm_move σ x.toNatClampNeg 399)) hm dX6_bring_42 gf_X6_109 R (show nI _ - nI 1 = nI _ from pk_sub (a := σ.1 125 0 0) (b := 1) (by have := (gs_ixl (N := σ.1 125 0 0) rfl hc1 (by omega)).2; omega)) (v := σ.1 125 0 0 - 1) (fun h R hs1 => ?_)
      refine gx_iload_n dX6_bring_45 rfl ?_
      refine gx_istore_n dX6_bring_46 (by decide) rfl (L' := [some (.ref (A 6 0 0)), some (.int x), some (.int x)]) rfl ?_
      have hj := (gs_ixl (N := σ.1 125 0 0) rfl hc1 (by omega))
      have hP := hpre ⟨hc1, hc2⟩
      have VB := gv_bs (j := x.toNatClampNeg) V
      have hxe : x = nI x.toNatClampNeg := hj.1
      suffices hgo : gx_Ev S gm_X6_bring 6 47 [some (.ref (A 6 0 0)), some (.int x), some (.int (nI x.toNatClampNeg))] [] _ _ by rw [← hxe] at hgo; exact hgo
      refine cl_br _ rfl (σ.1 125 0 0 - 1 - x.toNatClampNeg) x.toNatClampNeg _ _ (by show x.toNatClampNeg + (σ.1 125 0 0 - 1 - x.toNatClampNeg) = σ.1 125 0 0 - 1; omega) (gv_n (f := 125) (i := 0) (j := 0) (v := σ.1 125 0 0 - 1) (gv_move V) (by decide) trivial) hm (by show σ.1 125 0 0 - 1 < 399; omega) R ((gs_sm.rfl.trans hs0).trans hs1) (fun h R hs9 => ?_)
      have R : gs_R h (sm_bs σ x.toNatClampNeg) A := R
      refine gx_aload_n dX6_bring_69 rfl ?_
      refine gx_sipush dX6_bring_70 (v := 399) (by decide) ?_
      refine gx_invV dX6_bring_73 wm_X6_158 gt_X6_comes wy_X6_comes wl_X6_comes (ci := 6) rfl rfl (gs_g6 R (VB.2.2.1.trans hm)) (As := [.int 399]) (rest := []) rfl rfl (Nat.le_of_ble_eq_true rfl) (by decide) (cc_X6_comesE R (VB.2.2.1.trans hm) VB.1 (i := 399) (q := q) (n := n) (by decide) (by decide) hq hP.1 hP.2.1 hP.2.2.1 hP.2.2.2) (fun r1 h1 q1 => ?_)
      obtain ⟨R, hs20, rfl⟩ := q1
      show gx_Ev _ _ _ _ _ [] _ _
      refine gx_aload_n dX6_bring_76 rfl ?_
      refine gx_get dX6_bring_77 gf_X6_109 (gs_g6 R (sm_lp_ok hP.2.2.2).2.1) (v := .int (nI ((sm_lp ((sm_bs σ x.toNatClampNeg).1 129 399 0) n (sm_rb (sm_bs σ x.toNatClampNeg) 399 q)).1 125 0 0))) (rfl) ?_
      refine gx_ireturn dX6_bring_80 ?_
      have hyes : sm_bc σ x := ⟨hc1, hc2⟩
      exact ⟨⟨_, rfl, rfl⟩, by rw [sm_bring, if_pos hyes]; exact R, (hs9.trans hs20), by rw [sm_bringr, if_pos hyes, sm_bring, if_pos hyes]⟩
    · refine gx_iconst dX6_bring_25 (v := (-1)) (by decide) ?_
      refine gx_ireturn dX6_bring_26 ?_
      have hno : ¬ sm_bc σ x := fun z => hc2 z.2
      exact ⟨⟨_, rfl, rfl⟩, by rw [sm_bring, if_neg hno]; exact R, gs_sm.rfl, by rw [sm_bringr, if_neg hno]⟩
set_option maxHeartbeats 4000000 in
theorem cc_X6_twice {S : gx_S} {h : gx_H} {σ : gs_T} {A : gs_A} (R : gs_R h σ A) (hm : σ.1 31 0 0 = 1) (V : gv_V σ) (x : Int32) {q n : Nat} (hq : q < 4) (hF0 : σ.1 125 0 0 < 400) (hpre : sm_bc σ x → sm_pre σ x.toNatClampNeg q n) : gx_Cn S gm_X6_twice 6 [.ref (A 6 0 0), .int x] h (fun r h' => gs_R h' (sm_twice σ x q n) A ∧ gs_sm h h' ∧ r = some (.int (sm_twicer σ x q n))) := by
  refine gx_Cn.of gt_X6_twice (by simp [Value.category]) (Nat.le_of_ble_eq_true rfl) ?_
  show gx_Ev S gm_X6_twice 6 0 [some (.ref (A 6 0 0)), some (.int x)] [] h _
  refine gx_iload_n dX6_twice_0 rfl ?_
  refine gx_aload_n dX6_twice_1 rfl ?_
  refine gx_get dX6_twice_2 gf_X6_109 (gs_g6 R hm) (v := .int (nI (σ.1 125 0 0))) (rfl) ?_
  refine gx_invS dX6_twice_5 wm_X6_120 gt_X6_isIn ws_X6_isIn (As := [.int x, .int (nI (σ.1 125 0 0))]) (rest := []) rfl rfl (Nat.le_of_ble_eq_true rfl) (by decide) (cc_X6_isIn x (nI (σ.1 125 0 0))) (fun r1 h1 q1 => ?_)
  obtain ⟨rfl, rfl⟩ := q1
  show gx_Ev _ _ _ _ _ [.int (gs_bi (0 ≤ x ∧ x < (nI (σ.1 125 0 0))))] _ _
  refine gx_if_eq dX6_twice_8 (tgt := 25) (by decide) (fun hc1 => ?_) (fun hc1 => ?_)
  · have hc1 := gs_b0 hc1
    refine gx_iconst dX6_twice_25 (v := (-1)) (by decide) ?_
    refine gx_ireturn dX6_twice_26 ?_
    have hno : ¬ sm_bc σ x := fun z => hc1 z.1
    exact ⟨⟨_, rfl, rfl⟩, by rw [sm_twice, if_neg hno]; exact R, gs_sm.rfl, by rw [sm_twicer, if_neg hno]⟩
  · have hc1 := gs_b1 hc1
    refine gx_aload_n dX6_twice_11 rfl ?_
    refine gx_get dX6_twice_12 gf_X6_13 (gs_g6 R hm) (v := .ref (A 22 0 0)) (rfl) ?_
    refine gx_aload_n dX6_twice_15 rfl ?_
    refine gx_get dX6_twice_16 gf_X6_89 (gs_g6 R hm) (v := .ref (A 49 0 0)) (rfl) ?_
    refine gx_iload_n dX6_twice_19 rfl ?_
    refine gq_49 dX6_twice_20 R hm (q := x.toNatClampNeg) ((gs_ixl (N := σ.1 125 0 0) rfl hc1 (by omega)).1) (by have := (gs_ixl (N := σ.1 125 0 0) rfl hc1 (by omega)).2; omega) (v := nI (σ.1 129 x.toNatClampNeg 0)) (rfl) ?_
    refine gq_22 dX6_twice_21 R hm (q := σ.1 129 x.toNatClampNeg 0) (rfl) (Nat.lt_of_lt_of_le (gv_to V _) (gv_n4 V)) (v := σ.2.1 102 (σ.1 129 x.toNatClampNeg 0) 0) (rfl) ?_
    refine gx_if_eq dX6_twice_22 (tgt := 27) (by decide) (fun hc2 => ?_) (fun hc2 => ?_)
    · refine gx_aload_n dX6_twice_27 rfl ?_
      refine gx_iload_n dX6_twice_28 rfl ?_
      refine gx_invV dX6_twice_29 wm_X6_158 gt_X6_comes wy_X6_comes wl_X6_comes (ci := 6) rfl rfl (gs_g6 R hm) (As := [.int x]) (rest := []) rfl rfl (Nat.le_of_ble_eq_true rfl) (by decide) (cc_X6_comesE R hm V (i := x.toNatClampNeg) (q := q) (n := n) ((gs_ixl (N := σ.1 125 0 0) rfl hc1 (by omega)).1) (by have := (gs_ixl (N := σ.1 125 0 0) rfl hc1 (by omega)).2; omega) hq (hpre ⟨hc1, hc2⟩).1 (hpre ⟨hc1, hc2⟩).2.1 (hpre ⟨hc1, hc2⟩).2.2.1 (hpre ⟨hc1, hc2⟩).2.2.2) (fun r1 h1 q1 => ?_)
      obtain ⟨R, hs0, rfl⟩ := q1
      show gx_Ev _ _ _ _ _ [] _ _
      refine gx_aload_n dX6_twice_32 rfl ?_
      refine gx_get dX6_twice_33 gf_X6_109 (gs_g6 R (sm_lp_ok (hpre ⟨hc1, hc2⟩).2.2.2).2.1) (v := .int (nI ((sm_lp (σ.1 129 x.toNatClampNeg 0) n (sm_rb σ x.toNatClampNeg q)).1 125 0 0))) (rfl) ?_
      refine gx_ireturn dX6_twice_36 ?_
      have hyes : sm_bc σ x := ⟨hc1, hc2⟩
      exact ⟨⟨_, rfl, rfl⟩, by rw [sm_twice, if_pos hyes]; exact R, (gs_sm.rfl.trans hs0), by rw [sm_twicer, if_pos hyes, sm_twice, if_pos hyes]⟩
    · refine gx_iconst dX6_twice_25 (v := (-1)) (by decide) ?_
      refine gx_ireturn dX6_twice_26 ?_
      have hno : ¬ sm_bc σ x := fun z => hc2 z.2
      exact ⟨⟨_, rfl, rfl⟩, by rw [sm_twice, if_neg hno]; exact R, gs_sm.rfl, by rw [sm_twicer, if_neg hno]⟩
end
section
/-! the reference: agree, doneCount, count -/
abbrev sm_ac (σ : gs_T) (g j : Nat) : Prop := σ.2.1 115 (40 * g + σ.1 124 (40 * g + j) 0) 0 < σ.2.1 115 (40 * g + σ.1 124 (40 * g + (j + 1)) 0) 0 ∨ (σ.2.1 115 (40 * g + σ.1 124 (40 * g + j) 0) 0 = σ.2.1 115 (40 * g + σ.1 124 (40 * g + (j + 1)) 0) 0 ∧ σ.1 124 (40 * g + j) 0 < σ.1 124 (40 * g + (j + 1)) 0)
def sm_ai (σ : gs_T) (g m j : Nat) (x : Int32) : Int32 := match m with
  | 0 => x
  | m + 1 => sm_ai σ g m (j + 1) (if x = 0 then 0 else if sm_ac σ g j then 1 else 0)
def sm_ag (σ : gs_T) (m g : Nat) (x : Int32) : Int32 := match m with
  | 0 => x
  | m + 1 => sm_ag σ m (g + 1) (sm_ai σ g (σ.1 123 g 0 - 1) 0 x)
set_option maxHeartbeats 4000000 in
theorem cl_ag_in {S : gx_S} {h : gx_H} {σ : gs_T} {A : gs_A} (R : gs_R h σ A) (hm : σ.1 31 0 0 = 1) (V : gv_V σ) {g : Nat} (hg4 : g < 4) {Q : Option Value → gx_H → Prop} : ∀ (m j : Nat) (x : Int32) (w4 w5 : Option Value), j ≤ 40 → σ.1 123 g 0 - (j + 1) = m → gx_ok [none, none, none, none, w4] 5 = true → (∀ w3 w4 w5, gx_ok [none, none, none, none, w4] 5 = true → gx_Ev S gm_X6_agree 2 123 [some (.ref (A 6 0 0)), some (.int (sm_ai σ g m j x)), some (.int (nI g)), (some (.int w3)), w4, w5] [] h Q) → gx_Ev S gm_X6_agree 2 14 [some (.ref (A 6 0 0)), some (.int x), some (.int (nI g)), some (.int (nI (j + 1))), w4, w5] [] h Q := by
  intro m
  induction m with
  | zero =>
    intro j x w4 w5 hj40 hm9 g4 K
    have h40 := gv_tc V g
    refine gx_iload_n dX6_agree_14 rfl ?_
    refine gx_aload_n dX6_agree_15 rfl ?_
    refine gx_get dX6_agree_16 gf_X6_74 (gs_g6 R hm) (v := .ref (A 43 0 0)) (rfl) ?_
    refine gx_iload_n dX6_agree_19 rfl ?_
    refine gq_43 dX6_agree_20 R hm (q := g) (rfl) (by omega) (v := nI (σ.1 123 g 0)) (rfl) ?_
    refine gx_icmp_ge dX6_agree_21 (tgt := 123) (by decide) (fun hc1 => ?_) (fun hc1 => absurd hc1 (fun z => z (nI_le (by omega) (by omega))))
    exact K _ _ _ g4
  | succ m ih =>
    intro j x w4 w5 hj40 hm9 g4 K
    have h40 := gv_tc V g
    have h1 := gv_tr V (40 * g + j)
    have h2 := gv_tr V (40 * g + (j + 1))
    refine gx_iload_n dX6_agree_14 rfl ?_
    refine gx_aload_n dX6_agree_15 rfl ?_
    refine gx_get dX6_agree_16 gf_X6_74 (gs_g6 R hm) (v := .ref (A 43 0 0)) (rfl) ?_
    refine gx_iload_n dX6_agree_19 rfl ?_
    refine gq_43 dX6_agree_20 R hm (q := g) (rfl) (by omega) (v := nI (σ.1 123 g 0)) (rfl) ?_
    refine gx_icmp_ge dX6_agree_21 (tgt := 123) (by decide) (fun hc0 => absurd hc0 (nI_ge (by omega) (by omega))) (fun hc0 => ?_)
    refine gx_aload_n dX6_agree_24 rfl ?_
    refine gx_get dX6_agree_25 gf_X6_77 (gs_g6 R hm) (v := .ref (A 44 0 0)) (rfl) ?_
    refine gx_iload_n dX6_agree_28 rfl ?_
    refine gx_iload_n dX6_agree_29 rfl ?_
    refine gx_invS dX6_agree_30 wm_X6_105 gt_X6_at ws_X6_at (As := [.int (nI g), .int (nI (j + 1))]) (rest := [.ref (A 44 0 0)]) rfl rfl (Nat.le_of_ble_eq_true rfl) (by decide) (cc_X6_atE (g := g) (o := j + 1) (rfl) (rfl)) (fun r1 h1 q1 => ?_)
    obtain ⟨rfl, rfl⟩ := q1
    show gx_Ev _ _ _ _ _ [.int (nI (40 * g + (j + 1))), .ref (A 44 0 0)] _ _
    refine gq_44 dX6_agree_33 R hm (q := 40 * g + (j + 1)) (rfl) (by omega) (v := nI (σ.1 124 (40 * g + (j + 1)) 0)) (rfl) ?_
    refine gx_istore dX6_agree_34 (by decide) rfl (L' := [some (.ref (A 6 0 0)), some (.int x), some (.int (nI g)), some (.int (nI (j + 1))), some (.int (nI (σ.1 124 (40 * g + (j + 1)) 0))), w5]) rfl ?_
    refine gx_aload_n dX6_agree_36 rfl ?_
    refine gx_get dX6_agree_37 gf_X6_77 (gs_g6 R hm) (v := .ref (A 44 0 0)) (rfl) ?_
    refine gx_iload_n dX6_agree_40 rfl ?_
    refine gx_iload_n dX6_agree_41 rfl ?_
    refine gx_iconst dX6_agree_42 (v := 1) (by decide) ?_
    refine gx_isub dX6_agree_43 ?_
    rw [show ((nI (j + 1)) - 1 : Int32) = nI j from nI_pred _]
    refine gx_invS dX6_agree_44 wm_X6_105 gt_X6_at ws_X6_at (As := [.int (nI g), .int (nI j)]) (rest := [.ref (A 44 0 0)]) rfl rfl (Nat.le_of_ble_eq_true rfl) (by decide) (cc_X6_atE (g := g) (o := j) (rfl) (rfl)) (fun r1 h1 q1 => ?_)
    obtain ⟨rfl, rfl⟩ := q1
    show gx_Ev _ _ _ _ _ [.int (nI (40 * g + j)), .ref (A 44 0 0)] _ _
    refine gq_44 dX6_agree_47 R hm (q := 40 * g + j) (rfl) (by omega) (v := nI (σ.1 124 (40 * g + j) 0)) (rfl) ?_
    refine gx_istore dX6_agree_48 (by decide) rfl (L' := [some (.ref (A 6 0 0)), some (.int x), some (.int (nI g)), some (.int (nI (j + 1))), some (.int (nI (σ.1 124 (40 * g + (j + 1)) 0))), some (.int (nI (σ.1 124 (40 * g + j) 0)))]) rfl ?_
    refine gx_iload_n dX6_agree_50 rfl ?_
    refine gx_if_eq dX6_agree_51 (tgt := 115) (by decide) (fun hx => ?_) (fun hx => ?_)
    · refine gx_iconst dX6_agree_115 (v := 0) (by decide) ?_
      refine gx_istore_n dX6_agree_116 (by decide) rfl (L' := [some (.ref (A 6 0 0)), some (.int 0), some (.int (nI g)), some (.int (nI (j + 1))), some (.int (nI (σ.1 124 (40 * g + (j + 1)) 0))), some (.int (nI (σ.1 124 (40 * g + j) 0)))]) rfl ?_
      refine gx_iinc dX6_agree_117 rfl (v := nI (j + 1 + 1)) (nI_1 _) (by decide) rfl (L' := [some (.ref (A 6 0 0)), some (.int 0), some (.int (nI g)), some (.int (nI (j + 1 + 1))), some (.int (nI (σ.1 124 (40 * g + (j + 1)) 0))), some (.int (nI (σ.1 124 (40 * g + j) 0)))]) rfl ?_
      refine gx_goto dX6_agree_120 (tgt := 14) (by decide) ?_
      have e9 : (if x = 0 then (0 : Int32) else if sm_ac σ g j then 1 else 0) = 0 := by rw [if_pos hx]
      rw [show sm_ai σ g (m + 1) j x = sm_ai σ g m (j + 1) 0 from by rw [sm_ai, e9]] at K
      exact ih (j + 1) 0 (some (.int (nI (σ.1 124 (40 * g + (j + 1)) 0)))) (some (.int (nI (σ.1 124 (40 * g + j) 0)))) (by omega) (by omega) rfl K
    · refine gx_aload_n dX6_agree_54 rfl ?_
      refine gx_get dX6_agree_55 gf_X6_50 (gs_g6 R hm) (v := .ref (A 35 0 0)) (rfl) ?_
      refine gx_iload_n dX6_agree_58 rfl ?_
      refine gx_iload dX6_agree_59 rfl ?_
      refine gx_invS dX6_agree_61 wm_X6_105 gt_X6_at ws_X6_at (As := [.int (nI g), .int (nI (σ.1 124 (40 * g + j) 0))]) (rest := [.ref (A 35 0 0)]) rfl rfl (Nat.le_of_ble_eq_true rfl) (by decide) (cc_X6_atE (g := g) (o := σ.1 124 (40 * g + j) 0) (rfl) (rfl)) (fun r1 h1 q1 => ?_)
      obtain ⟨rfl, rfl⟩ := q1
      show gx_Ev _ _ _ _ _ [.int (nI (40 * g + (σ.1 124 (40 * g + j) 0))), .ref (A 35 0 0)] _ _
      refine gq_35 dX6_agree_64 R hm (q := 40 * g + (σ.1 124 (40 * g + j) 0)) (rfl) (by omega) (v := σ.2.1 115 (40 * g + (σ.1 124 (40 * g + j) 0)) 0) (rfl) ?_
      refine gx_aload_n dX6_agree_65 rfl ?_
      refine gx_get dX6_agree_66 gf_X6_50 (gs_g6 R hm) (v := .ref (A 35 0 0)) (rfl) ?_
      refine gx_iload_n dX6_agree_69 rfl ?_
      refine gx_iload dX6_agree_70 rfl ?_
      refine gx_invS dX6_agree_72 wm_X6_105 gt_X6_at ws_X6_at (As := [.int (nI g), .int (nI (σ.1 124 (40 * g + (j + 1)) 0))]) (rest := [.ref (A 35 0 0), .int (σ.2.1 115 (40 * g + (σ.1 124 (40 * g + j) 0)) 0)]) rfl rfl (Nat.le_of_ble_eq_true rfl) (by decide) (cc_X6_atE (g := g) (o := σ.1 124 (40 * g + (j + 1)) 0) (rfl) (rfl)) (fun r1 h1 q1 => ?_)
      obtain ⟨rfl, rfl⟩ := q1
      show gx_Ev _ _ _ _ _ [.int (nI (40 * g + (σ.1 124 (40 * g + (j + 1)) 0))), .ref (A 35 0 0), .int (σ.2.1 115 (40 * g + (σ.1 124 (40 * g + j) 0)) 0)] _ _
      refine gq_35 dX6_agree_75 R hm (q := 40 * g + (σ.1 124 (40 * g + (j + 1)) 0)) (rfl) (by omega) (v := σ.2.1 115 (40 * g + (σ.1 124 (40 * g + (j + 1)) 0)) 0) (rfl) ?_
      refine gx_icmp_lt dX6_agree_76 (tgt := 111) (by decide) (fun h5 => ?_) (fun h5 => ?_)
      · refine gx_iconst dX6_agree_111 (v := 1) (by decide) ?_
        refine gx_goto dX6_agree_112 (tgt := 116) (by decide) ?_
        refine gx_istore_n dX6_agree_116 (by decide) rfl (L' := [some (.ref (A 6 0 0)), some (.int 1), some (.int (nI g)), some (.int (nI (j + 1))), some (.int (nI (σ.1 124 (40 * g + (j + 1)) 0))), some (.int (nI (σ.1 124 (40 * g + j) 0)))]) rfl ?_
        refine gx_iinc dX6_agree_117 rfl (v := nI (j + 1 + 1)) (nI_1 _) (by decide) rfl (L' := [some (.ref (A 6 0 0)), some (.int 1), some (.int (nI g)), some (.int (nI (j + 1 + 1))), some (.int (nI (σ.1 124 (40 * g + (j + 1)) 0))), some (.int (nI (σ.1 124 (40 * g + j) 0)))]) rfl ?_
        refine gx_goto dX6_agree_120 (tgt := 14) (by decide) ?_
        have e9 : (if x = 0 then (0 : Int32) else if sm_ac σ g j then 1 else 0) = 1 := by rw [if_neg hx, if_pos (Or.inl h5)]
        rw [show sm_ai σ g (m + 1) j x = sm_ai σ g m (j + 1) 1 from by rw [sm_ai, e9]] at K
        exact ih (j + 1) 1 (some (.int (nI (σ.1 124 (40 * g + (j + 1)) 0)))) (some (.int (nI (σ.1 124 (40 * g + j) 0)))) (by omega) (by omega) rfl K
      · refine gx_aload_n dX6_agree_79 rfl ?_
        refine gx_get dX6_agree_80 gf_X6_50 (gs_g6 R hm) (v := .ref (A 35 0 0)) (rfl) ?_
        refine gx_iload_n dX6_agree_83 rfl ?_
        refine gx_iload dX6_agree_84 rfl ?_
        refine gx_invS dX6_agree_86 wm_X6_105 gt_X6_at ws_X6_at (As := [.int (nI g), .int (nI (σ.1 124 (40 * g + j) 0))]) (rest := [.ref (A 35 0 0)]) rfl rfl (Nat.le_of_ble_eq_true rfl) (by decide) (cc_X6_atE (g := g) (o := σ.1 124 (40 * g + j) 0) (rfl) (rfl)) (fun r1 h1 q1 => ?_)
        obtain ⟨rfl, rfl⟩ := q1
        show gx_Ev _ _ _ _ _ [.int (nI (40 * g + (σ.1 124 (40 * g + j) 0))), .ref (A 35 0 0)] _ _
        refine gq_35 dX6_agree_89 R hm (q := 40 * g + (σ.1 124 (40 * g + j) 0)) (rfl) (by omega) (v := σ.2.1 115 (40 * g + (σ.1 124 (40 * g + j) 0)) 0) (rfl) ?_
        refine gx_aload_n dX6_agree_90 rfl ?_
        refine gx_get dX6_agree_91 gf_X6_50 (gs_g6 R hm) (v := .ref (A 35 0 0)) (rfl) ?_
        refine gx_iload_n dX6_agree_94 rfl ?_
        refine gx_iload dX6_agree_95 rfl ?_
        refine gx_invS dX6_agree_97 wm_X6_105 gt_X6_at ws_X6_at (As := [.int (nI g), .int (nI (σ.1 124 (40 * g + (j + 1)) 0))]) (rest := [.ref (A 35 0 0), .int (σ.2.1 115 (40 * g + (σ.1 124 (40 * g + j) 0)) 0)]) rfl rfl (Nat.le_of_ble_eq_true rfl) (by decide) (cc_X6_atE (g := g) (o := σ.1 124 (40 * g + (j + 1)) 0) (rfl) (rfl)) (fun r1 h1 q1 => ?_)
        obtain ⟨rfl, rfl⟩ := q1
        show gx_Ev _ _ _ _ _ [.int (nI (40 * g + (σ.1 124 (40 * g + (j + 1)) 0))), .ref (A 35 0 0), .int (σ.2.1 115 (40 * g + (σ.1 124 (40 * g + j) 0)) 0)] _ _
        refine gq_35 dX6_agree_100 R hm (q := 40 * g + (σ.1 124 (40 * g + (j + 1)) 0)) (rfl) (by omega) (v := σ.2.1 115 (40 * g + (σ.1 124 (40 * g + (j + 1)) 0)) 0) (rfl) ?_
        refine gx_icmp_ne dX6_agree_101 (tgt := 115) (by decide) (fun h6 => ?_) (fun h6 => ?_)
        · refine gx_iconst dX6_agree_115 (v := 0) (by decide) ?_
          refine gx_istore_n dX6_agree_116 (by decide) rfl (L' := [some (.ref (A 6 0 0)), some (.int 0), some (.int (nI g)), some (.int (nI (j + 1))), some (.int (nI (σ.1 124 (40 * g + (j + 1)) 0))), some (.int (nI (σ.1 124 (40 * g + j) 0)))]) rfl ?_
          refine gx_iinc dX6_agree_117 rfl (v := nI (j + 1 + 1)) (nI_1 _) (by decide) rfl (L' := [some (.ref (A 6 0 0)), some (.int 0), some (.int (nI g)), some (.int (nI (j + 1 + 1))), some (.int (nI (σ.1 124 (40 * g + (j + 1)) 0))), some (.int (nI (σ.1 124 (40 * g + j) 0)))]) rfl ?_
          refine gx_goto dX6_agree_120 (tgt := 14) (by decide) ?_
          have e9 : (if x = 0 then (0 : Int32) else if sm_ac σ g j then 1 else 0) = 0 := by rw [if_neg hx, if_neg (fun z => z.elim h5 (fun z => h6 z.1))]
          rw [show sm_ai σ g (m + 1) j x = sm_ai σ g m (j + 1) 0 from by rw [sm_ai, e9]] at K
          exact ih (j + 1) 0 (some (.int (nI (σ.1 124 (40 * g + (j + 1)) 0)))) (some (.int (nI (σ.1 124 (40 * g + j) 0)))) (by omega) (by omega) rfl K
        · refine gx_iload dX6_agree_104 rfl ?_
          refine gx_iload dX6_agree_106 rfl ?_
          refine gx_icmp_ge dX6_agree_108 (tgt := 115) (by decide) (fun h7 => ?_) (fun h7 => ?_)
          · have h7 : ¬ σ.1 124 (40 * g + j) 0 < σ.1 124 (40 * g + (j + 1)) 0 := fun z => nI_ge z (by omega) h7
            refine gx_iconst dX6_agree_115 (v := 0) (by decide) ?_
            refine gx_istore_n dX6_agree_116 (by decide) rfl (L' := [some (.ref (A 6 0 0)), some (.int 0), some (.int (nI g)), some (.int (nI (j + 1))), some (.int (nI (σ.1 124 (40 * g + (j + 1)) 0))), some (.int (nI (σ.1 124 (40 * g + j) 0)))]) rfl ?_
            refine gx_iinc dX6_agree_117 rfl (v := nI (j + 1 + 1)) (nI_1 _) (by decide) rfl (L' := [some (.ref (A 6 0 0)), some (.int 0), some (.int (nI g)), some (.int (nI (j + 1 + 1))), some (.int (nI (σ.1 124 (40 * g + (j + 1)) 0))), some (.int (nI (σ.1 124 (40 * g + j) 0)))]) rfl ?_
            refine gx_goto dX6_agree_120 (tgt := 14) (by decide) ?_
            have e9 : (if x = 0 then (0 : Int32) else if sm_ac σ g j then 1 else 0) = 0 := by rw [if_neg hx, if_neg (fun z => z.elim h5 (fun z => h7 z.2))]
            rw [show sm_ai σ g (m + 1) j x = sm_ai σ g m (j + 1) 0 from by rw [sm_ai, e9]] at K
            exact ih (j + 1) 0 (some (.int (nI (σ.1 124 (40 * g + (j + 1)) 0)))) (some (.int (nI (σ.1 124 (40 * g + j) 0)))) (by omega) (by omega) rfl K
          · have h7 : σ.1 124 (40 * g + j) 0 < σ.1 124 (40 * g + (j + 1)) 0 := Nat.lt_of_not_le (fun z => h7 (nI_le z (by omega)))
            refine gx_iconst dX6_agree_111 (v := 1) (by decide) ?_
            refine gx_goto dX6_agree_112 (tgt := 116) (by decide) ?_
            refine gx_istore_n dX6_agree_116 (by decide) rfl (L' := [some (.ref (A 6 0 0)), some (.int 1), some (.int (nI g)), some (.int (nI (j + 1))), some (.int (nI (σ.1 124 (40 * g + (j + 1)) 0))), some (.int (nI (σ.1 124 (40 * g + j) 0)))]) rfl ?_
            refine gx_iinc dX6_agree_117 rfl (v := nI (j + 1 + 1)) (nI_1 _) (by decide) rfl (L' := [some (.ref (A 6 0 0)), some (.int 1), some (.int (nI g)), some (.int (nI (j + 1 + 1))), some (.int (nI (σ.1 124 (40 * g + (j + 1)) 0))), some (.int (nI (σ.1 124 (40 * g + j) 0)))]) rfl ?_
            refine gx_goto dX6_agree_120 (tgt := 14) (by decide) ?_
            have e9 : (if x = 0 then (0 : Int32) else if sm_ac σ g j then 1 else 0) = 1 := by rw [if_neg hx, if_pos (Or.inr ⟨h6, h7⟩)]
            rw [show sm_ai σ g (m + 1) j x = sm_ai σ g m (j + 1) 1 from by rw [sm_ai, e9]] at K
            exact ih (j + 1) 1 (some (.int (nI (σ.1 124 (40 * g + (j + 1)) 0)))) (some (.int (nI (σ.1 124 (40 * g + j) 0)))) (by omega) (by omega) rfl K
theorem sm_ai_b (σ : gs_T) (g m j : Nat) {x : Int32} (hx : x = 0 ∨ x = 1) : sm_ai σ g m j x = 0 ∨ sm_ai σ g m j x = 1 := by
  induction m generalizing j x with
  | zero => exact hx
  | succ m ih =>
    rw [sm_ai]
    apply ih
    split
    · exact Or.inl rfl
    · split
      · exact Or.inr rfl
      · exact Or.inl rfl
set_option maxHeartbeats 4000000 in
theorem cl_ag {S : gx_S} {h : gx_H} {σ : gs_T} {A : gs_A} (R : gs_R h σ A) (hm : σ.1 31 0 0 = 1) (V : gv_V σ) : ∀ (m g : Nat) (x : Int32) (w3 w4 w5 : Option Value), g + m = σ.1 100 0 0 → (x = 0 ∨ x = 1) → gx_ok [none, none, none, none, w4] 5 = true → gx_ok [none, none, none, w3] 4 = true → gx_Ev S gm_X6_agree 2 4 [some (.ref (A 6 0 0)), some (.int x), some (.int (nI g)), w3, w4, w5] [] h (fun r h' => gx_rt (some .boolean) r ∧ h' = h ∧ r = some (.int (sm_ag σ m g x))) := by
  intro m
  induction m with
  | zero =>
    intro g x w3 w4 w5 hgm hx g4 g3
    have h40 := gv_n4 V
    refine gx_iload_n dX6_agree_4 rfl ?_
    refine gx_aload_n dX6_agree_5 rfl ?_
    refine gx_get dX6_agree_6 gf_X6_101 (gs_g6 R hm) (v := .int (nI (σ.1 100 0 0))) (rfl) ?_
    refine gx_icmp_ge dX6_agree_9 (tgt := 129) (by decide) (fun hc1 => ?_) (fun hc1 => absurd hc1 (fun z => z (nI_le (by omega) (by omega))))
    refine gx_iload_n dX6_agree_129 rfl ?_
    refine gx_ireturn dX6_agree_130 ?_
    exact ⟨⟨.boolean, rfl, by rcases hx with rfl | rfl <;> rfl⟩, rfl, rfl⟩
  | succ m ih =>
    intro g x w3 w4 w5 hgm hx g4 g3
    have h40 := gv_n4 V
    refine gx_iload_n dX6_agree_4 rfl ?_
    refine gx_aload_n dX6_agree_5 rfl ?_
    refine gx_get dX6_agree_6 gf_X6_101 (gs_g6 R hm) (v := .int (nI (σ.1 100 0 0))) (rfl) ?_
    refine gx_icmp_ge dX6_agree_9 (tgt := 129) (by decide) (fun hc0 => absurd hc0 (nI_ge (by omega) (by omega))) (fun hc0 => ?_)
    refine gx_iconst dX6_agree_12 (v := 1) (by decide) ?_
    refine gx_istore_n dX6_agree_13 (by decide) rfl (L' := [some (.ref (A 6 0 0)), some (.int x), some (.int (nI g)), some (.int 1), w4, w5]) rfl ?_
    refine cl_ag_in R hm V (by omega) (σ.1 123 g 0 - 1) 0 x w4 w5 (by omega) rfl g4 (fun v3 w4 w5 g4 => ?_)
    refine gx_iinc dX6_agree_123 rfl (v := nI (g + 1)) (nI_1 _) (by decide) rfl (L' := [some (.ref (A 6 0 0)), some (.int (sm_ai σ g (σ.1 123 g 0 - 1) 0 x)), some (.int (nI (g + 1))), (some (.int v3)), w4, w5]) rfl ?_
    refine gx_goto dX6_agree_126 (tgt := 4) (by decide) ?_
    exact ih (g + 1) _ _ _ _ (by omega) (sm_ai_b σ g _ 0 hx) g4 rfl
set_option maxHeartbeats 4000000 in
theorem cc_X6_agree {S : gx_S} {h : gx_H} {σ : gs_T} {A : gs_A} (R : gs_R h σ A) (hm : σ.1 31 0 0 = 1) (V : gv_V σ) : gx_Cn S gm_X6_agree 2 [.ref (A 6 0 0)] h (fun r h' => h' = h ∧ r = some (.int (sm_ag σ (σ.1 100 0 0) 0 1))) := by
  refine gx_Cn.of gt_X6_agree (by simp [Value.category]) (Nat.le_of_ble_eq_true rfl) ?_
  show gx_Ev S gm_X6_agree 2 0 [some (.ref (A 6 0 0)), none, none, none, none, none] [] h _
  refine gx_iconst dX6_agree_0 (v := 1) (by decide) ?_
  refine gx_istore_n dX6_agree_1 (by decide) rfl (L' := [some (.ref (A 6 0 0)), some (.int 1), none, none, none, none]) rfl ?_
  refine gx_iconst dX6_agree_2 (v := 0) (by decide) ?_
  refine gx_istore_n dX6_agree_3 (by decide) rfl (L' := [some (.ref (A 6 0 0)), some (.int 1), some (.int 0), none, none, none]) rfl ?_
  exact cl_ag R hm V _ 0 1 none none none (Nat.zero_add _) (Or.inr rfl) rfl rfl
def sm_da (σ : gs_T) (o m q : Nat) (x : Int32) : Int32 := match m with
  | 0 => x
  | m + 1 => sm_da σ o m (q + 1) (if x = 0 then 0 else if gv_of σ q o then (if σ.2.1 118 (40 * q + o) 0 = 0 then 0 else 1) else 1)
def sm_dn (σ : gs_T) (m o : Nat) (c : Int32) : Int32 := match m with
  | 0 => c
  | m + 1 => sm_dn σ m (o + 1) (c + (if sm_da σ o (σ.1 100 0 0) 0 1 = 0 then 0 else 1))
def sm_ca (σ : gs_T) (m o : Nat) (c : Int32) : Int32 := match m with
  | 0 => c
  | m + 1 => sm_ca σ m (o + 1) (c + (if σ.2.1 111 o 0 = 0 then 0 else 1))
set_option maxHeartbeats 4000000 in
theorem cl_dc_in {S : gx_S} {h : gx_H} {σ : gs_T} {A : gs_A} (R : gs_R h σ A) (hm : σ.1 31 0 0 = 1) (V : gv_V σ) {o : Nat} (ho : o < 40) (c : Int32) {Q : Option Value → gx_H → Prop} : ∀ (m q : Nat) (x : Int32), q + m = σ.1 100 0 0 → gx_Ev S gm_X6_doneCount 2 66 [some (.ref (A 6 0 0)), some (.int c), some (.int (nI o)), some (.int (sm_da σ o m q x)), some (.int (nI (q + m)))] [] h Q → gx_Ev S gm_X6_doneCount 2 17 [some (.ref (A 6 0 0)), some (.int c), some (.int (nI o)), some (.int x), some (.int (nI q))] [] h Q := by
  intro m
  induction m with
  | zero =>
    intro q x hm9 K
    have h40 := gv_n4 V
    refine gx_iload dX6_doneCount_17 rfl ?_
    refine gx_aload_n dX6_doneCount_19 rfl ?_
    refine gx_get dX6_doneCount_20 gf_X6_101 (gs_g6 R hm) (v := .int (nI (σ.1 100 0 0))) (rfl) ?_
    refine gx_icmp_ge dX6_doneCount_23 (tgt := 66) (by decide) (fun hc1 => ?_) (fun hc1 => absurd hc1 (fun z => z (nI_le (by omega) (by omega))))
    exact K
  | succ m ih =>
    intro q x hm9 K
    have h40 := gv_n4 V
    refine gx_iload dX6_doneCount_17 rfl ?_
    refine gx_aload_n dX6_doneCount_19 rfl ?_
    refine gx_get dX6_doneCount_20 gf_X6_101 (gs_g6 R hm) (v := .int (nI (σ.1 100 0 0))) (rfl) ?_
    refine gx_icmp_ge dX6_doneCount_23 (tgt := 66) (by decide) (fun hc0 => absurd hc0 (nI_ge (by omega) (by omega))) (fun hc0 => ?_)
    refine gx_iload_n dX6_doneCount_26 rfl ?_
    refine gx_if_eq dX6_doneCount_27 (tgt := 58) (by decide) (fun hx => ?_) (fun hx => ?_)
    · refine gx_iconst dX6_doneCount_58 (v := 0) (by decide) ?_
      refine gx_istore_n dX6_doneCount_59 (by decide) rfl (L' := [some (.ref (A 6 0 0)), some (.int c), some (.int (nI o)), some (.int 0), some (.int (nI q))]) rfl ?_
      refine gx_iinc dX6_doneCount_60 rfl (v := nI (q + 1)) (nI_1 _) (by decide) rfl (L' := [some (.ref (A 6 0 0)), some (.int c), some (.int (nI o)), some (.int 0), some (.int (nI (q + 1)))]) rfl ?_
      refine gx_goto dX6_doneCount_63 (tgt := 17) (by decide) ?_
      have e9 : (if x = 0 then (0 : Int32) else if gv_of σ q o then (if σ.2.1 118 (40 * q + o) 0 = 0 then 0 else 1) else 1) = 0 := by simp [hx]
      rw [show sm_da σ o (m + 1) q x = sm_da σ o m (q + 1) 0 from by rw [sm_da, e9], show q + (m + 1) = q + 1 + m by omega] at K
      exact ih (q + 1) 0 (by omega) K
    · refine gx_aload_n dX6_doneCount_30 rfl ?_
      refine gx_iload dX6_doneCount_31 rfl ?_
      refine gx_iload_n dX6_doneCount_33 rfl ?_
      refine gx_invV dX6_doneCount_34 wm_X6_112 gt_X6_isOf wy_X6_isOf wl_X6_isOf (ci := 6) rfl rfl (gs_g6 R hm) (As := [.int (nI q), .int (nI o)]) (rest := []) rfl rfl (Nat.le_of_ble_eq_true rfl) (by decide) (cc_X6_isOf R hm V (g := q) (o := o) (by omega) (ho)) (fun r1 h1 q1 => ?_)
      obtain ⟨rfl, rfl⟩ := q1
      show gx_Ev _ _ _ _ _ [.int (gs_bi (gv_of σ q o))] _ _
      refine gx_if_eq dX6_doneCount_37 (tgt := 54) (by decide) (fun h5 => ?_) (fun h5 => ?_)
      · have h5 := gs_b0 h5
        refine gx_iconst dX6_doneCount_54 (v := 1) (by decide) ?_
        refine gx_goto dX6_doneCount_55 (tgt := 59) (by decide) ?_
        refine gx_istore_n dX6_doneCount_59 (by decide) rfl (L' := [some (.ref (A 6 0 0)), some (.int c), some (.int (nI o)), some (.int 1), some (.int (nI q))]) rfl ?_
        refine gx_iinc dX6_doneCount_60 rfl (v := nI (q + 1)) (nI_1 _) (by decide) rfl (L' := [some (.ref (A 6 0 0)), some (.int c), some (.int (nI o)), some (.int 1), some (.int (nI (q + 1)))]) rfl ?_
        refine gx_goto dX6_doneCount_63 (tgt := 17) (by decide) ?_
        have e9 : (if x = 0 then (0 : Int32) else if gv_of σ q o then (if σ.2.1 118 (40 * q + o) 0 = 0 then 0 else 1) else 1) = 1 := by simp [hx, h5]
        rw [show sm_da σ o (m + 1) q x = sm_da σ o m (q + 1) 1 from by rw [sm_da, e9], show q + (m + 1) = q + 1 + m by omega] at K
        exact ih (q + 1) 1 (by omega) K
      · have h5 := gs_b1 h5
        refine gx_aload_n dX6_doneCount_40 rfl ?_
        refine gx_get dX6_doneCount_41 gf_X6_59 (gs_g6 R hm) (v := .ref (A 38 0 0)) (rfl) ?_
        refine gx_iload dX6_doneCount_44 rfl ?_
        refine gx_iload_n dX6_doneCount_46 rfl ?_
        refine gx_invS dX6_doneCount_47 wm_X6_105 gt_X6_at ws_X6_at (As := [.int (nI q), .int (nI o)]) (rest := [.ref (A 38 0 0)]) rfl rfl (Nat.le_of_ble_eq_true rfl) (by decide) (cc_X6_atE (g := q) (o := o) (rfl) (rfl)) (fun r1 h1 q1 => ?_)
        obtain ⟨rfl, rfl⟩ := q1
        show gx_Ev _ _ _ _ _ [.int (nI (40 * q + o)), .ref (A 38 0 0)] _ _
        refine gq_38 dX6_doneCount_50 R hm (q := 40 * q + o) (rfl) (by omega) (v := σ.2.1 118 (40 * q + o) 0) (rfl) ?_
        refine gx_if_eq dX6_doneCount_51 (tgt := 58) (by decide) (fun h6 => ?_) (fun h6 => ?_)
        · refine gx_iconst dX6_doneCount_58 (v := 0) (by decide) ?_
          refine gx_istore_n dX6_doneCount_59 (by decide) rfl (L' := [some (.ref (A 6 0 0)), some (.int c), some (.int (nI o)), some (.int 0), some (.int (nI q))]) rfl ?_
          refine gx_iinc dX6_doneCount_60 rfl (v := nI (q + 1)) (nI_1 _) (by decide) rfl (L' := [some (.ref (A 6 0 0)), some (.int c), some (.int (nI o)), some (.int 0), some (.int (nI (q + 1)))]) rfl ?_
          refine gx_goto dX6_doneCount_63 (tgt := 17) (by decide) ?_
          have e9 : (if x = 0 then (0 : Int32) else if gv_of σ q o then (if σ.2.1 118 (40 * q + o) 0 = 0 then 0 else 1) else 1) = 0 := by simp [hx, h5, h6]
          rw [show sm_da σ o (m + 1) q x = sm_da σ o m (q + 1) 0 from by rw [sm_da, e9], show q + (m + 1) = q + 1 + m by omega] at K
          exact ih (q + 1) 0 (by omega) K
        · refine gx_iconst dX6_doneCount_54 (v := 1) (by decide) ?_
          refine gx_goto dX6_doneCount_55 (tgt := 59) (by decide) ?_
          refine gx_istore_n dX6_doneCount_59 (by decide) rfl (L' := [some (.ref (A 6 0 0)), some (.int c), some (.int (nI o)), some (.int 1), some (.int (nI q))]) rfl ?_
          refine gx_iinc dX6_doneCount_60 rfl (v := nI (q + 1)) (nI_1 _) (by decide) rfl (L' := [some (.ref (A 6 0 0)), some (.int c), some (.int (nI o)), some (.int 1), some (.int (nI (q + 1)))]) rfl ?_
          refine gx_goto dX6_doneCount_63 (tgt := 17) (by decide) ?_
          have e9 : (if x = 0 then (0 : Int32) else if gv_of σ q o then (if σ.2.1 118 (40 * q + o) 0 = 0 then 0 else 1) else 1) = 1 := by simp [hx, h5, h6]
          rw [show sm_da σ o (m + 1) q x = sm_da σ o m (q + 1) 1 from by rw [sm_da, e9], show q + (m + 1) = q + 1 + m by omega] at K
          exact ih (q + 1) 1 (by omega) K
set_option maxHeartbeats 4000000 in
theorem cl_dc {S : gx_S} {h : gx_H} {σ : gs_T} {A : gs_A} (R : gs_R h σ A) (hm : σ.1 31 0 0 = 1) (V : gv_V σ) : ∀ (m o : Nat) (c : Int32) (w3 w4 : Option Value), o + m = σ.1 104 0 0 → gx_Ev S gm_X6_doneCount 2 4 [some (.ref (A 6 0 0)), some (.int c), some (.int (nI o)), w3, w4] [] h (fun r h' => gx_rt (some .int) r ∧ h' = h ∧ r = some (.int (sm_dn σ m o c))) := by
  intro m
  induction m with
  | zero =>
    intro o c w3 w4 hgm
    have h40 := gv_cnt V
    refine gx_iload_n dX6_doneCount_4 rfl ?_
    refine gx_aload_n dX6_doneCount_5 rfl ?_
    refine gx_get dX6_doneCount_6 gf_X6_124 (gs_g6 R hm) (v := .int (nI (σ.1 104 0 0))) (rfl) ?_
    refine gx_icmp_ge dX6_doneCount_9 (tgt := 84) (by decide) (fun hc1 => ?_) (fun hc1 => absurd hc1 (fun z => z (nI_le (by omega) (by omega))))
    refine gx_iload_n dX6_doneCount_84 rfl ?_
    refine gx_ireturn dX6_doneCount_85 ?_
    exact ⟨⟨_, rfl, rfl⟩, rfl, rfl⟩
  | succ m ih =>
    intro o c w3 w4 hgm
    have h40 := gv_cnt V
    have ho : o < 40 := by omega
    refine gx_iload_n dX6_doneCount_4 rfl ?_
    refine gx_aload_n dX6_doneCount_5 rfl ?_
    refine gx_get dX6_doneCount_6 gf_X6_124 (gs_g6 R hm) (v := .int (nI (σ.1 104 0 0))) (rfl) ?_
    refine gx_icmp_ge dX6_doneCount_9 (tgt := 84) (by decide) (fun hc0 => absurd hc0 (nI_ge (by omega) (by omega))) (fun hc0 => ?_)
    refine gx_iconst dX6_doneCount_12 (v := 1) (by decide) ?_
    refine gx_istore_n dX6_doneCount_13 (by decide) rfl (L' := [some (.ref (A 6 0 0)), some (.int c), some (.int (nI o)), some (.int 1), w4]) rfl ?_
    refine gx_iconst dX6_doneCount_14 (v := 0) (by decide) ?_
    refine gx_istore dX6_doneCount_15 (by decide) rfl (L' := [some (.ref (A 6 0 0)), some (.int c), some (.int (nI o)), some (.int 1), some (.int 0)]) rfl ?_
    refine cl_dc_in R hm V ho c _ 0 1 (Nat.zero_add _) ?_
    refine gx_iload_n dX6_doneCount_66 rfl ?_
    refine gx_iload_n dX6_doneCount_67 rfl ?_
    refine gx_if_eq dX6_doneCount_68 (tgt := 75) (by decide) (fun hd => ?_) (fun hd => ?_)
    · refine gx_iconst dX6_doneCount_75 (v := 0) (by decide) ?_
      refine gx_iadd dX6_doneCount_76 ?_
      refine gx_istore_n dX6_doneCount_77 (by decide) rfl (L' := [some (.ref (A 6 0 0)), some (.int (c + 0)), some (.int (nI o)), some (.int (sm_da σ o (σ.1 100 0 0) 0 1)), some (.int (nI (0 + σ.1 100 0 0)))]) rfl ?_
      refine gx_iinc dX6_doneCount_78 rfl (v := nI (o + 1)) (nI_1 _) (by decide) rfl (L' := [some (.ref (A 6 0 0)), some (.int (c + 0)), some (.int (nI (o + 1))), some (.int (sm_da σ o (σ.1 100 0 0) 0 1)), some (.int (nI (0 + σ.1 100 0 0)))]) rfl ?_
      refine gx_goto dX6_doneCount_81 (tgt := 4) (by decide) ?_
      rw [show sm_dn σ (m + 1) o c = sm_dn σ m (o + 1) (c + 0) from by rw [sm_dn]; simp [hd]]
      exact ih (o + 1) (c + 0) _ _ (by omega)
    · refine gx_iconst dX6_doneCount_71 (v := 1) (by decide) ?_
      refine gx_goto dX6_doneCount_72 (tgt := 76) (by decide) ?_
      refine gx_iadd dX6_doneCount_76 ?_
      refine gx_istore_n dX6_doneCount_77 (by decide) rfl (L' := [some (.ref (A 6 0 0)), some (.int (c + 1)), some (.int (nI o)), some (.int (sm_da σ o (σ.1 100 0 0) 0 1)), some (.int (nI (0 + σ.1 100 0 0)))]) rfl ?_
      refine gx_iinc dX6_doneCount_78 rfl (v := nI (o + 1)) (nI_1 _) (by decide) rfl (L' := [some (.ref (A 6 0 0)), some (.int (c + 1)), some (.int (nI (o + 1))), some (.int (sm_da σ o (σ.1 100 0 0) 0 1)), some (.int (nI (0 + σ.1 100 0 0)))]) rfl ?_
      refine gx_goto dX6_doneCount_81 (tgt := 4) (by decide) ?_
      rw [show sm_dn σ (m + 1) o c = sm_dn σ m (o + 1) (c + 1) from by rw [sm_dn]; simp [hd]]
      exact ih (o + 1) (c + 1) _ _ (by omega)
set_option maxHeartbeats 4000000 in
theorem cc_X6_doneCount {S : gx_S} {h : gx_H} {σ : gs_T} {A : gs_A} (R : gs_R h σ A) (hm : σ.1 31 0 0 = 1) (V : gv_V σ) : gx_Cn S gm_X6_doneCount 2 [.ref (A 6 0 0)] h (fun r h' => h' = h ∧ r = some (.int (sm_dn σ (σ.1 104 0 0) 0 0))) := by
  refine gx_Cn.of gt_X6_doneCount (by simp [Value.category]) (Nat.le_of_ble_eq_true rfl) ?_
  show gx_Ev S gm_X6_doneCount 2 0 [some (.ref (A 6 0 0)), none, none, none, none] [] h _
  refine gx_iconst dX6_doneCount_0 (v := 0) (by decide) ?_
  refine gx_istore_n dX6_doneCount_1 (by decide) rfl (L' := [some (.ref (A 6 0 0)), some (.int 0), none, none, none]) rfl ?_
  refine gx_iconst dX6_doneCount_2 (v := 0) (by decide) ?_
  refine gx_istore_n dX6_doneCount_3 (by decide) rfl (L' := [some (.ref (A 6 0 0)), some (.int 0), some (.int 0), none, none]) rfl ?_
  exact cl_dc R hm V _ 0 0 none none (Nat.zero_add _)
def sm_count (σ : gs_T) (x : Int32) : Int32 := if x = 0 then nI (σ.1 100 0 0) else if x = 1 then nI (σ.1 104 0 0) else if x = 2 then σ.2.1 133 0 0 else if x = 3 then sm_ca σ (σ.1 104 0 0) 0 0 else if x = 4 then sm_dn σ (σ.1 104 0 0) 0 0 else -1
set_option maxHeartbeats 4000000 in
theorem cl_ct {S : gx_S} {h : gx_H} {σ : gs_T} {A : gs_A} (R : gs_R h σ A) (hm : σ.1 31 0 0 = 1) (V : gv_V σ) (x : Int32) {Q : Option Value → gx_H → Prop} : ∀ (m q : Nat) (c : Int32), q + m = σ.1 104 0 0 → gx_Ev S gm_X6_count 3 35 [some (.ref (A 6 0 0)), some (.int x), some (.int (sm_ca σ m q c)), some (.int (nI (q + m)))] [] h Q → gx_Ev S gm_X6_count 3 4 [some (.ref (A 6 0 0)), some (.int x), some (.int c), some (.int (nI q))] [] h Q := by
  intro m
  induction m with
  | zero =>
    intro q c hm9 K
    have h40 := gv_cnt V
    refine gx_iload_n dX6_count_4 rfl ?_
    refine gx_aload_n dX6_count_5 rfl ?_
    refine gx_get dX6_count_6 gf_X6_124 (gs_g6 R hm) (v := .int (nI (σ.1 104 0 0))) (rfl) ?_
    refine gx_icmp_ge dX6_count_9 (tgt := 35) (by decide) (fun hc1 => ?_) (fun hc1 => absurd hc1 (fun z => z (nI_le (by omega) (by omega))))
    exact K
  | succ m ih =>
    intro q c hm9 K
    have h40 := gv_cnt V
    refine gx_iload_n dX6_count_4 rfl ?_
    refine gx_aload_n dX6_count_5 rfl ?_
    refine gx_get dX6_count_6 gf_X6_124 (gs_g6 R hm) (v := .int (nI (σ.1 104 0 0))) (rfl) ?_
    refine gx_icmp_ge dX6_count_9 (tgt := 35) (by decide) (fun hc0 => absurd hc0 (nI_ge (by omega) (by omega))) (fun hc0 => ?_)
    refine gx_iload_n dX6_count_12 rfl ?_
    refine gx_aload_n dX6_count_13 rfl ?_
    refine gx_get dX6_count_14 gf_X6_38 (gs_g6 R hm) (v := .ref (A 31 0 0)) (rfl) ?_
    refine gx_iload_n dX6_count_17 rfl ?_
    refine gq_31 dX6_count_18 R hm (q := q) (rfl) (by omega) (v := σ.2.1 111 q 0) (rfl) ?_
    refine gx_if_eq dX6_count_19 (tgt := 26) (by decide) (fun hd => ?_) (fun hd => ?_)
    · refine gx_iconst dX6_count_26 (v := 0) (by decide) ?_
      refine gx_iadd dX6_count_27 ?_
      refine gx_istore_n dX6_count_28 (by decide) rfl (L' := [some (.ref (A 6 0 0)), some (.int x), some (.int (c + 0)), some (.int (nI q))]) rfl ?_
      refine gx_iinc dX6_count_29 rfl (v := nI (q + 1)) (nI_1 _) (by decide) rfl (L' := [some (.ref (A 6 0 0)), some (.int x), some (.int (c + 0)), some (.int (nI (q + 1)))]) rfl ?_
      refine gx_goto dX6_count_32 (tgt := 4) (by decide) ?_
      rw [show sm_ca σ (m + 1) q c = sm_ca σ m (q + 1) (c + 0) from by rw [sm_ca]; simp [hd], show q + (m + 1) = q + 1 + m by omega] at K
      exact ih (q + 1) (c + 0) (by omega) K
    · refine gx_iconst dX6_count_22 (v := 1) (by decide) ?_
      refine gx_goto dX6_count_23 (tgt := 27) (by decide) ?_
      refine gx_iadd dX6_count_27 ?_
      refine gx_istore_n dX6_count_28 (by decide) rfl (L' := [some (.ref (A 6 0 0)), some (.int x), some (.int (c + 1)), some (.int (nI q))]) rfl ?_
      refine gx_iinc dX6_count_29 rfl (v := nI (q + 1)) (nI_1 _) (by decide) rfl (L' := [some (.ref (A 6 0 0)), some (.int x), some (.int (c + 1)), some (.int (nI (q + 1)))]) rfl ?_
      refine gx_goto dX6_count_32 (tgt := 4) (by decide) ?_
      rw [show sm_ca σ (m + 1) q c = sm_ca σ m (q + 1) (c + 1) from by rw [sm_ca]; simp [hd], show q + (m + 1) = q + 1 + m by omega] at K
      exact ih (q + 1) (c + 1) (by omega) K
set_option maxHeartbeats 4000000 in
theorem cc_X6_count {S : gx_S} {h : gx_H} {σ : gs_T} {A : gs_A} (R : gs_R h σ A) (hm : σ.1 31 0 0 = 1) (V : gv_V σ) (x : Int32) : gx_Cn S gm_X6_count 3 [.ref (A 6 0 0), .int x] h (fun r h' => h' = h ∧ r = some (.int (sm_count σ x))) := by
  refine gx_Cn.of gt_X6_count (by simp [Value.category]) (Nat.le_of_ble_eq_true rfl) ?_
  show gx_Ev S gm_X6_count 3 0 [some (.ref (A 6 0 0)), some (.int x), none, none] [] h _
  refine gx_iconst dX6_count_0 (v := 0) (by decide) ?_
  refine gx_istore_n dX6_count_1 (by decide) rfl (L' := [some (.ref (A 6 0 0)), some (.int x), some (.int 0), none]) rfl ?_
  refine gx_iconst dX6_count_2 (v := 0) (by decide) ?_
  refine gx_istore_n dX6_count_3 (by decide) rfl (L' := [some (.ref (A 6 0 0)), some (.int x), some (.int 0), some (.int 0)]) rfl ?_
  refine cl_ct R hm V x _ 0 0 (Nat.zero_add _) ?_
  refine gx_iload_n dX6_count_35 rfl ?_
  refine gx_if_ne dX6_count_36 (tgt := 46) (by decide) (fun hc1 => ?_) (fun hc1 => ?_)
  · refine gx_iload_n dX6_count_46 rfl ?_
    refine gx_iconst dX6_count_47 (v := 1) (by decide) ?_
    refine gx_icmp_ne dX6_count_48 (tgt := 58) (by decide) (fun hc2 => ?_) (fun hc2 => ?_)
    · refine gx_iload_n dX6_count_58 rfl ?_
      refine gx_iconst dX6_count_59 (v := 2) (by decide) ?_
      refine gx_icmp_ne dX6_count_60 (tgt := 70) (by decide) (fun hc3 => ?_) (fun hc3 => ?_)
      · refine gx_iload_n dX6_count_70 rfl ?_
        refine gx_iconst dX6_count_71 (v := 3) (by decide) ?_
        refine gx_icmp_ne dX6_count_72 (tgt := 79) (by decide) (fun hc4 => ?_) (fun hc4 => ?_)
        · refine gx_iload_n dX6_count_79 rfl ?_
          refine gx_iconst dX6_count_80 (v := 4) (by decide) ?_
          refine gx_icmp_ne dX6_count_81 (tgt := 91) (by decide) (fun hc5 => ?_) (fun hc5 => ?_)
          · refine gx_iconst dX6_count_91 (v := (-1)) (by decide) ?_
            refine gx_ireturn dX6_count_92 ?_
            exact ⟨⟨_, rfl, rfl⟩, rfl, by simp [sm_count, hc1, hc2, hc3, hc4, hc5]⟩
          · refine gx_aload_n dX6_count_84 rfl ?_
            refine gx_invV dX6_count_85 wm_X6_162 gt_X6_doneCount wy_X6_doneCount wl_X6_doneCount (ci := 6) rfl rfl (gs_g6 R hm) (As := []) (rest := []) rfl rfl (Nat.le_of_ble_eq_true rfl) (by decide) (cc_X6_doneCount R hm V) (fun r1 h1 q1 => ?_)
            obtain ⟨rfl, rfl⟩ := q1
            show gx_Ev _ _ _ _ _ [.int (sm_dn σ (σ.1 104 0 0) 0 0)] _ _
            refine gx_goto dX6_count_88 (tgt := 92) (by decide) ?_
            refine gx_ireturn dX6_count_92 ?_
            exact ⟨⟨_, rfl, rfl⟩, rfl, by simp [sm_count, hc1, hc2, hc3, hc4, hc5]⟩
        · refine gx_iload_n dX6_count_75 rfl ?_
          refine gx_goto dX6_count_76 (tgt := 92) (by decide) ?_
          refine gx_ireturn dX6_count_92 ?_
          exact ⟨⟨_, rfl, rfl⟩, rfl, by simp [sm_count, hc1, hc2, hc3, hc4]⟩
      · refine gx_aload_n dX6_count_63 rfl ?_
        refine gx_get dX6_count_64 gf_X6_139 (gs_g6 R hm) (v := .int (σ.2.1 133 0 0)) (rfl) ?_
        refine gx_goto dX6_count_67 (tgt := 92) (by decide) ?_
        refine gx_ireturn dX6_count_92 ?_
        exact ⟨⟨_, rfl, rfl⟩, rfl, by simp [sm_count, hc1, hc2, hc3]⟩
    · refine gx_aload_n dX6_count_51 rfl ?_
      refine gx_get dX6_count_52 gf_X6_124 (gs_g6 R hm) (v := .int (nI (σ.1 104 0 0))) (rfl) ?_
      refine gx_goto dX6_count_55 (tgt := 92) (by decide) ?_
      refine gx_ireturn dX6_count_92 ?_
      exact ⟨⟨_, rfl, rfl⟩, rfl, by simp [sm_count, hc1, hc2]⟩
  · refine gx_aload_n dX6_count_39 rfl ?_
    refine gx_get dX6_count_40 gf_X6_101 (gs_g6 R hm) (v := .int (nI (σ.1 100 0 0))) (rfl) ?_
    refine gx_goto dX6_count_43 (tgt := 92) (by decide) ?_
    refine gx_ireturn dX6_count_92 ?_
    exact ⟨⟨_, rfl, rfl⟩, rfl, by simp [sm_count, hc1]⟩
end
section
/-! the class: what a state keeps to, and its arrays of references -/
def gw_W (σ : gs_T) : Prop := (2 ≤ σ.1 0 0 0 ∧ σ.1 0 0 0 ≤ 4 ∧ σ.1 1 0 0 ≤ 40 ∧ σ.1 2 0 0 ≤ 240) ∧ (∀ g, g < σ.1 0 0 0 → σ.1 15 g 0 = 1) ∧ (∀ o, o < σ.1 1 0 0 → σ.1 11 o 0 = 1) ∧ (∀ i, i < σ.1 2 0 0 → σ.1 10 i 0 = 1) ∧ (∀ i, σ.1 10 i 0 = 1 → σ.1 6 (σ.1 8 i 0) (σ.1 9 i 0) = 1) ∧ (∀ g o, σ.1 6 g o = 1 → g < σ.1 0 0 0 ∧ o < σ.1 1 0 0) ∧ (∀ g o g', σ.1 6 g o = 1 → σ.1 7 g o = g' + 1 → σ.1 6 g' o = 1) ∧ (∀ g k o, σ.1 5 g k = o + 1 → σ.1 6 g o = 1) ∧ (∀ g k, g < σ.1 0 0 0 → k < σ.1 3 g 0 → ¬ σ.1 5 g k = 0) ∧ (∀ g, σ.1 3 g 0 ≤ 40) ∧ (∀ g, σ.1 4 g 0 ≤ σ.1 3 g 0) ∧ (∀ o, σ.1 12 o 0 < 4) ∧ (∀ o, σ.1 13 o 0 < 16) ∧ (∀ o, σ.1 14 o 0 < 16)
theorem gw_n2 {σ : gs_T} (W : gw_W σ) : 2 ≤ σ.1 0 0 0 := W.1.1
theorem gw_n4 {σ : gs_T} (W : gw_W σ) : σ.1 0 0 0 ≤ 4 := W.1.2.1
theorem gw_cnt {σ : gs_T} (W : gw_W σ) : σ.1 1 0 0 ≤ 40 := W.1.2.2.1
theorem gw_fl {σ : gs_T} (W : gw_W σ) : σ.1 2 0 0 ≤ 240 := W.1.2.2.2
theorem gw_g {σ : gs_T} (W : gw_W σ) {g : Nat} (h : g < σ.1 0 0 0) : σ.1 15 g 0 = 1 := W.2.1 g h
theorem gw_o {σ : gs_T} (W : gw_W σ) {o : Nat} (h : o < σ.1 1 0 0) : σ.1 11 o 0 = 1 := W.2.2.1 o h
theorem gw_m {σ : gs_T} (W : gw_W σ) {i : Nat} (h : i < σ.1 2 0 0) : σ.1 10 i 0 = 1 := W.2.2.2.1 i h
theorem gw_mp {σ : gs_T} (W : gw_W σ) {i : Nat} (h : σ.1 10 i 0 = 1) : σ.1 6 (σ.1 8 i 0) (σ.1 9 i 0) = 1 := W.2.2.2.2.1 i h
theorem gw_p {σ : gs_T} (W : gw_W σ) {g o : Nat} (h : σ.1 6 g o = 1) : g < σ.1 0 0 0 ∧ o < σ.1 1 0 0 := W.2.2.2.2.2.1 g o h
theorem gw_ot {σ : gs_T} (W : gw_W σ) {g o g' : Nat} (h : σ.1 6 g o = 1) (e : σ.1 7 g o = g' + 1) : σ.1 6 g' o = 1 := W.2.2.2.2.2.2.1 g o g' h e
theorem gw_tp {σ : gs_T} (W : gw_W σ) {g k o : Nat} (e : σ.1 5 g k = o + 1) : σ.1 6 g o = 1 := W.2.2.2.2.2.2.2.1 g k o e
theorem gw_tn {σ : gs_T} (W : gw_W σ) {g k : Nat} (hg : g < σ.1 0 0 0) (hk : k < σ.1 3 g 0) : ∃ o, σ.1 5 g k = o + 1 := by
  have h := W.2.2.2.2.2.2.2.2.1 g k hg hk
  exact ⟨σ.1 5 g k - 1, by omega⟩
theorem gw_tc {σ : gs_T} (W : gw_W σ) (g : Nat) : σ.1 3 g 0 ≤ 40 := W.2.2.2.2.2.2.2.2.2.1 g
theorem gw_wc {σ : gs_T} (W : gw_W σ) (g : Nat) : σ.1 4 g 0 ≤ σ.1 3 g 0 := W.2.2.2.2.2.2.2.2.2.2.1 g
theorem gw_c {σ : gs_T} (W : gw_W σ) (o : Nat) : σ.1 12 o 0 < 4 := W.2.2.2.2.2.2.2.2.2.2.2.1 o
theorem gw_a {σ : gs_T} (W : gw_W σ) (o : Nat) : σ.1 13 o 0 < 16 := W.2.2.2.2.2.2.2.2.2.2.2.2.1 o
theorem gw_b {σ : gs_T} (W : gw_W σ) (o : Nat) : σ.1 14 o 0 < 16 := W.2.2.2.2.2.2.2.2.2.2.2.2.2 o
theorem gr_7 {S : gx_S} {M : gx_M} {d pc : Nat} {L : List (Option Value)} {st : List Value} {h : gx_H} {Q : Option Value → gx_H → Prop} {σ : gs_T} {A : gs_A} {q : Nat} {x : Int32} (hd : decode M.2.2.1 pc = .ok (.aaload, 1)) (R : gs_R h σ A) (hx : x = nI q) (hq : q < σ.1 0 0 0) (hb : σ.1 0 0 0 ≤ 240) (hf : σ.1 15 q 0 = 1) (kk : gx_Ev S M d (pc + 1) L (.ref (A 1 q 0) :: st) h Q) : gx_Ev S M d pc L (.int x :: .ref (A 7 0 0) :: st) h Q := by
  subst hx
  refine gx_aald hd (t := 2) (by decide) (gs_g7 R ) (vp_in_nI hq (by omega)) ?_ kk
  rw [nI_clamp (by omega)]
  simp [hf, va_rf, gs_op]
theorem gr_10 {S : gx_S} {M : gx_M} {d pc : Nat} {L : List (Option Value)} {st : List Value} {h : gx_H} {Q : Option Value → gx_H → Prop} {σ : gs_T} {A : gs_A} {q : Nat} {x : Int32} (hd : decode M.2.2.1 pc = .ok (.aaload, 1)) (R : gs_R h σ A) (hx : x = nI q) (hq : q < 40) (hb : 40 ≤ 240) (hf : σ.1 11 q 0 = 1) (kk : gx_Ev S M d (pc + 1) L (.ref (A 3 q 0) :: st) h Q) : gx_Ev S M d pc L (.int x :: .ref (A 10 0 0) :: st) h Q := by
  subst hx
  refine gx_aald hd (t := 4) (by decide) (gs_g10 R ) (vp_in_nI hq (by omega)) ?_ kk
  rw [nI_clamp (by omega)]
  simp [hf, va_rf, gs_op]
theorem gr_13 {S : gx_S} {M : gx_M} {d pc : Nat} {L : List (Option Value)} {st : List Value} {h : gx_H} {Q : Option Value → gx_H → Prop} {σ : gs_T} {A : gs_A} {q : Nat} {x : Int32} {i : Nat} (hd : decode M.2.2.1 pc = .ok (.aaload, 1)) (R : gs_R h σ A) (hl : σ.1 15 i 0 = 1) (hx : x = nI q) (hq : q < 40) (hb : 40 ≤ 240) (hf : σ.1 6 i q = 1) (kk : gx_Ev S M d (pc + 1) L (.ref (A 4 i q) :: st) h Q) : gx_Ev S M d pc L (.int x :: .ref (A 13 i 0) :: st) h Q := by
  subst hx
  refine gx_aald hd (t := 5) (by decide) (gs_g13 R hl) (vp_in_nI hq (by omega)) ?_ kk
  rw [nI_clamp (by omega)]
  simp [hf, va_rf, gs_op]
theorem gr_13N {S : gx_S} {M : gx_M} {d pc : Nat} {L : List (Option Value)} {st : List Value} {h : gx_H} {Q : Option Value → gx_H → Prop} {σ : gs_T} {A : gs_A} {q : Nat} {x : Int32} {i : Nat} (hd : decode M.2.2.1 pc = .ok (.aaload, 1)) (R : gs_R h σ A) (hl : σ.1 15 i 0 = 1) (hx : x = nI q) (hq : q < 40) (hb : 40 ≤ 240) (hf : ¬ σ.1 6 i q = 1) (kk : gx_Ev S M d (pc + 1) L (.null :: st) h Q) : gx_Ev S M d pc L (.int x :: .ref (A 13 i 0) :: st) h Q := by
  subst hx
  refine gx_aald hd (t := 5) (by decide) (gs_g13 R hl) (vp_in_nI hq (by omega)) ?_ kk
  rw [nI_clamp (by omega)]
  simp [hf, va_rf, gs_op]
theorem gr_14 {S : gx_S} {M : gx_M} {d pc : Nat} {L : List (Option Value)} {st : List Value} {h : gx_H} {Q : Option Value → gx_H → Prop} {σ : gs_T} {A : gs_A} {q : Nat} {x : Int32} {i : Nat} {o : Nat} (hd : decode M.2.2.1 pc = .ok (.aaload, 1)) (R : gs_R h σ A) (hl : σ.1 15 i 0 = 1) (hx : x = nI q) (hq : q < 40) (hb : 40 ≤ 240) (hf : σ.1 5 i q = o + 1) (kk : gx_Ev S M d (pc + 1) L (.ref (A 4 i o) :: st) h Q) : gx_Ev S M d pc L (.int x :: .ref (A 14 i 0) :: st) h Q := by
  subst hx
  refine gx_aald hd (t := 5) (by decide) (gs_g14 R hl) (vp_in_nI hq (by omega)) ?_ kk
  rw [nI_clamp (by omega)]
  simp [hf, va_rf, gs_op]
theorem gr_15 {S : gx_S} {M : gx_M} {d pc : Nat} {L : List (Option Value)} {st : List Value} {h : gx_H} {Q : Option Value → gx_H → Prop} {σ : gs_T} {A : gs_A} {q : Nat} {x : Int32} (hd : decode M.2.2.1 pc = .ok (.aaload, 1)) (R : gs_R h σ A) (hx : x = nI q) (hq : q < 240) (hb : 240 ≤ 240) (hf : σ.1 10 q 0 = 1) (kk : gx_Ev S M d (pc + 1) L (.ref (A 2 q 0) :: st) h Q) : gx_Ev S M d pc L (.int x :: .ref (A 15 0 0) :: st) h Q := by
  subst hx
  refine gx_aald hd (t := 3) (by decide) (gs_g15 R ) (vp_in_nI hq (by omega)) ?_ kk
  rw [nI_clamp (by omega)]
  simp [hf, va_rf, gs_op]
theorem ga_N5 {S : gx_S} {M : gx_M} {d pc : Nat} {L : List (Option Value)} {st : List Value} {h : gx_H} {Q : Option Value → gx_H → Prop} {σ : gs_T} {A : gs_A} {i q o : Nat} {x : Int32} (hl : σ.1 15 i 0 = 1) (hlp : σ.1 6 i o = 1) (hd : decode M.2.2.1 pc = .ok (.aastore, 1)) (R : gs_R h σ A) (hx : x = nI q) (hq : q < 40) (kk : ∀ h', gs_R h' (gs_n σ 5 i q (o + 1)) A → gs_sm h h' → gx_Ev S M d (pc + 1) L st h' Q) : gx_Ev S M d pc L (.ref (A 4 i o) :: .int x :: .ref (A 14 i 0) :: st) h Q := by
  subst hx
  refine gx_aast hd (t := 5) (ci := 4) ⟨_, rfl, rfl, by decide⟩ (gs_g14 R hl) (gs_g4 R hlp) (vp_in_nI hq (by omega)) (kk _ ?_ ⟨rfl, rfl⟩)
  rw [nI_clamp (by omega)]
  refine R.set (k := 14) (by decide) ⟨hl, rfl⟩ (gs_lvN (by decide)) ?_ (fun k' i' j' hl' hne => ?_)
  · show gx_ar _ _ (fun y => _) = _
    congr 7
    funext y
    by_cases hy : y = q <;> simp [gs_n, gs_u, va_up, gs_op, hy]
  · by_cases hk : k' = 14
    · subst hk
      have hj : j' = 0 := hl'.2
      subst hj
      have hne2 : ¬ i' = i := fun e => hne ⟨rfl, e, rfl⟩
      have e5 : gs_u σ.1 5 i q (o + 1) 5 i' = σ.1 5 i' := by
        funext y
        rw [gs_u_at, if_neg (fun e => hne2 e.1)]
      simp only [gs_cl, gs_n, e5]
    · exact gs_neN (show gs_wn 5 ≠ k' from fun e => hk e.symm) _ _
theorem gs_swout {x : Int32} {N : Nat} (hN : N < 2 ^ 30) (h : ∀ k, k ≤ N → ¬ x = nI k) : x.toInt < 0 ∨ (N : Int) < x.toInt := by
  by_cases h0 : x < 0
  · left
    rw [Int32.lt_iff_toInt_lt] at h0
    exact h0
  · right
    obtain ⟨j, hj, rfl⟩ := nI_of h0
    rw [nI_toInt hj]
    by_cases hjN : j ≤ N
    · exact absurd rfl (h j hjN)
    · omega
end
section
/-! the class: its small methods -/
set_option maxHeartbeats 4000000 in
theorem cc_X5_isClient {S : gx_S} {h : gx_H}  (x : Int32) : gx_Cn S gm_X5_isClient 1 [.int x] h (fun r h' => h' = h ∧ r = some (.int (gs_bi (0 ≤ x ∧ x < 4)))) := by
  refine gx_Cn.of gt_X5_isClient (by simp [Value.category]) (Nat.le_of_ble_eq_true rfl) ?_
  show gx_Ev S gm_X5_isClient 1 0 [some (.int x)] [] h _
  refine gx_iload_n dX5_isClient_0 rfl ?_
  refine gx_if_lt dX5_isClient_1 (tgt := 13) (by decide) (fun hc1 => ?_) (fun hc1 => ?_)
  · refine gx_iconst dX5_isClient_13 (v := 0) (by decide) ?_
    refine gx_ireturn dX5_isClient_14 ?_
    exact ⟨⟨_, rfl, rfl⟩, rfl, congrArg (fun z => some (Value.int z)) (gs_bf (fun z => Int32.not_lt.mpr z.1 hc1))⟩
  · refine gx_iload_n dX5_isClient_4 rfl ?_
    refine gx_iconst dX5_isClient_5 (v := 4) (by decide) ?_
    refine gx_icmp_ge dX5_isClient_6 (tgt := 13) (by decide) (fun hc2 => ?_) (fun hc2 => ?_)
    · refine gx_iconst dX5_isClient_13 (v := 0) (by decide) ?_
      refine gx_ireturn dX5_isClient_14 ?_
      exact ⟨⟨_, rfl, rfl⟩, rfl, congrArg (fun z => some (Value.int z)) (gs_bf (fun z => Int32.not_lt.mpr hc2 z.2))⟩
    · refine gx_iconst dX5_isClient_9 (v := 1) (by decide) ?_
      refine gx_goto dX5_isClient_10 (tgt := 14) (by decide) ?_
      refine gx_ireturn dX5_isClient_14 ?_
      exact ⟨⟨_, rfl, rfl⟩, rfl, congrArg (fun z => some (Value.int z)) (gs_bt (⟨gs_nlt hc1, gs_nle hc2⟩))⟩
set_option maxHeartbeats 4000000 in
theorem cc_X5_isKey {S : gx_S} {h : gx_H}  (x : Int32) : gx_Cn S gm_X5_isKey 1 [.int x] h (fun r h' => h' = h ∧ r = some (.int (gs_bi (0 ≤ x ∧ x < 16)))) := by
  refine gx_Cn.of gt_X5_isKey (by simp [Value.category]) (Nat.le_of_ble_eq_true rfl) ?_
  show gx_Ev S gm_X5_isKey 1 0 [some (.int x)] [] h _
  refine gx_iload_n dX5_isKey_0 rfl ?_
  refine gx_if_lt dX5_isKey_1 (tgt := 14) (by decide) (fun hc1 => ?_) (fun hc1 => ?_)
  · refine gx_iconst dX5_isKey_14 (v := 0) (by decide) ?_
    refine gx_ireturn dX5_isKey_15 ?_
    exact ⟨⟨_, rfl, rfl⟩, rfl, congrArg (fun z => some (Value.int z)) (gs_bf (fun z => Int32.not_lt.mpr z.1 hc1))⟩
  · refine gx_iload_n dX5_isKey_4 rfl ?_
    refine gx_bipush dX5_isKey_5 (v := 16) (by decide) ?_
    refine gx_icmp_ge dX5_isKey_7 (tgt := 14) (by decide) (fun hc2 => ?_) (fun hc2 => ?_)
    · refine gx_iconst dX5_isKey_14 (v := 0) (by decide) ?_
      refine gx_ireturn dX5_isKey_15 ?_
      exact ⟨⟨_, rfl, rfl⟩, rfl, congrArg (fun z => some (Value.int z)) (gs_bf (fun z => Int32.not_lt.mpr hc2 z.2))⟩
    · refine gx_iconst dX5_isKey_10 (v := 1) (by decide) ?_
      refine gx_goto dX5_isKey_11 (tgt := 15) (by decide) ?_
      refine gx_ireturn dX5_isKey_15 ?_
      exact ⟨⟨_, rfl, rfl⟩, rfl, congrArg (fun z => some (Value.int z)) (gs_bt (⟨gs_nlt hc1, gs_nle hc2⟩))⟩
set_option maxHeartbeats 4000000 in
theorem cc_X5_isGroup {S : gx_S} {h : gx_H} {σ : gs_T} {A : gs_A} (R : gs_R h σ A) (x : Int32) : gx_Cn S gm_X5_isGroup 1 [.ref (A 5 0 0), .int x] h (fun r h' => h' = h ∧ r = some (.int (gs_bi (0 ≤ x ∧ x < nI (σ.1 0 0 0))))) := by
  refine gx_Cn.of gt_X5_isGroup (by simp [Value.category]) (Nat.le_of_ble_eq_true rfl) ?_
  show gx_Ev S gm_X5_isGroup 1 0 [some (.ref (A 5 0 0)), some (.int x)] [] h _
  refine gx_iload_n dX5_isGroup_0 rfl ?_
  refine gx_if_lt dX5_isGroup_1 (tgt := 17) (by decide) (fun hc1 => ?_) (fun hc1 => ?_)
  · refine gx_iconst dX5_isGroup_17 (v := 0) (by decide) ?_
    refine gx_ireturn dX5_isGroup_18 ?_
    exact ⟨⟨_, rfl, rfl⟩, rfl, congrArg (fun z => some (Value.int z)) (gs_bf (fun z => Int32.not_lt.mpr z.1 hc1))⟩
  · refine gx_iload_n dX5_isGroup_4 rfl ?_
    refine gx_aload_n dX5_isGroup_5 rfl ?_
    refine gx_get dX5_isGroup_6 gf_X5_46 (gs_g5 R ) (v := .ref (A 7 0 0)) (rfl) ?_
    refine gx_alen dX5_isGroup_9 (by decide) (gs_g7 R) (v := nI (σ.1 0 0 0)) rfl ?_
    refine gx_icmp_ge dX5_isGroup_10 (tgt := 17) (by decide) (fun hc2 => ?_) (fun hc2 => ?_)
    · refine gx_iconst dX5_isGroup_17 (v := 0) (by decide) ?_
      refine gx_ireturn dX5_isGroup_18 ?_
      exact ⟨⟨_, rfl, rfl⟩, rfl, congrArg (fun z => some (Value.int z)) (gs_bf (fun z => Int32.not_lt.mpr hc2 z.2))⟩
    · refine gx_iconst dX5_isGroup_13 (v := 1) (by decide) ?_
      refine gx_goto dX5_isGroup_14 (tgt := 18) (by decide) ?_
      refine gx_ireturn dX5_isGroup_18 ?_
      exact ⟨⟨_, rfl, rfl⟩, rfl, congrArg (fun z => some (Value.int z)) (gs_bt (⟨gs_nlt hc1, gs_nle hc2⟩))⟩
set_option maxHeartbeats 4000000 in
theorem cc_X5_hasOrder {S : gx_S} {h : gx_H} {σ : gs_T} {A : gs_A} (R : gs_R h σ A) (x : Int32) : gx_Cn S gm_X5_hasOrder 1 [.ref (A 5 0 0), .int x] h (fun r h' => h' = h ∧ r = some (.int (gs_bi (0 ≤ x ∧ x < nI (σ.1 1 0 0))))) := by
  refine gx_Cn.of gt_X5_hasOrder (by simp [Value.category]) (Nat.le_of_ble_eq_true rfl) ?_
  show gx_Ev S gm_X5_hasOrder 1 0 [some (.ref (A 5 0 0)), some (.int x)] [] h _
  refine gx_iload_n dX5_hasOrder_0 rfl ?_
  refine gx_if_lt dX5_hasOrder_1 (tgt := 16) (by decide) (fun hc1 => ?_) (fun hc1 => ?_)
  · refine gx_iconst dX5_hasOrder_16 (v := 0) (by decide) ?_
    refine gx_ireturn dX5_hasOrder_17 ?_
    exact ⟨⟨_, rfl, rfl⟩, rfl, congrArg (fun z => some (Value.int z)) (gs_bf (fun z => Int32.not_lt.mpr z.1 hc1))⟩
  · refine gx_iload_n dX5_hasOrder_4 rfl ?_
    refine gx_aload_n dX5_hasOrder_5 rfl ?_
    refine gx_get dX5_hasOrder_6 gf_X5_59 (gs_g5 R ) (v := .int (nI (σ.1 1 0 0))) (rfl) ?_
    refine gx_icmp_ge dX5_hasOrder_9 (tgt := 16) (by decide) (fun hc2 => ?_) (fun hc2 => ?_)
    · refine gx_iconst dX5_hasOrder_16 (v := 0) (by decide) ?_
      refine gx_ireturn dX5_hasOrder_17 ?_
      exact ⟨⟨_, rfl, rfl⟩, rfl, congrArg (fun z => some (Value.int z)) (gs_bf (fun z => Int32.not_lt.mpr hc2 z.2))⟩
    · refine gx_iconst dX5_hasOrder_12 (v := 1) (by decide) ?_
      refine gx_goto dX5_hasOrder_13 (tgt := 17) (by decide) ?_
      refine gx_ireturn dX5_hasOrder_17 ?_
      exact ⟨⟨_, rfl, rfl⟩, rfl, congrArg (fun z => some (Value.int z)) (gs_bt (⟨gs_nlt hc1, gs_nle hc2⟩))⟩
set_option maxHeartbeats 4000000 in
theorem cc_X0_has {S : gx_S} {h : gx_H} {σ : gs_T} {A : gs_A} (R : gs_R h σ A) (x : Int32) : gx_Cn S gm_X0_has 1 [.ref (A 0 0 0), .int x] h (fun r h' => h' = h ∧ r = some (.int (gs_bi (0 ≤ x ∧ x < nI (σ.1 2 0 0))))) := by
  refine gx_Cn.of gt_X0_has (by simp [Value.category]) (Nat.le_of_ble_eq_true rfl) ?_
  show gx_Ev S gm_X0_has 1 0 [some (.ref (A 0 0 0)), some (.int x)] [] h _
  refine gx_iload_n dX0_has_0 rfl ?_
  refine gx_if_lt dX0_has_1 (tgt := 16) (by decide) (fun hc1 => ?_) (fun hc1 => ?_)
  · refine gx_iconst dX0_has_16 (v := 0) (by decide) ?_
    refine gx_ireturn dX0_has_17 ?_
    exact ⟨⟨_, rfl, rfl⟩, rfl, congrArg (fun z => some (Value.int z)) (gs_bf (fun z => Int32.not_lt.mpr z.1 hc1))⟩
  · refine gx_iload_n dX0_has_4 rfl ?_
    refine gx_aload_n dX0_has_5 rfl ?_
    refine gx_get dX0_has_6 gf_X0_17 (gs_g0 R ) (v := .int (nI (σ.1 2 0 0))) (rfl) ?_
    refine gx_icmp_ge dX0_has_9 (tgt := 16) (by decide) (fun hc2 => ?_) (fun hc2 => ?_)
    · refine gx_iconst dX0_has_16 (v := 0) (by decide) ?_
      refine gx_ireturn dX0_has_17 ?_
      exact ⟨⟨_, rfl, rfl⟩, rfl, congrArg (fun z => some (Value.int z)) (gs_bf (fun z => Int32.not_lt.mpr hc2 z.2))⟩
    · refine gx_iconst dX0_has_12 (v := 1) (by decide) ?_
      refine gx_goto dX0_has_13 (tgt := 17) (by decide) ?_
      refine gx_ireturn dX0_has_17 ?_
      exact ⟨⟨_, rfl, rfl⟩, rfl, congrArg (fun z => some (Value.int z)) (gs_bt (⟨gs_nlt hc1, gs_nle hc2⟩))⟩
theorem gs_k3 {k : Int32} (h : 3 < k) (h4 : k < 4) : False := by
  rw [Int32.lt_iff_toInt_lt] at h h4
  have e3 : (3 : Int32).toInt = 3 := by decide
  have e4 : (4 : Int32).toInt = 4 := by decide
  omega
theorem gs_k3n {k : Int32} (h : ¬ 3 < k) : k < 4 := by
  rw [Int32.lt_iff_toInt_lt] at *
  have e3 : (3 : Int32).toInt = 3 := by decide
  have e4 : (4 : Int32).toInt = 4 := by decide
  omega
set_option maxHeartbeats 4000000 in
theorem cc_X5_isOrder {S : gx_S} {h : gx_H} (x k a b c : Int32) : gx_Cn S gm_X5_isOrder 2 [.int x, .int k, .int a, .int b, .int c] h (fun r h' => h' = h ∧ r = some (.int (gs_bi (sv_ok x k a b c)))) := by
  refine gx_Cn.of gt_X5_isOrder (by simp [Value.category]) (Nat.le_of_ble_eq_true rfl) ?_
  show gx_Ev S gm_X5_isOrder 2 0 [some (.int x), some (.int k), some (.int a), some (.int b), some (.int c)] [] h _
  refine gx_iload_n dX5_isOrder_0 rfl ?_
  refine gx_invS dX5_isOrder_1 wm_X5_171 gt_X5_isClient ws_X5_isClient (As := [.int x]) (rest := []) rfl rfl (Nat.le_of_ble_eq_true rfl) (by decide) (cc_X5_isClient x) (fun r1 h1 q1 => ?_)
  obtain ⟨rfl, rfl⟩ := q1
  show gx_Ev _ _ _ _ _ [.int (gs_bi (0 ≤ x ∧ x < 4))] _ _
  refine gx_if_eq dX5_isOrder_4 (tgt := 46) (by decide) (fun hc1 => ?_) (fun hc1 => ?_)
  · have hc1 := gs_b0 hc1
    refine gx_iconst dX5_isOrder_46 (v := 0) (by decide) ?_
    refine gx_ireturn dX5_isOrder_47 ?_
    exact ⟨⟨_, rfl, rfl⟩, rfl, congrArg (fun z => some (Value.int z)) (gs_bf (fun z => hc1 z.1))⟩
  · have hc1 := gs_b1 hc1
    refine gx_iload_n dX5_isOrder_7 rfl ?_
    refine gx_if_lt dX5_isOrder_8 (tgt := 46) (by decide) (fun hc2 => ?_) (fun hc2 => ?_)
    · refine gx_iconst dX5_isOrder_46 (v := 0) (by decide) ?_
      refine gx_ireturn dX5_isOrder_47 ?_
      exact ⟨⟨_, rfl, rfl⟩, rfl, congrArg (fun z => some (Value.int z)) (gs_bf (fun z => Int32.not_lt.mpr z.2.1.1 hc2))⟩
    · refine gx_iload_n dX5_isOrder_11 rfl ?_
      refine gx_iconst dX5_isOrder_12 (v := 3) (by decide) ?_
      refine gx_icmp_gt dX5_isOrder_13 (tgt := 46) (by decide) (fun hc3 => ?_) (fun hc3 => ?_)
      · refine gx_iconst dX5_isOrder_46 (v := 0) (by decide) ?_
        refine gx_ireturn dX5_isOrder_47 ?_
        exact ⟨⟨_, rfl, rfl⟩, rfl, congrArg (fun z => some (Value.int z)) (gs_bf (fun z => gs_k3 hc3 z.2.1.2))⟩
      · refine gx_iload_n dX5_isOrder_16 rfl ?_
        refine gx_invS dX5_isOrder_17 wm_X5_165 gt_X5_isKey ws_X5_isKey (As := [.int a]) (rest := []) rfl rfl (Nat.le_of_ble_eq_true rfl) (by decide) (cc_X5_isKey a) (fun r1 h1 q1 => ?_)
        obtain ⟨rfl, rfl⟩ := q1
        show gx_Ev _ _ _ _ _ [.int (gs_bi (0 ≤ a ∧ a < 16))] _ _
        refine gx_if_eq dX5_isOrder_20 (tgt := 46) (by decide) (fun hc4 => ?_) (fun hc4 => ?_)
        · have hc4 := gs_b0 hc4
          refine gx_iconst dX5_isOrder_46 (v := 0) (by decide) ?_
          refine gx_ireturn dX5_isOrder_47 ?_
          exact ⟨⟨_, rfl, rfl⟩, rfl, congrArg (fun z => some (Value.int z)) (gs_bf (fun z => hc4 z.2.2.1))⟩
        · have hc4 := gs_b1 hc4
          refine gx_iload_n dX5_isOrder_23 rfl ?_
          refine gx_invS dX5_isOrder_24 wm_X5_165 gt_X5_isKey ws_X5_isKey (As := [.int b]) (rest := []) rfl rfl (Nat.le_of_ble_eq_true rfl) (by decide) (cc_X5_isKey b) (fun r1 h1 q1 => ?_)
          obtain ⟨rfl, rfl⟩ := q1
          show gx_Ev _ _ _ _ _ [.int (gs_bi (0 ≤ b ∧ b < 16))] _ _
          refine gx_if_eq dX5_isOrder_27 (tgt := 46) (by decide) (fun hc5 => ?_) (fun hc5 => ?_)
          · have hc5 := gs_b0 hc5
            refine gx_iconst dX5_isOrder_46 (v := 0) (by decide) ?_
            refine gx_ireturn dX5_isOrder_47 ?_
            exact ⟨⟨_, rfl, rfl⟩, rfl, congrArg (fun z => some (Value.int z)) (gs_bf (fun z => hc5 z.2.2.2.1))⟩
          · have hc5 := gs_b1 hc5
            refine gx_iload dX5_isOrder_30 rfl ?_
            refine gx_if_lt dX5_isOrder_32 (tgt := 46) (by decide) (fun hc6 => ?_) (fun hc6 => ?_)
            · refine gx_iconst dX5_isOrder_46 (v := 0) (by decide) ?_
              refine gx_ireturn dX5_isOrder_47 ?_
              exact ⟨⟨_, rfl, rfl⟩, rfl, congrArg (fun z => some (Value.int z)) (gs_bf (fun z => Int32.not_lt.mpr z.2.2.2.2.1 hc6))⟩
            · refine gx_iload dX5_isOrder_35 rfl ?_
              refine gx_ldc dX5_isOrder_37 wt_X5_194 ?_
              refine gx_icmp_gt dX5_isOrder_39 (tgt := 46) (by decide) (fun hc7 => ?_) (fun hc7 => ?_)
              · refine gx_iconst dX5_isOrder_46 (v := 0) (by decide) ?_
                refine gx_ireturn dX5_isOrder_47 ?_
                exact ⟨⟨_, rfl, rfl⟩, rfl, congrArg (fun z => some (Value.int z)) (gs_bf (fun z => Int32.not_lt.mpr z.2.2.2.2.2 hc7))⟩
              · refine gx_iconst dX5_isOrder_42 (v := 1) (by decide) ?_
                refine gx_goto dX5_isOrder_43 (tgt := 47) (by decide) ?_
                refine gx_ireturn dX5_isOrder_47 ?_
                exact ⟨⟨_, rfl, rfl⟩, rfl, congrArg (fun z => some (Value.int z)) (gs_bt (⟨hc1, ⟨gs_nlt hc2, gs_k3n hc3⟩, hc4, hc5, gs_nlt hc6, Int32.not_lt.mp hc7⟩))⟩
set_option maxHeartbeats 4000000 in
theorem cc_X5_keeperOf {S : gx_S} {h : gx_H} {σ : gs_T} {A : gs_A} (R : gs_R h σ A) (W : gw_W σ) {k : Nat} (hk : k < 16) : gx_Cn S gm_X5_keeperOf 1 [.ref (A 5 0 0), .int (nI k)] h (fun r h' => h' = h ∧ r = some (.ref (A 1 (k % σ.1 0 0 0) 0))) := by
  refine gx_Cn.of gt_X5_keeperOf (by simp [Value.category]) (Nat.le_of_ble_eq_true rfl) ?_
  show gx_Ev S gm_X5_keeperOf 1 0 [some (.ref (A 5 0 0)), some (.int (nI k))] [] h _
  have hq : k % σ.1 0 0 0 < σ.1 0 0 0 := Nat.mod_lt _ (by have := gw_n2 W; omega)
  refine gx_aload_n dX5_keeperOf_0 rfl ?_
  refine gx_get dX5_keeperOf_1 gf_X5_46 (gs_g5 R ) (v := .ref (A 7 0 0)) (rfl) ?_
  refine gx_iload_n dX5_keeperOf_4 rfl ?_
  refine gx_aload_n dX5_keeperOf_5 rfl ?_
  refine gx_get dX5_keeperOf_6 gf_X5_46 (gs_g5 R ) (v := .ref (A 7 0 0)) (rfl) ?_
  refine gx_alen dX5_keeperOf_9 (by decide) (gs_g7 R) (v := nI (σ.1 0 0 0)) rfl ?_
  refine gx_irem dX5_keeperOf_10 (nI_ne0 (by have := gw_n2 W; omega) (by have := gw_n4 W; omega)) ?_
  rw [show ((nI k) - (nI k) / (nI (σ.1 0 0 0)) * (nI (σ.1 0 0 0)) : Int32) = nI (k % σ.1 0 0 0) from pk_rem (by omega) (by have := gw_n2 W; omega) (by have := gw_n4 W; omega)]
  refine gr_7 dX5_keeperOf_11 R (q := k % σ.1 0 0 0) rfl hq (by have := gw_n4 W; omega) (gw_g W hq) ?_
  refine gx_areturn dX5_keeperOf_12 ?_
  exact ⟨⟨_, rfl⟩, rfl, rfl⟩
theorem gs_zs (x : Nat) : x = 0 ∨ ∃ y, x = y + 1 := by
  cases x with
  | zero => exact Or.inl rfl
  | succ y => exact Or.inr ⟨y, rfl⟩
def gs_cp (x y : Int32) : Int32 := if y ≤ x then (if x = y then 0 else 1) else -1
theorem gs_cp_lt {x y : Int32} : gs_cp x y < 0 ↔ x < y := by
  unfold gs_cp
  split
  · rename_i h
    refine ⟨fun z => ?_, fun z => absurd z (Int32.not_lt.mpr h)⟩
    split at z
    · exact absurd z (by decide)
    · exact absurd z (by decide)
  · rename_i h
    exact ⟨fun _ => gs_nle h, fun _ => by decide⟩
theorem gs_cp_eq {x y : Int32} : gs_cp x y = 0 ↔ x = y := by
  unfold gs_cp
  split
  · split
    · rename_i h; exact ⟨fun _ => h, fun _ => rfl⟩
    · rename_i h; exact ⟨fun z => absurd z (by decide), fun z => absurd z h⟩
  · rename_i h
    exact ⟨fun z => absurd z (by decide), fun z => absurd (z ▸ Int32.le_refl _) h⟩
theorem gs_cp_gt {x y : Int32} : 0 < gs_cp x y ↔ y < x := by
  unfold gs_cp
  split
  · split
    · rename_i h h2
      refine ⟨fun z => absurd z (by decide), fun z => ?_⟩
      rw [h2, Int32.lt_iff_toInt_lt] at z
      omega
    · rename_i h h2
      refine ⟨fun _ => ?_, fun _ => by decide⟩
      rw [Int32.le_iff_toInt_le] at h
      rw [Int32.lt_iff_toInt_lt]
      have : x.toInt ≠ y.toInt := fun e => h2 (Int32.toInt_inj.mp e)
      omega
  · rename_i h
    exact ⟨fun z => absurd z (by decide), fun z => absurd (Int32.le_of_lt z) h⟩
set_option maxHeartbeats 4000000 in
theorem cc_J6_compare_7cf53 {S : gx_S} {h : gx_H} (x y : Int32) : gx_Cn S gm_J6_compare_7cf53 1 [.int x, .int y] h (fun r h' => h' = h ∧ r = some (.int (gs_cp x y))) := by
  refine gx_Cn.of gt_J6_compare_7cf53 (by simp [Value.category]) (Nat.le_of_ble_eq_true rfl) ?_
  show gx_Ev S gm_J6_compare_7cf53 1 0 [some (.int x), some (.int y)] [] h _
  refine gx_iload_n dJ6_compare_7cf53_0 rfl ?_
  refine gx_iload_n dJ6_compare_7cf53_1 rfl ?_
  refine gx_icmp_ge dJ6_compare_7cf53_2 (tgt := 9) (by decide) (fun hc1 => ?_) (fun hc1 => ?_)
  · refine gx_iload_n dJ6_compare_7cf53_9 rfl ?_
    refine gx_iload_n dJ6_compare_7cf53_10 rfl ?_
    refine gx_icmp_ne dJ6_compare_7cf53_11 (tgt := 18) (by decide) (fun hc2 => ?_) (fun hc2 => ?_)
    · refine gx_iconst dJ6_compare_7cf53_18 (v := 1) (by decide) ?_
      refine gx_ireturn dJ6_compare_7cf53_19 ?_
      exact ⟨⟨_, rfl, rfl⟩, rfl, by simp [gs_cp, hc1, hc2]⟩
    · refine gx_iconst dJ6_compare_7cf53_14 (v := 0) (by decide) ?_
      refine gx_goto dJ6_compare_7cf53_15 (tgt := 19) (by decide) ?_
      refine gx_ireturn dJ6_compare_7cf53_19 ?_
      exact ⟨⟨_, rfl, rfl⟩, rfl, by simp [gs_cp, hc1, hc2]⟩
  · refine gx_iconst dJ6_compare_7cf53_5 (v := (-1)) (by decide) ?_
    refine gx_goto dJ6_compare_7cf53_6 (tgt := 19) (by decide) ?_
    refine gx_ireturn dJ6_compare_7cf53_19 ?_
    exact ⟨⟨_, rfl, rfl⟩, rfl, by simp [gs_cp, hc1]⟩
abbrev sc_hal (σ : gs_T) (g o : Nat) : Prop := ¬ σ.2.1 8 g o = -1 ∧ (σ.1 7 g o = 0 ∨ ¬ σ.2.1 9 g o = -1)
abbrev sc_wt (σ : gs_T) (g o : Nat) : Prop := ¬ σ.2.1 8 g o = -1 ∧ σ.2.1 11 g o = 0
def sc_lt (σ : gs_T) (g o : Nat) : Int32 := if σ.2.1 10 g o = -1 then σ.2.1 8 g o else σ.2.1 10 g o
abbrev sc_ie (σ : gs_T) (g o g2 o2 : Nat) : Prop := sc_lt σ g o < sc_lt σ g2 o2 ∨ (sc_lt σ g o = sc_lt σ g2 o2 ∧ o < o2)
set_option maxHeartbeats 4000000 in
theorem cc_X4_hasAllLocalTimes {S : gx_S} {h : gx_H} {σ : gs_T} {A : gs_A} (R : gs_R h σ A) {g o : Nat} (hp : σ.1 6 g o = 1) : gx_Cn S gm_X4_hasAllLocalTimes 1 [.ref (A 4 g o)] h (fun r h' => h' = h ∧ r = some (.int (gs_bi (sc_hal σ g o)))) := by
  refine gx_Cn.of gt_X4_hasAllLocalTimes (by simp [Value.category]) (Nat.le_of_ble_eq_true rfl) ?_
  show gx_Ev S gm_X4_hasAllLocalTimes 1 0 [some (.ref (A 4 g o))] [] h _
  rcases gs_zs (σ.1 7 g o) with hot | ⟨g9, hot⟩
  · refine gx_aload_n dX4_hasAllLocalTimes_0 rfl ?_
    refine gx_get dX4_hasAllLocalTimes_1 gf_X4_9 (gs_g4 R hp) (v := .int (σ.2.1 8 g o)) (rfl) ?_
    refine gx_iconst dX4_hasAllLocalTimes_4 (v := (-1)) (by decide) ?_
    refine gx_icmp_eq dX4_hasAllLocalTimes_5 (tgt := 27) (by decide) (fun hc1 => ?_) (fun hc1 => ?_)
    · refine gx_iconst dX4_hasAllLocalTimes_27 (v := 0) (by decide) ?_
      refine gx_ireturn dX4_hasAllLocalTimes_28 ?_
      exact ⟨⟨_, rfl, rfl⟩, rfl, congrArg (fun z => some (Value.int z)) (gs_bf (fun z => z.1 hc1))⟩
    · refine gx_aload_n dX4_hasAllLocalTimes_8 rfl ?_
      refine gx_get dX4_hasAllLocalTimes_9 gf_X4_28 (gs_g4 R hp) (v := .null) (by simp [hot, gs_op, va_rf]) ?_
      refine gx_ifnullN dX4_hasAllLocalTimes_12 (tgt := 23) (by decide) ?_
      refine gx_iconst dX4_hasAllLocalTimes_23 (v := 1) (by decide) ?_
      refine gx_goto dX4_hasAllLocalTimes_24 (tgt := 28) (by decide) ?_
      refine gx_ireturn dX4_hasAllLocalTimes_28 ?_
      exact ⟨⟨_, rfl, rfl⟩, rfl, congrArg (fun z => some (Value.int z)) (gs_bt (⟨hc1, Or.inl hot⟩))⟩
  · refine gx_aload_n dX4_hasAllLocalTimes_0 rfl ?_
    refine gx_get dX4_hasAllLocalTimes_1 gf_X4_9 (gs_g4 R hp) (v := .int (σ.2.1 8 g o)) (rfl) ?_
    refine gx_iconst dX4_hasAllLocalTimes_4 (v := (-1)) (by decide) ?_
    refine gx_icmp_eq dX4_hasAllLocalTimes_5 (tgt := 27) (by decide) (fun hc1 => ?_) (fun hc1 => ?_)
    · refine gx_iconst dX4_hasAllLocalTimes_27 (v := 0) (by decide) ?_
      refine gx_ireturn dX4_hasAllLocalTimes_28 ?_
      exact ⟨⟨_, rfl, rfl⟩, rfl, congrArg (fun z => some (Value.int z)) (gs_bf (fun z => z.1 hc1))⟩
    · refine gx_aload_n dX4_hasAllLocalTimes_8 rfl ?_
      refine gx_get dX4_hasAllLocalTimes_9 gf_X4_28 (gs_g4 R hp) (v := .ref (A 4 g9 o)) (by simp [hot, gs_op, va_rf]) ?_
      refine gx_ifnull dX4_hasAllLocalTimes_12 ?_
      refine gx_aload_n dX4_hasAllLocalTimes_15 rfl ?_
      refine gx_get dX4_hasAllLocalTimes_16 gf_X4_15 (gs_g4 R hp) (v := .int (σ.2.1 9 g o)) (rfl) ?_
      refine gx_iconst dX4_hasAllLocalTimes_19 (v := (-1)) (by decide) ?_
      refine gx_icmp_eq dX4_hasAllLocalTimes_20 (tgt := 27) (by decide) (fun hc2 => ?_) (fun hc2 => ?_)
      · refine gx_iconst dX4_hasAllLocalTimes_27 (v := 0) (by decide) ?_
        refine gx_ireturn dX4_hasAllLocalTimes_28 ?_
        exact ⟨⟨_, rfl, rfl⟩, rfl, congrArg (fun z => some (Value.int z)) (gs_bf (fun z => z.2.elim (fun e => by rw [hot] at e; omega) (fun e => e hc2)))⟩
      · refine gx_iconst dX4_hasAllLocalTimes_23 (v := 1) (by decide) ?_
        refine gx_goto dX4_hasAllLocalTimes_24 (tgt := 28) (by decide) ?_
        refine gx_ireturn dX4_hasAllLocalTimes_28 ?_
        exact ⟨⟨_, rfl, rfl⟩, rfl, congrArg (fun z => some (Value.int z)) (gs_bt (⟨hc1, Or.inr hc2⟩))⟩
set_option maxHeartbeats 4000000 in
theorem cc_X4_waits {S : gx_S} {h : gx_H} {σ : gs_T} {A : gs_A} (R : gs_R h σ A) {g o : Nat} (hp : σ.1 6 g o = 1) : gx_Cn S gm_X4_waits 1 [.ref (A 4 g o)] h (fun r h' => h' = h ∧ r = some (.int (gs_bi (sc_wt σ g o)))) := by
  refine gx_Cn.of gt_X4_waits (by simp [Value.category]) (Nat.le_of_ble_eq_true rfl) ?_
  show gx_Ev S gm_X4_waits 1 0 [some (.ref (A 4 g o))] [] h _
  refine gx_aload_n dX4_waits_0 rfl ?_
  refine gx_get dX4_waits_1 gf_X4_9 (gs_g4 R hp) (v := .int (σ.2.1 8 g o)) (rfl) ?_
  refine gx_iconst dX4_waits_4 (v := (-1)) (by decide) ?_
  refine gx_icmp_eq dX4_waits_5 (tgt := 19) (by decide) (fun hc1 => ?_) (fun hc1 => ?_)
  · refine gx_iconst dX4_waits_19 (v := 0) (by decide) ?_
    refine gx_ireturn dX4_waits_20 ?_
    exact ⟨⟨_, rfl, rfl⟩, rfl, congrArg (fun z => some (Value.int z)) (gs_bf (fun z => z.1 hc1))⟩
  · refine gx_aload_n dX4_waits_8 rfl ?_
    refine gx_get dX4_waits_9 gf_X4_32 (gs_g4 R hp) (v := .int (σ.2.1 11 g o)) (rfl) ?_
    refine gx_if_ne dX4_waits_12 (tgt := 19) (by decide) (fun hc2 => ?_) (fun hc2 => ?_)
    · refine gx_iconst dX4_waits_19 (v := 0) (by decide) ?_
      refine gx_ireturn dX4_waits_20 ?_
      exact ⟨⟨_, rfl, rfl⟩, rfl, congrArg (fun z => some (Value.int z)) (gs_bf (fun z => hc2 z.2))⟩
    · refine gx_iconst dX4_waits_15 (v := 1) (by decide) ?_
      refine gx_goto dX4_waits_16 (tgt := 20) (by decide) ?_
      refine gx_ireturn dX4_waits_20 ?_
      exact ⟨⟨_, rfl, rfl⟩, rfl, congrArg (fun z => some (Value.int z)) (gs_bt (⟨hc1, hc2⟩))⟩
set_option maxHeartbeats 4000000 in
theorem cc_X4_leastTime {S : gx_S} {h : gx_H} {σ : gs_T} {A : gs_A} (R : gs_R h σ A) {g o : Nat} (hp : σ.1 6 g o = 1) : gx_Cn S gm_X4_leastTime 1 [.ref (A 4 g o)] h (fun r h' => h' = h ∧ r = some (.int (sc_lt σ g o))) := by
  refine gx_Cn.of gt_X4_leastTime (by simp [Value.category]) (Nat.le_of_ble_eq_true rfl) ?_
  show gx_Ev S gm_X4_leastTime 1 0 [some (.ref (A 4 g o))] [] h _
  refine gx_aload_n dX4_leastTime_0 rfl ?_
  refine gx_get dX4_leastTime_1 gf_X4_18 (gs_g4 R hp) (v := .int (σ.2.1 10 g o)) (rfl) ?_
  refine gx_iconst dX4_leastTime_4 (v := (-1)) (by decide) ?_
  refine gx_icmp_eq dX4_leastTime_5 (tgt := 15) (by decide) (fun hc1 => ?_) (fun hc1 => ?_)
  · refine gx_aload_n dX4_leastTime_15 rfl ?_
    refine gx_get dX4_leastTime_16 gf_X4_9 (gs_g4 R hp) (v := .int (σ.2.1 8 g o)) (rfl) ?_
    refine gx_ireturn dX4_leastTime_19 ?_
    exact ⟨⟨_, rfl, rfl⟩, rfl, by simp [sc_lt, hc1]⟩
  · refine gx_aload_n dX4_leastTime_8 rfl ?_
    refine gx_get dX4_leastTime_9 gf_X4_18 (gs_g4 R hp) (v := .int (σ.2.1 10 g o)) (rfl) ?_
    refine gx_goto dX4_leastTime_12 (tgt := 19) (by decide) ?_
    refine gx_ireturn dX4_leastTime_19 ?_
    exact ⟨⟨_, rfl, rfl⟩, rfl, by simp [sc_lt, hc1]⟩
set_option maxHeartbeats 4000000 in
theorem cc_X4_isEarlierThan {S : gx_S} {h : gx_H} {σ : gs_T} {A : gs_A} (R : gs_R h σ A) {g o g2 o2 : Nat} (hp : σ.1 6 g o = 1) (hp2 : σ.1 6 g2 o2 = 1) (ho : σ.1 11 o 0 = 1) (ho2 : σ.1 11 o2 0 = 1) (hb : o < 40) (hb2 : o2 < 40) : gx_Cn S gm_X4_isEarlierThan 2 [.ref (A 4 g o), .ref (A 4 g2 o2)] h (fun r h' => h' = h ∧ r = some (.int (gs_bi (sc_ie σ g o g2 o2)))) := by
  refine gx_Cn.of gt_X4_isEarlierThan (by simp [Value.category]) (Nat.le_of_ble_eq_true rfl) ?_
  show gx_Ev S gm_X4_isEarlierThan 2 0 [some (.ref (A 4 g o)), some (.ref (A 4 g2 o2)), none] [] h _
  refine gx_aload_n dX4_isEarlierThan_0 rfl ?_
  refine gx_invV dX4_isEarlierThan_1 wm_X4_36 gt_X4_leastTime wy_X4_leastTime wl_X4_leastTime (ci := 4) rfl rfl (gs_g4 R hp) (As := []) (rest := []) rfl rfl (Nat.le_of_ble_eq_true rfl) (by decide) (cc_X4_leastTime R hp) (fun r1 h1 q1 => ?_)
  obtain ⟨rfl, rfl⟩ := q1
  show gx_Ev _ _ _ _ _ [.int (sc_lt σ g o)] _ _
  refine gx_aload_n dX4_isEarlierThan_4 rfl ?_
  refine gx_invV dX4_isEarlierThan_5 wm_X4_36 gt_X4_leastTime wy_X4_leastTime wl_X4_leastTime (ci := 4) rfl rfl (gs_g4 R hp2) (As := []) (rest := [.int (sc_lt σ g o)]) rfl rfl (Nat.le_of_ble_eq_true rfl) (by decide) (cc_X4_leastTime R hp2) (fun r1 h1 q1 => ?_)
  obtain ⟨rfl, rfl⟩ := q1
  show gx_Ev _ _ _ _ _ [.int (sc_lt σ g2 o2), .int (sc_lt σ g o)] _ _
  refine gx_invS dX4_isEarlierThan_8 wm_X4_40 gt_J6_compare_7cf53 ws_J6_compare_7cf53 (As := [.int (sc_lt σ g o), .int (sc_lt σ g2 o2)]) (rest := []) rfl rfl (Nat.le_of_ble_eq_true rfl) (by decide) (cc_J6_compare_7cf53 (sc_lt σ g o) (sc_lt σ g2 o2)) (fun r1 h1 q1 => ?_)
  obtain ⟨rfl, rfl⟩ := q1
  show gx_Ev _ _ _ _ _ [.int (gs_cp (sc_lt σ g o) (sc_lt σ g2 o2))] _ _
  refine gx_istore_n dX4_isEarlierThan_11 (by decide) rfl (L' := [some (.ref (A 4 g o)), some (.ref (A 4 g2 o2)), some (.int (gs_cp (sc_lt σ g o) (sc_lt σ g2 o2)))]) rfl ?_
  refine gx_iload_n dX4_isEarlierThan_12 rfl ?_
  refine gx_if_lt dX4_isEarlierThan_13 (tgt := 37) (by decide) (fun hc1 => ?_) (fun hc1 => ?_)
  · refine gx_iconst dX4_isEarlierThan_37 (v := 1) (by decide) ?_
    refine gx_goto dX4_isEarlierThan_38 (tgt := 42) (by decide) ?_
    refine gx_ireturn dX4_isEarlierThan_42 ?_
    exact ⟨⟨_, rfl, rfl⟩, rfl, congrArg (fun z => some (Value.int z)) (gs_bt (Or.inl (gs_cp_lt.mp hc1)))⟩
  · refine gx_iload_n dX4_isEarlierThan_16 rfl ?_
    refine gx_if_ne dX4_isEarlierThan_17 (tgt := 41) (by decide) (fun hc2 => ?_) (fun hc2 => ?_)
    · refine gx_iconst dX4_isEarlierThan_41 (v := 0) (by decide) ?_
      refine gx_ireturn dX4_isEarlierThan_42 ?_
      exact ⟨⟨_, rfl, rfl⟩, rfl, congrArg (fun z => some (Value.int z)) (gs_bf (fun z => z.elim (fun e => hc1 (gs_cp_lt.mpr e)) (fun e => hc2 (gs_cp_eq.mpr e.1))))⟩
    · refine gx_aload_n dX4_isEarlierThan_20 rfl ?_
      refine gx_get dX4_isEarlierThan_21 gf_X4_21 (gs_g4 R hp) (v := .ref (A 3 o 0)) (rfl) ?_
      refine gx_get dX4_isEarlierThan_24 gf_X4_46 (gs_g3 R ho) (v := .int (nI o)) (rfl) ?_
      refine gx_aload_n dX4_isEarlierThan_27 rfl ?_
      refine gx_get dX4_isEarlierThan_28 gf_X4_21 (gs_g4 R hp2) (v := .ref (A 3 o2 0)) (rfl) ?_
      refine gx_get dX4_isEarlierThan_31 gf_X4_46 (gs_g3 R ho2) (v := .int (nI o2)) (rfl) ?_
      refine gx_icmp_ge dX4_isEarlierThan_34 (tgt := 41) (by decide) (fun hc3 => ?_) (fun hc3 => ?_)
      · refine gx_iconst dX4_isEarlierThan_41 (v := 0) (by decide) ?_
        refine gx_ireturn dX4_isEarlierThan_42 ?_
        exact ⟨⟨_, rfl, rfl⟩, rfl, congrArg (fun z => some (Value.int z)) (gs_bf (fun z => z.elim (fun e => hc1 (gs_cp_lt.mpr e)) (fun e => nI_ge e.2 (by omega) hc3)))⟩
      · refine gx_iconst dX4_isEarlierThan_37 (v := 1) (by decide) ?_
        refine gx_goto dX4_isEarlierThan_38 (tgt := 42) (by decide) ?_
        refine gx_ireturn dX4_isEarlierThan_42 ?_
        exact ⟨⟨_, rfl, rfl⟩, rfl, congrArg (fun z => some (Value.int z)) (gs_bt (Or.inr ⟨gs_cp_eq.mp hc2, Nat.lt_of_not_le (fun z => hc3 (nI_le z (by omega)))⟩))⟩
abbrev sc_mv (σ : gs_T) (o : Nat) (u : Int32) : Prop := σ.2.1 0 o 0 = 1 ∧ ¬ σ.1 13 o 0 = σ.1 14 o 0 ∧ ¬ u < σ.2.1 1 o 0
def sc_bA (σ : gs_T) (o : Nat) (u v : Int32) : Int32 := if σ.2.1 0 o 0 = 0 then u + σ.2.1 1 o 0 else if σ.2.1 0 o 0 = 3 then v else if sc_mv σ o u then u - σ.2.1 1 o 0 else u
def sc_bB (σ : gs_T) (o : Nat) (u v : Int32) : Int32 := if σ.2.1 0 o 0 = 3 then u else if sc_mv σ o u then v + σ.2.1 1 o 0 else v
def sc_rp (σ : gs_T) (o : Nat) (u v : Int32) : Int32 := if σ.2.1 0 o 0 = 1 then (if u < σ.2.1 1 o 0 then 0 else 1) else if σ.2.1 0 o 0 = 2 then u + v else sc_bA σ o u v
set_option maxHeartbeats 4000000 in
theorem cc_X3_isMoved {S : gx_S} {h : gx_H} {σ : gs_T} {A : gs_A} (R : gs_R h σ A) (W : gw_W σ) {o : Nat} (ho : σ.1 11 o 0 = 1) (u : Int32) : gx_Cn S gm_X3_isMoved 1 [.ref (A 3 o 0), .int u] h (fun r h' => h' = h ∧ r = some (.int (gs_bi (sc_mv σ o u)))) := by
  refine gx_Cn.of gt_X3_isMoved (by simp [Value.category]) (Nat.le_of_ble_eq_true rfl) ?_
  show gx_Ev S gm_X3_isMoved 1 0 [some (.ref (A 3 o 0)), some (.int u)] [] h _
  refine gx_aload_n dX3_isMoved_0 rfl ?_
  refine gx_get dX3_isMoved_1 gf_X3_18 (gs_g3 R ho) (v := .int (σ.2.1 0 o 0)) (rfl) ?_
  refine gx_iconst dX3_isMoved_4 (v := 1) (by decide) ?_
  refine gx_icmp_ne dX3_isMoved_5 (tgt := 31) (by decide) (fun hc1 => ?_) (fun hc1 => ?_)
  · refine gx_iconst dX3_isMoved_31 (v := 0) (by decide) ?_
    refine gx_ireturn dX3_isMoved_32 ?_
    exact ⟨⟨_, rfl, rfl⟩, rfl, congrArg (fun z => some (Value.int z)) (gs_bf (fun z => hc1 z.1))⟩
  · refine gx_aload_n dX3_isMoved_8 rfl ?_
    refine gx_get dX3_isMoved_9 gf_X3_21 (gs_g3 R ho) (v := .int (nI (σ.1 13 o 0))) (rfl) ?_
    refine gx_aload_n dX3_isMoved_12 rfl ?_
    refine gx_get dX3_isMoved_13 gf_X3_24 (gs_g3 R ho) (v := .int (nI (σ.1 14 o 0))) (rfl) ?_
    refine gx_icmp_eq dX3_isMoved_16 (tgt := 31) (by decide) (fun hc2 => ?_) (fun hc2 => ?_)
    · refine gx_iconst dX3_isMoved_31 (v := 0) (by decide) ?_
      refine gx_ireturn dX3_isMoved_32 ?_
      exact ⟨⟨_, rfl, rfl⟩, rfl, congrArg (fun z => some (Value.int z)) (gs_bf (fun z => z.2.1 ((nI_eq (by have := gw_a W o; omega) (by have := gw_b W o; omega)).mp hc2)))⟩
    · refine gx_iload_n dX3_isMoved_19 rfl ?_
      refine gx_aload_n dX3_isMoved_20 rfl ?_
      refine gx_get dX3_isMoved_21 gf_X3_27 (gs_g3 R ho) (v := .int (σ.2.1 1 o 0)) (rfl) ?_
      refine gx_icmp_lt dX3_isMoved_24 (tgt := 31) (by decide) (fun hc3 => ?_) (fun hc3 => ?_)
      · refine gx_iconst dX3_isMoved_31 (v := 0) (by decide) ?_
        refine gx_ireturn dX3_isMoved_32 ?_
        exact ⟨⟨_, rfl, rfl⟩, rfl, congrArg (fun z => some (Value.int z)) (gs_bf (fun z => z.2.2 hc3))⟩
      · refine gx_iconst dX3_isMoved_27 (v := 1) (by decide) ?_
        refine gx_goto dX3_isMoved_28 (tgt := 32) (by decide) ?_
        refine gx_ireturn dX3_isMoved_32 ?_
        exact ⟨⟨_, rfl, rfl⟩, rfl, congrArg (fun z => some (Value.int z)) (gs_bt (⟨hc1, fun z => hc2 (congrArg nI z), hc3⟩))⟩
set_option maxHeartbeats 4000000 in
theorem cc_X3_behindA {S : gx_S} {h : gx_H} {σ : gs_T} {A : gs_A} (R : gs_R h σ A) (W : gw_W σ) {o : Nat} (ho : σ.1 11 o 0 = 1) (u v : Int32) : gx_Cn S gm_X3_behindA 2 [.ref (A 3 o 0), .int u, .int v] h (fun r h' => h' = h ∧ r = some (.int (sc_bA σ o u v))) := by
  refine gx_Cn.of gt_X3_behindA (by simp [Value.category]) (Nat.le_of_ble_eq_true rfl) ?_
  show gx_Ev S gm_X3_behindA 2 0 [some (.ref (A 3 o 0)), some (.int u), some (.int v)] [] h _
  refine gx_aload_n dX3_behindA_0 rfl ?_
  refine gx_get dX3_behindA_1 gf_X3_18 (gs_g3 R ho) (v := .int (σ.2.1 0 o 0)) (rfl) ?_
  refine gx_if_ne dX3_behindA_4 (tgt := 14) (by decide) (fun hc1 => ?_) (fun hc1 => ?_)
  · refine gx_aload_n dX3_behindA_14 rfl ?_
    refine gx_get dX3_behindA_15 gf_X3_18 (gs_g3 R ho) (v := .int (σ.2.1 0 o 0)) (rfl) ?_
    refine gx_iconst dX3_behindA_18 (v := 3) (by decide) ?_
    refine gx_icmp_ne dX3_behindA_19 (tgt := 24) (by decide) (fun hc2 => ?_) (fun hc2 => ?_)
    · refine gx_aload_n dX3_behindA_24 rfl ?_
      refine gx_iload_n dX3_behindA_25 rfl ?_
      refine gx_invV dX3_behindA_26 wm_X3_30 gt_X3_isMoved wy_X3_isMoved wl_X3_isMoved (ci := 3) rfl rfl (gs_g3 R ho) (As := [.int u]) (rest := []) rfl rfl (Nat.le_of_ble_eq_true rfl) (by decide) (cc_X3_isMoved R W ho u) (fun r1 h1 q1 => ?_)
      obtain ⟨rfl, rfl⟩ := q1
      show gx_Ev _ _ _ _ _ [.int (gs_bi (sc_mv σ o u))] _ _
      refine gx_if_eq dX3_behindA_29 (tgt := 41) (by decide) (fun hc3 => ?_) (fun hc3 => ?_)
      · have hc3 := gs_b0 hc3
        refine gx_iload_n dX3_behindA_41 rfl ?_
        refine gx_ireturn dX3_behindA_42 ?_
        exact ⟨⟨_, rfl, rfl⟩, rfl, by simp [sc_bA, hc1, hc2, hc3]⟩
      · have hc3 := gs_b1 hc3
        refine gx_iload_n dX3_behindA_32 rfl ?_
        refine gx_aload_n dX3_behindA_33 rfl ?_
        refine gx_get dX3_behindA_34 gf_X3_27 (gs_g3 R ho) (v := .int (σ.2.1 1 o 0)) (rfl) ?_
        refine gx_isub dX3_behindA_37 ?_
        refine gx_goto dX3_behindA_38 (tgt := 42) (by decide) ?_
        refine gx_ireturn dX3_behindA_42 ?_
        exact ⟨⟨_, rfl, rfl⟩, rfl, by simp [sc_bA, hc1, hc2, hc3]⟩
    · refine gx_iload_n dX3_behindA_22 rfl ?_
      refine gx_ireturn dX3_behindA_23 ?_
      exact ⟨⟨_, rfl, rfl⟩, rfl, by simp [sc_bA, hc1, hc2]⟩
  · refine gx_iload_n dX3_behindA_7 rfl ?_
    refine gx_aload_n dX3_behindA_8 rfl ?_
    refine gx_get dX3_behindA_9 gf_X3_27 (gs_g3 R ho) (v := .int (σ.2.1 1 o 0)) (rfl) ?_
    refine gx_iadd dX3_behindA_12 ?_
    refine gx_ireturn dX3_behindA_13 ?_
    exact ⟨⟨_, rfl, rfl⟩, rfl, by simp [sc_bA, hc1]⟩
set_option maxHeartbeats 4000000 in
theorem cc_X3_behindB {S : gx_S} {h : gx_H} {σ : gs_T} {A : gs_A} (R : gs_R h σ A) (W : gw_W σ) {o : Nat} (ho : σ.1 11 o 0 = 1) (u v : Int32) : gx_Cn S gm_X3_behindB 2 [.ref (A 3 o 0), .int u, .int v] h (fun r h' => h' = h ∧ r = some (.int (sc_bB σ o u v))) := by
  refine gx_Cn.of gt_X3_behindB (by simp [Value.category]) (Nat.le_of_ble_eq_true rfl) ?_
  show gx_Ev S gm_X3_behindB 2 0 [some (.ref (A 3 o 0)), some (.int u), some (.int v)] [] h _
  refine gx_aload_n dX3_behindB_0 rfl ?_
  refine gx_get dX3_behindB_1 gf_X3_18 (gs_g3 R ho) (v := .int (σ.2.1 0 o 0)) (rfl) ?_
  refine gx_iconst dX3_behindB_4 (v := 3) (by decide) ?_
  refine gx_icmp_ne dX3_behindB_5 (tgt := 10) (by decide) (fun hc1 => ?_) (fun hc1 => ?_)
  · refine gx_aload_n dX3_behindB_10 rfl ?_
    refine gx_iload_n dX3_behindB_11 rfl ?_
    refine gx_invV dX3_behindB_12 wm_X3_30 gt_X3_isMoved wy_X3_isMoved wl_X3_isMoved (ci := 3) rfl rfl (gs_g3 R ho) (As := [.int u]) (rest := []) rfl rfl (Nat.le_of_ble_eq_true rfl) (by decide) (cc_X3_isMoved R W ho u) (fun r1 h1 q1 => ?_)
    obtain ⟨rfl, rfl⟩ := q1
    show gx_Ev _ _ _ _ _ [.int (gs_bi (sc_mv σ o u))] _ _
    refine gx_if_eq dX3_behindB_15 (tgt := 27) (by decide) (fun hc2 => ?_) (fun hc2 => ?_)
    · have hc2 := gs_b0 hc2
      refine gx_iload_n dX3_behindB_27 rfl ?_
      refine gx_ireturn dX3_behindB_28 ?_
      exact ⟨⟨_, rfl, rfl⟩, rfl, by simp [sc_bB, hc1, hc2]⟩
    · have hc2 := gs_b1 hc2
      refine gx_iload_n dX3_behindB_18 rfl ?_
      refine gx_aload_n dX3_behindB_19 rfl ?_
      refine gx_get dX3_behindB_20 gf_X3_27 (gs_g3 R ho) (v := .int (σ.2.1 1 o 0)) (rfl) ?_
      refine gx_iadd dX3_behindB_23 ?_
      refine gx_goto dX3_behindB_24 (tgt := 28) (by decide) ?_
      refine gx_ireturn dX3_behindB_28 ?_
      exact ⟨⟨_, rfl, rfl⟩, rfl, by simp [sc_bB, hc1, hc2]⟩
  · refine gx_iload_n dX3_behindB_8 rfl ?_
    refine gx_ireturn dX3_behindB_9 ?_
    exact ⟨⟨_, rfl, rfl⟩, rfl, by simp [sc_bB, hc1]⟩
set_option maxHeartbeats 4000000 in
theorem cc_X3_reply {S : gx_S} {h : gx_H} {σ : gs_T} {A : gs_A} (R : gs_R h σ A) (W : gw_W σ) {o : Nat} (ho : σ.1 11 o 0 = 1) (u v : Int32) : gx_Cn S gm_X3_reply 3 [.ref (A 3 o 0), .int u, .int v] h (fun r h' => h' = h ∧ r = some (.int (sc_rp σ o u v))) := by
  refine gx_Cn.of gt_X3_reply (by simp [Value.category]) (Nat.le_of_ble_eq_true rfl) ?_
  show gx_Ev S gm_X3_reply 3 0 [some (.ref (A 3 o 0)), some (.int u), some (.int v)] [] h _
  refine gx_aload_n dX3_reply_0 rfl ?_
  refine gx_get dX3_reply_1 gf_X3_18 (gs_g3 R ho) (v := .int (σ.2.1 0 o 0)) (rfl) ?_
  refine gx_iconst dX3_reply_4 (v := 1) (by decide) ?_
  refine gx_icmp_ne dX3_reply_5 (tgt := 22) (by decide) (fun hc1 => ?_) (fun hc1 => ?_)
  · refine gx_aload_n dX3_reply_22 rfl ?_
    refine gx_get dX3_reply_23 gf_X3_18 (gs_g3 R ho) (v := .int (σ.2.1 0 o 0)) (rfl) ?_
    refine gx_iconst dX3_reply_26 (v := 2) (by decide) ?_
    refine gx_icmp_ne dX3_reply_27 (tgt := 36) (by decide) (fun hc2 => ?_) (fun hc2 => ?_)
    · refine gx_aload_n dX3_reply_36 rfl ?_
      refine gx_iload_n dX3_reply_37 rfl ?_
      refine gx_iload_n dX3_reply_38 rfl ?_
      refine gx_invV dX3_reply_39 wm_X3_34 gt_X3_behindA wy_X3_behindA wl_X3_behindA (ci := 3) rfl rfl (gs_g3 R ho) (As := [.int u, .int v]) (rest := []) rfl rfl (Nat.le_of_ble_eq_true rfl) (by decide) (cc_X3_behindA R W ho u v) (fun r1 h1 q1 => ?_)
      obtain ⟨rfl, rfl⟩ := q1
      show gx_Ev _ _ _ _ _ [.int (sc_bA σ o u v)] _ _
      refine gx_ireturn dX3_reply_42 ?_
      exact ⟨⟨_, rfl, rfl⟩, rfl, by simp [sc_rp, hc1, hc2]⟩
    · refine gx_iload_n dX3_reply_30 rfl ?_
      refine gx_iload_n dX3_reply_31 rfl ?_
      refine gx_iadd dX3_reply_32 ?_
      refine gx_goto dX3_reply_33 (tgt := 42) (by decide) ?_
      refine gx_ireturn dX3_reply_42 ?_
      exact ⟨⟨_, rfl, rfl⟩, rfl, by simp [sc_rp, hc1, hc2]⟩
  · refine gx_iload_n dX3_reply_8 rfl ?_
    refine gx_aload_n dX3_reply_9 rfl ?_
    refine gx_get dX3_reply_10 gf_X3_27 (gs_g3 R ho) (v := .int (σ.2.1 1 o 0)) (rfl) ?_
    refine gx_icmp_lt dX3_reply_13 (tgt := 20) (by decide) (fun hc3 => ?_) (fun hc3 => ?_)
    · refine gx_iconst dX3_reply_20 (v := 0) (by decide) ?_
      refine gx_ireturn dX3_reply_21 ?_
      exact ⟨⟨_, rfl, rfl⟩, rfl, by simp [sc_rp, hc1, hc3]⟩
    · refine gx_iconst dX3_reply_16 (v := 1) (by decide) ?_
      refine gx_goto dX3_reply_17 (tgt := 21) (by decide) ?_
      refine gx_ireturn dX3_reply_21 ?_
      exact ⟨⟨_, rfl, rfl⟩, rfl, by simp [sc_rp, hc1, hc3]⟩
end
