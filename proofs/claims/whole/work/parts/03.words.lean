/-! the words of the tables, one by one: where each stands -/
def gx_Ts : List Cond := lw_tbl.filter goodWord
theorem gx_t1 {w : Cond} (i : Nat) (h : tables_1_1[i]? = some w) (g : goodWord w = true) : w ∈ gx_Ts := List.mem_filter.mpr ⟨List.mem_append_right _ (List.mem_append_left _ (List.mem_of_getElem? h)), g⟩
theorem gx_t2 {w : Cond} (i : Nat) (h : tables_1_2[i]? = some w) (g : goodWord w = true) : w ∈ gx_Ts := List.mem_filter.mpr ⟨List.mem_append_right _ (List.mem_append_right _ (List.mem_append_left _ (List.mem_of_getElem? h))), g⟩
theorem gx_t3 {w : Cond} (i : Nat) (h : tables_1_3[i]? = some w) (g : goodWord w = true) : w ∈ gx_Ts := List.mem_filter.mpr ⟨List.mem_append_right _ (List.mem_append_right _ (List.mem_append_right _ (List.mem_of_getElem? h))), g⟩
theorem gx_tp {y : MethodName} {n : Nat} (h : (y, n) ∈ lw_privs) : Cond.selects y.cls y y ∈ gx_Ts := List.mem_filter.mpr ⟨List.mem_append_left _ (List.mem_map.mpr ⟨(y, n), h, rfl⟩), rfl⟩
theorem wi_L : Cond.initialized RL ∈ gx_Ts := gx_t1 0 (by decide +kernel) rfl
theorem wi_X5 : Cond.initialized RX5 ∈ gx_Ts := gx_t1 1 (by decide +kernel) rfl
theorem wi_X0 : Cond.initialized RX0 ∈ gx_Ts := gx_t1 2 (by decide +kernel) rfl
theorem wi_J9 : Cond.initialized RJ9 ∈ gx_Ts := gx_t1 3 (by decide +kernel) rfl
theorem wi_X1 : Cond.initialized RX1 ∈ gx_Ts := gx_t1 4 (by decide +kernel) rfl
theorem wi_J7 : Cond.initialized RJ7 ∈ gx_Ts := gx_t1 5 (by decide +kernel) rfl
theorem wi_X6 : Cond.initialized RX6 ∈ gx_Ts := gx_t1 6 (by decide +kernel) rfl
theorem wi_X3 : Cond.initialized RX3 ∈ gx_Ts := gx_t1 7 (by decide +kernel) rfl
theorem wi_X4 : Cond.initialized RX4 ∈ gx_Ts := gx_t1 8 (by decide +kernel) rfl
theorem wi_X2 : Cond.initialized RX2 ∈ gx_Ts := gx_t1 9 (by decide +kernel) rfl
theorem wi_J6 : Cond.initialized RJ6 ∈ gx_Ts := gx_t1 10 (by decide +kernel) rfl
theorem wc_L_7 : Cond.classLink RL 7 RX5 ∈ gx_Ts := gx_t1 11 (by decide +kernel) rfl
theorem wn_X5 : Cond.instantiable RX5 9 ∈ gx_Ts := gx_t1 12 (by decide +kernel) rfl
theorem wm_L_15 : Cond.methodLink RL 15 yX5_init ∈ gx_Ts := gx_t1 13 (by decide +kernel) rfl
theorem wy_X5_init : Cond.instanceMethod yX5_init ∈ gx_Ts := gx_t1 14 (by decide +kernel) rfl
theorem wk_X5_init : Cond.code yX5_init cX5_init 4 (Option.none : Option Jvm.ClassFile.FieldType) ∈ gx_Ts := gx_t1 15 (rfl) rfl
theorem wm_X5_3 : Cond.methodLink RX5 3 objectInit ∈ gx_Ts := gx_t1 16 (by decide +kernel) rfl
theorem wy_O : Cond.instanceMethod objectInit ∈ gx_Ts := gx_t1 17 (by decide +kernel) rfl
theorem wk_O : Cond.code objectInit ⟨#[0xb1]⟩ 1 none ∈ gx_Ts := gx_t1 18 (by decide +kernel) rfl
theorem wc_X5_16 : Cond.classLink RX5 16 RX3 ∈ gx_Ts := gx_t1 19 (by decide +kernel) rfl
theorem wo_X3 : Cond.arrayOver (.object RX3) ∈ lw_tbl := List.mem_append_right _ (List.mem_append_left _ (List.mem_of_getElem? (i := 20) (by decide +kernel)))
theorem wc_X5_22 : Cond.classLink RX5 22 RX0 ∈ gx_Ts := gx_t1 21 (by decide +kernel) rfl
theorem wn_X0 : Cond.instantiable RX0 2 ∈ gx_Ts := gx_t1 22 (by decide +kernel) rfl
theorem wq_nest : Cond.methodLinkNest RX5 24 yX0_init RX5 ∈ lw_tbl := List.mem_append_right _ (List.mem_append_left _ (List.mem_of_getElem? (i := 23) (by decide +kernel)))
theorem wy_X0_init : Cond.instanceMethod yX0_init ∈ gx_Ts := gx_t1 24 (by decide +kernel) rfl
theorem wk_X0_init : Cond.code yX0_init cX0_init 1 (Option.none : Option Jvm.ClassFile.FieldType) ∈ gx_Ts := gx_t1 25 (rfl) rfl
theorem wm_X0_3 : Cond.methodLink RX0 3 objectInit ∈ gx_Ts := gx_t1 26 (by decide +kernel) rfl
theorem wc_X0_9 : Cond.classLink RX0 9 RX2 ∈ gx_Ts := gx_t1 27 (by decide +kernel) rfl
theorem wo_X2 : Cond.arrayOver (.object RX2) ∈ lw_tbl := List.mem_append_right _ (List.mem_append_left _ (List.mem_of_getElem? (i := 28) (by decide +kernel)))
theorem wf_X0_11 : Cond.fieldLink RX0 11 RX0 "row" "[LGroupOrder$Message;" ∈ gx_Ts := gx_t1 29 (by decide +kernel) rfl
theorem wf_X5_103 : Cond.fieldLink RX5 103 RX0 "row" "[LGroupOrder$Message;" ∈ gx_Ts := gx_t1 30 (by decide +kernel) rfl
theorem wf_X0_17 : Cond.fieldLink RX0 17 RX0 "size" "I" ∈ gx_Ts := gx_t1 31 (by decide +kernel) rfl
theorem wf_X5_131 : Cond.fieldLink RX5 131 RX0 "size" "I" ∈ gx_Ts := gx_t1 32 (by decide +kernel) rfl
theorem wa_int : Cond.arrayClass Jvm.ClassFile.FieldType.int ∈ gx_Ts := gx_t1 38 (by decide +kernel) rfl
theorem wm_X5_35 : Cond.methodLink RX5 35 yJ9_min_7cf53 ∈ gx_Ts := gx_t1 39 (by decide +kernel) rfl
theorem ws_J9_min_7cf53 : Cond.static yJ9_min_7cf53 ∈ gx_Ts := gx_t1 40 (by decide +kernel) rfl
theorem wk_J9_min_7cf53 : Cond.code yJ9_min_7cf53 cJ9_min_7cf53 2 (Option.some Jvm.ClassFile.FieldType.int) ∈ gx_Ts := gx_t1 41 (rfl) rfl
theorem wm_X5_41 : Cond.methodLink RX5 41 yJ9_max_7cf53 ∈ gx_Ts := gx_t1 42 (by decide +kernel) rfl
theorem ws_J9_max_7cf53 : Cond.static yJ9_max_7cf53 ∈ gx_Ts := gx_t1 43 (by decide +kernel) rfl
theorem wk_J9_max_7cf53 : Cond.code yJ9_max_7cf53 cJ9_max_7cf53 2 (Option.some Jvm.ClassFile.FieldType.int) ∈ gx_Ts := gx_t1 44 (rfl) rfl
theorem wc_X5_44 : Cond.classLink RX5 44 RX1 ∈ gx_Ts := gx_t1 45 (by decide +kernel) rfl
theorem wo_X1 : Cond.arrayOver (.object RX1) ∈ lw_tbl := List.mem_append_right _ (List.mem_append_left _ (List.mem_of_getElem? (i := 46) (by decide +kernel)))
theorem wn_X1 : Cond.instantiable RX1 7 ∈ gx_Ts := gx_t1 47 (by decide +kernel) rfl
theorem wm_X5_50 : Cond.methodLink RX5 50 yX1_init ∈ gx_Ts := gx_t1 48 (by decide +kernel) rfl
theorem wy_X1_init : Cond.instanceMethod yX1_init ∈ gx_Ts := gx_t1 49 (by decide +kernel) rfl
theorem wk_X1_init : Cond.code yX1_init cX1_init 2 (Option.none : Option Jvm.ClassFile.FieldType) ∈ gx_Ts := gx_t1 50 (rfl) rfl
theorem wm_X1_3 : Cond.methodLink RX1 3 objectInit ∈ gx_Ts := gx_t1 51 (by decide +kernel) rfl
theorem wc_X1_15 : Cond.classLink RX1 15 RX4 ∈ gx_Ts := gx_t1 52 (by decide +kernel) rfl
theorem wo_X4 : Cond.arrayOver (.object RX4) ∈ lw_tbl := List.mem_append_right _ (List.mem_append_left _ (List.mem_of_getElem? (i := 53) (by decide +kernel)))
theorem wf_X1_24 : Cond.fieldLink RX1 24 RX1 "number" "I" ∈ gx_Ts := gx_t1 54 (by decide +kernel) rfl
theorem wf_X5_208 : Cond.fieldLink RX5 208 RX1 "number" "I" ∈ gx_Ts := gx_t1 55 (by decide +kernel) rfl
theorem wf_X1_9 : Cond.fieldLink RX1 9 RX1 "isUp" "Z" ∈ gx_Ts := gx_t1 56 (by decide +kernel) rfl
theorem wf_X5_96 : Cond.fieldLink RX5 96 RX1 "isUp" "Z" ∈ gx_Ts := gx_t1 57 (by decide +kernel) rfl
theorem wf_X1_34 : Cond.fieldLink RX1 34 RX1 "clockTime" "I" ∈ gx_Ts := gx_t1 58 (by decide +kernel) rfl
theorem wf_X5_168 : Cond.fieldLink RX5 168 RX1 "clockTime" "I" ∈ gx_Ts := gx_t1 59 (by decide +kernel) rfl
theorem wf_X1_17 : Cond.fieldLink RX1 17 RX1 "parts" "[LGroupOrder$Part;" ∈ gx_Ts := gx_t1 60 (by decide +kernel) rfl
theorem wf_X5_153 : Cond.fieldLink RX5 153 RX1 "parts" "[LGroupOrder$Part;" ∈ gx_Ts := gx_t1 61 (by decide +kernel) rfl
theorem wf_X1_21 : Cond.fieldLink RX1 21 RX1 "takenParts" "[LGroupOrder$Part;" ∈ gx_Ts := gx_t1 62 (by decide +kernel) rfl
theorem wf_X5_137 : Cond.fieldLink RX5 137 RX1 "takenParts" "[LGroupOrder$Part;" ∈ gx_Ts := gx_t1 63 (by decide +kernel) rfl
theorem wf_X1_63 : Cond.fieldLink RX1 63 RX1 "takenCount" "I" ∈ gx_Ts := gx_t1 64 (by decide +kernel) rfl
theorem wf_X5_134 : Cond.fieldLink RX5 134 RX1 "takenCount" "I" ∈ gx_Ts := gx_t1 65 (by decide +kernel) rfl
theorem wf_X5_253 : Cond.fieldLink RX5 253 RX1 "workedOutCount" "I" ∈ gx_Ts := gx_t1 66 (by decide +kernel) rfl
theorem wm_X5_53 : Cond.methodLink RX5 53 yJ7_fill_53178 ∈ gx_Ts := gx_t1 82 (by decide +kernel) rfl
theorem ws_J7_fill_53178 : Cond.static yJ7_fill_53178 ∈ gx_Ts := gx_t1 83 (by decide +kernel) rfl
theorem wk_J7_fill_53178 : Cond.code yJ7_fill_53178 cJ7_fill_53178 4 (Option.none : Option Jvm.ClassFile.FieldType) ∈ gx_Ts := gx_t1 84 (rfl) rfl
theorem wf_X5_46 : Cond.fieldLink RX5 46 RX5 "groups" "[LGroupOrder$Group;" ∈ gx_Ts := gx_t1 85 (by decide +kernel) rfl
theorem wf_X5_9 : Cond.fieldLink RX5 9 RX5 "values" "[I" ∈ gx_Ts := gx_t1 86 (by decide +kernel) rfl
theorem wf_X5_13 : Cond.fieldLink RX5 13 RX5 "clientTimes" "[I" ∈ gx_Ts := gx_t1 87 (by decide +kernel) rfl
theorem wf_X5_18 : Cond.fieldLink RX5 18 RX5 "orders" "[LGroupOrder$Order;" ∈ gx_Ts := gx_t1 88 (by decide +kernel) rfl
theorem wf_X5_25 : Cond.fieldLink RX5 25 RX5 "flights" "LGroupOrder$Flights;" ∈ gx_Ts := gx_t1 89 (by decide +kernel) rfl
theorem wf_X5_59 : Cond.fieldLink RX5 59 RX5 "orderCount" "I" ∈ gx_Ts := gx_t1 90 (by decide +kernel) rfl
theorem wf_X5_184 : Cond.fieldLink RX5 184 RX5 "broughtCount" "I" ∈ gx_Ts := gx_t1 91 (by decide +kernel) rfl
theorem wf_X5_29 : Cond.fieldLink RX5 29 RX5 "serialValues" "[I" ∈ gx_Ts := gx_t1 92 (by decide +kernel) rfl
theorem wf_X5_32 : Cond.fieldLink RX5 32 RX5 "dueValues" "[I" ∈ gx_Ts := gx_t1 93 (by decide +kernel) rfl
theorem wm_L_21 : Cond.methodLink RL 21 yX5_send ∈ gx_Ts := gx_t1 113 (by decide +kernel) rfl
theorem wy_X5_send : Cond.instanceMethod yX5_send ∈ gx_Ts := gx_t1 114 (by decide +kernel) rfl
theorem wl_X5_send : Cond.selects RX5 yX5_send yX5_send ∈ gx_Ts := gx_t1 115 (by decide +kernel) rfl
theorem wk_X5_send : Cond.code yX5_send cX5_send 7 (Option.some Jvm.ClassFile.FieldType.int) ∈ gx_Ts := gx_t1 116 (rfl) rfl
theorem wm_X5_63 : Cond.methodLink RX5 63 yX5_isOrder ∈ gx_Ts := gx_t1 117 (by decide +kernel) rfl
theorem ws_X5_isOrder : Cond.static yX5_isOrder ∈ gx_Ts := gx_t1 118 (by decide +kernel) rfl
theorem wk_X5_isOrder : Cond.code yX5_isOrder cX5_isOrder 5 (Option.some Jvm.ClassFile.FieldType.boolean) ∈ gx_Ts := gx_t1 119 (rfl) rfl
theorem wm_X5_171 : Cond.methodLink RX5 171 yX5_isClient ∈ gx_Ts := gx_t1 120 (by decide +kernel) rfl
theorem ws_X5_isClient : Cond.static yX5_isClient ∈ gx_Ts := gx_t1 121 (by decide +kernel) rfl
theorem wk_X5_isClient : Cond.code yX5_isClient cX5_isClient 1 (Option.some Jvm.ClassFile.FieldType.boolean) ∈ gx_Ts := gx_t1 122 (rfl) rfl
theorem wm_X5_165 : Cond.methodLink RX5 165 yX5_isKey ∈ gx_Ts := gx_t1 123 (by decide +kernel) rfl
theorem ws_X5_isKey : Cond.static yX5_isKey ∈ gx_Ts := gx_t1 124 (by decide +kernel) rfl
theorem wk_X5_isKey : Cond.code yX5_isKey cX5_isKey 1 (Option.some Jvm.ClassFile.FieldType.boolean) ∈ gx_Ts := gx_t1 125 (rfl) rfl
theorem wt_X5_194 : Cond.constant RX5 194 (1000000 : Int32) ∈ gx_Ts := gx_t1 126 (by decide +kernel) rfl
theorem wn_X3 : Cond.instantiable RX3 10 ∈ gx_Ts := gx_t1 127 (by decide +kernel) rfl
theorem wm_X5_67 : Cond.methodLink RX5 67 yX3_init ∈ gx_Ts := gx_t1 128 (by decide +kernel) rfl
theorem wy_X3_init : Cond.instanceMethod yX3_init ∈ gx_Ts := gx_t1 129 (by decide +kernel) rfl
theorem wk_X3_init : Cond.code yX3_init cX3_init 7 (Option.none : Option Jvm.ClassFile.FieldType) ∈ gx_Ts := gx_t1 130 (rfl) rfl
theorem wm_X3_3 : Cond.methodLink RX3 3 objectInit ∈ gx_Ts := gx_t1 131 (by decide +kernel) rfl
theorem wf_X3_9 : Cond.fieldLink RX3 9 RX3 "number" "I" ∈ gx_Ts := gx_t1 132 (by decide +kernel) rfl
theorem wf_X1_31 : Cond.fieldLink RX1 31 RX3 "number" "I" ∈ gx_Ts := gx_t1 133 (by decide +kernel) rfl
theorem wf_X5_85 : Cond.fieldLink RX5 85 RX3 "number" "I" ∈ gx_Ts := gx_t1 134 (by decide +kernel) rfl
theorem wf_X4_46 : Cond.fieldLink RX4 46 RX3 "number" "I" ∈ gx_Ts := gx_t1 135 (by decide +kernel) rfl
theorem wf_X3_15 : Cond.fieldLink RX3 15 RX3 "client" "I" ∈ gx_Ts := gx_t1 136 (by decide +kernel) rfl
theorem wf_X5_195 : Cond.fieldLink RX5 195 RX3 "client" "I" ∈ gx_Ts := gx_t1 137 (by decide +kernel) rfl
theorem wf_X3_18 : Cond.fieldLink RX3 18 RX3 "kind" "I" ∈ gx_Ts := gx_t1 138 (by decide +kernel) rfl
theorem wf_X3_21 : Cond.fieldLink RX3 21 RX3 "a" "I" ∈ gx_Ts := gx_t1 139 (by decide +kernel) rfl
theorem wf_X5_198 : Cond.fieldLink RX5 198 RX3 "a" "I" ∈ gx_Ts := gx_t1 140 (by decide +kernel) rfl
theorem wf_X3_24 : Cond.fieldLink RX3 24 RX3 "b" "I" ∈ gx_Ts := gx_t1 141 (by decide +kernel) rfl
theorem wf_X5_205 : Cond.fieldLink RX5 205 RX3 "b" "I" ∈ gx_Ts := gx_t1 142 (by decide +kernel) rfl
theorem wf_X3_27 : Cond.fieldLink RX3 27 RX3 "c" "I" ∈ gx_Ts := gx_t1 143 (by decide +kernel) rfl
theorem wf_X5_70 : Cond.fieldLink RX5 70 RX3 "clientTime" "I" ∈ gx_Ts := gx_t1 144 (by decide +kernel) rfl
theorem wf_X1_41 : Cond.fieldLink RX1 41 RX3 "clientTime" "I" ∈ gx_Ts := gx_t1 145 (by decide +kernel) rfl
theorem wf_X5_77 : Cond.fieldLink RX5 77 RX3 "answeredBefore" "J" ∈ gx_Ts := gx_t1 146 (by decide +kernel) rfl
theorem wf_X5_150 : Cond.fieldLink RX5 150 RX3 "isAnswered" "Z" ∈ gx_Ts := gx_t1 147 (by decide +kernel) rfl
theorem wf_X5_144 : Cond.fieldLink RX5 144 RX3 "result" "I" ∈ gx_Ts := gx_t1 148 (by decide +kernel) rfl
theorem wm_X5_73 : Cond.methodLink RX5 73 yX5_answeredOrdersOf ∈ gx_Ts := gx_t1 170 (by decide +kernel) rfl
theorem wy_X5_answeredOrdersOf : Cond.instanceMethod yX5_answeredOrdersOf ∈ gx_Ts := gx_t1 172 (by decide +kernel) rfl
theorem wk_X5_answeredOrdersOf : Cond.code yX5_answeredOrdersOf cX5_answeredOrdersOf 5 (Option.some Jvm.ClassFile.FieldType.long) ∈ gx_Ts := gx_t1 173 (rfl) rfl
theorem wm_X5_81 : Cond.methodLink RX5 81 yX5_putStarts ∈ gx_Ts := gx_t1 174 (by decide +kernel) rfl
theorem wy_X5_putStarts : Cond.instanceMethod yX5_putStarts ∈ gx_Ts := gx_t1 176 (by decide +kernel) rfl
theorem wk_X5_putStarts : Cond.code yX5_putStarts cX5_putStarts 7 (Option.none : Option Jvm.ClassFile.FieldType) ∈ gx_Ts := gx_t1 177 (rfl) rfl
theorem wm_X5_201 : Cond.methodLink RX5 201 yX5_keeperOf ∈ gx_Ts := gx_t1 178 (by decide +kernel) rfl
theorem wy_X5_keeperOf : Cond.instanceMethod yX5_keeperOf ∈ gx_Ts := gx_t1 180 (by decide +kernel) rfl
theorem wk_X5_keeperOf : Cond.code yX5_keeperOf cX5_keeperOf 2 (Option.some (Jvm.ClassFile.FieldType.object "GroupOrder$Group")) ∈ gx_Ts := gx_t1 181 (rfl) rfl
theorem wm_X5_209 : Cond.methodLink RX5 209 yX1_partFor ∈ gx_Ts := gx_t1 182 (by decide +kernel) rfl
theorem wy_X1_partFor : Cond.instanceMethod yX1_partFor ∈ gx_Ts := gx_t1 183 (by decide +kernel) rfl
theorem wl_X1_partFor : Cond.selects RX1 yX1_partFor yX1_partFor ∈ gx_Ts := gx_t1 184 (by decide +kernel) rfl
theorem wk_X1_partFor : Cond.code yX1_partFor cX1_partFor 3 (Option.some (Jvm.ClassFile.FieldType.object "GroupOrder$Part")) ∈ gx_Ts := gx_t1 185 (rfl) rfl
theorem wn_X4 : Cond.instantiable RX4 11 ∈ gx_Ts := gx_t1 186 (by decide +kernel) rfl
theorem wm_X1_28 : Cond.methodLink RX1 28 yX4_init ∈ gx_Ts := gx_t1 187 (by decide +kernel) rfl
theorem wy_X4_init : Cond.instanceMethod yX4_init ∈ gx_Ts := gx_t1 188 (by decide +kernel) rfl
theorem wk_X4_init : Cond.code yX4_init cX4_init 3 (Option.none : Option Jvm.ClassFile.FieldType) ∈ gx_Ts := gx_t1 189 (rfl) rfl
theorem wm_X4_3 : Cond.methodLink RX4 3 objectInit ∈ gx_Ts := gx_t1 190 (by decide +kernel) rfl
theorem wf_X4_21 : Cond.fieldLink RX4 21 RX4 "order" "LGroupOrder$Order;" ∈ gx_Ts := gx_t1 191 (by decide +kernel) rfl
theorem wf_X1_37 : Cond.fieldLink RX1 37 RX4 "order" "LGroupOrder$Order;" ∈ gx_Ts := gx_t1 192 (by decide +kernel) rfl
theorem wf_X5_116 : Cond.fieldLink RX5 116 RX4 "order" "LGroupOrder$Order;" ∈ gx_Ts := gx_t1 193 (by decide +kernel) rfl
theorem wf_X4_25 : Cond.fieldLink RX4 25 RX4 "group" "I" ∈ gx_Ts := gx_t1 194 (by decide +kernel) rfl
theorem wf_X5_125 : Cond.fieldLink RX5 125 RX4 "group" "I" ∈ gx_Ts := gx_t1 195 (by decide +kernel) rfl
theorem wf_X4_28 : Cond.fieldLink RX4 28 RX4 "other" "LGroupOrder$Part;" ∈ gx_Ts := gx_t1 196 (by decide +kernel) rfl
theorem wf_X5_220 : Cond.fieldLink RX5 220 RX4 "other" "LGroupOrder$Part;" ∈ gx_Ts := gx_t1 197 (by decide +kernel) rfl
theorem wf_X4_9 : Cond.fieldLink RX4 9 RX4 "localTime" "I" ∈ gx_Ts := gx_t1 198 (by decide +kernel) rfl
theorem wf_X1_50 : Cond.fieldLink RX1 50 RX4 "localTime" "I" ∈ gx_Ts := gx_t1 199 (by decide +kernel) rfl
theorem wf_X5_156 : Cond.fieldLink RX5 156 RX4 "localTime" "I" ∈ gx_Ts := gx_t1 200 (by decide +kernel) rfl
theorem wf_X4_15 : Cond.fieldLink RX4 15 RX4 "otherLocalTime" "I" ∈ gx_Ts := gx_t1 201 (by decide +kernel) rfl
theorem wf_X1_60 : Cond.fieldLink RX1 60 RX4 "otherLocalTime" "I" ∈ gx_Ts := gx_t1 202 (by decide +kernel) rfl
theorem wf_X5_240 : Cond.fieldLink RX5 240 RX4 "otherLocalTime" "I" ∈ gx_Ts := gx_t1 203 (by decide +kernel) rfl
theorem wf_X4_18 : Cond.fieldLink RX4 18 RX4 "finalTime" "I" ∈ gx_Ts := gx_t1 204 (by decide +kernel) rfl
theorem wf_X1_53 : Cond.fieldLink RX1 53 RX4 "finalTime" "I" ∈ gx_Ts := gx_t1 205 (by decide +kernel) rfl
theorem wf_X5_159 : Cond.fieldLink RX5 159 RX4 "finalTime" "I" ∈ gx_Ts := gx_t1 206 (by decide +kernel) rfl
theorem wf_X4_32 : Cond.fieldLink RX4 32 RX4 "isTaken" "Z" ∈ gx_Ts := gx_t1 207 (by decide +kernel) rfl
theorem wf_X1_70 : Cond.fieldLink RX1 70 RX4 "isTaken" "Z" ∈ gx_Ts := gx_t1 208 (by decide +kernel) rfl
theorem wf_X5_262 : Cond.fieldLink RX5 262 RX4 "wasValueSent" "Z" ∈ gx_Ts := gx_t1 209 (by decide +kernel) rfl
theorem wf_X5_246 : Cond.fieldLink RX5 246 RX4 "hasOtherValue" "Z" ∈ gx_Ts := gx_t1 210 (by decide +kernel) rfl
theorem wf_X5_243 : Cond.fieldLink RX5 243 RX4 "otherValue" "I" ∈ gx_Ts := gx_t1 211 (by decide +kernel) rfl
theorem wf_X5_162 : Cond.fieldLink RX5 162 RX4 "isWorkedOut" "Z" ∈ gx_Ts := gx_t1 212 (by decide +kernel) rfl
theorem wc_X5_108 : Cond.classLink RX5 108 RX2 ∈ gx_Ts := gx_t1 236 (by decide +kernel) rfl
theorem wn_X2 : Cond.instantiable RX2 4 ∈ gx_Ts := gx_t1 237 (by decide +kernel) rfl
theorem wm_X5_213 : Cond.methodLink RX5 213 yX2_init ∈ gx_Ts := gx_t1 238 (by decide +kernel) rfl
theorem wy_X2_init : Cond.instanceMethod yX2_init ∈ gx_Ts := gx_t1 239 (by decide +kernel) rfl
theorem wk_X2_init : Cond.code yX2_init cX2_init 5 (Option.none : Option Jvm.ClassFile.FieldType) ∈ gx_Ts := gx_t2 0 (rfl) rfl
theorem wm_X2_1 : Cond.methodLink RX2 1 objectInit ∈ gx_Ts := gx_t2 1 (by decide +kernel) rfl
theorem wf_X2_7 : Cond.fieldLink RX2 7 RX2 "kind" "I" ∈ gx_Ts := gx_t2 2 (by decide +kernel) rfl
theorem wf_X5_107 : Cond.fieldLink RX5 107 RX2 "kind" "I" ∈ gx_Ts := gx_t2 3 (by decide +kernel) rfl
theorem wf_X2_13 : Cond.fieldLink RX2 13 RX2 "from" "I" ∈ gx_Ts := gx_t2 4 (by decide +kernel) rfl
theorem wf_X5_122 : Cond.fieldLink RX5 122 RX2 "from" "I" ∈ gx_Ts := gx_t2 5 (by decide +kernel) rfl
theorem wf_X2_16 : Cond.fieldLink RX2 16 RX2 "to" "LGroupOrder$Part;" ∈ gx_Ts := gx_t2 6 (by decide +kernel) rfl
theorem wf_X5_112 : Cond.fieldLink RX5 112 RX2 "to" "LGroupOrder$Part;" ∈ gx_Ts := gx_t2 7 (by decide +kernel) rfl
theorem wf_X2_20 : Cond.fieldLink RX2 20 RX2 "content" "I" ∈ gx_Ts := gx_t2 8 (by decide +kernel) rfl
theorem wf_X5_128 : Cond.fieldLink RX5 128 RX2 "content" "I" ∈ gx_Ts := gx_t2 9 (by decide +kernel) rfl
theorem wm_X5_216 : Cond.methodLink RX5 216 yX0_put ∈ gx_Ts := gx_t2 19 (by decide +kernel) rfl
theorem wy_X0_put : Cond.instanceMethod yX0_put ∈ gx_Ts := gx_t2 20 (by decide +kernel) rfl
theorem wl_X0_put : Cond.selects RX0 yX0_put yX0_put ∈ gx_Ts := gx_t2 21 (by decide +kernel) rfl
theorem wk_X0_put : Cond.code yX0_put cX0_put 2 (Option.none : Option Jvm.ClassFile.FieldType) ∈ gx_Ts := gx_t2 22 (rfl) rfl
theorem wm_L_26 : Cond.methodLink RL 26 yX5_bring ∈ gx_Ts := gx_t2 23 (by decide +kernel) rfl
theorem wy_X5_bring : Cond.instanceMethod yX5_bring ∈ gx_Ts := gx_t2 24 (by decide +kernel) rfl
theorem wl_X5_bring : Cond.selects RX5 yX5_bring yX5_bring ∈ gx_Ts := gx_t2 25 (by decide +kernel) rfl
theorem wk_X5_bring : Cond.code yX5_bring cX5_bring 2 (Option.some Jvm.ClassFile.FieldType.int) ∈ gx_Ts := gx_t2 26 (rfl) rfl
theorem wm_X5_88 : Cond.methodLink RX5 88 yX5_deliver ∈ gx_Ts := gx_t2 27 (by decide +kernel) rfl
theorem wy_X5_deliver : Cond.instanceMethod yX5_deliver ∈ gx_Ts := gx_t2 29 (by decide +kernel) rfl
theorem wk_X5_deliver : Cond.code yX5_deliver cX5_deliver 5 (Option.some Jvm.ClassFile.FieldType.int) ∈ gx_Ts := gx_t2 30 (rfl) rfl
theorem wm_X5_100 : Cond.methodLink RX5 100 yX0_has ∈ gx_Ts := gx_t2 31 (by decide +kernel) rfl
theorem wy_X0_has : Cond.instanceMethod yX0_has ∈ gx_Ts := gx_t2 32 (by decide +kernel) rfl
theorem wl_X0_has : Cond.selects RX0 yX0_has yX0_has ∈ gx_Ts := gx_t2 33 (by decide +kernel) rfl
theorem wk_X0_has : Cond.code yX0_has cX0_has 2 (Option.some Jvm.ClassFile.FieldType.boolean) ∈ gx_Ts := gx_t2 34 (rfl) rfl
theorem wm_X5_223 : Cond.methodLink RX5 223 yX0_drop ∈ gx_Ts := gx_t2 35 (by decide +kernel) rfl
theorem wy_X0_drop : Cond.instanceMethod yX0_drop ∈ gx_Ts := gx_t2 36 (by decide +kernel) rfl
theorem wl_X0_drop : Cond.selects RX0 yX0_drop yX0_drop ∈ gx_Ts := gx_t2 37 (by decide +kernel) rfl
theorem wk_X0_drop : Cond.code yX0_drop cX0_drop 3 (Option.none : Option Jvm.ClassFile.FieldType) ∈ gx_Ts := gx_t2 38 (rfl) rfl
theorem wm_X5_226 : Cond.methodLink RX5 226 yX5_receive ∈ gx_Ts := gx_t2 39 (by decide +kernel) rfl
theorem wy_X5_receive : Cond.instanceMethod yX5_receive ∈ gx_Ts := gx_t2 41 (by decide +kernel) rfl
theorem wk_X5_receive : Cond.code yX5_receive cX5_receive 4 (Option.none : Option Jvm.ClassFile.FieldType) ∈ gx_Ts := gx_t2 42 (rfl) rfl
theorem wm_X5_249 : Cond.methodLink RX5 249 yX1_start ∈ gx_Ts := gx_t2 43 (by decide +kernel) rfl
theorem wy_X1_start : Cond.instanceMethod yX1_start ∈ gx_Ts := gx_t2 44 (by decide +kernel) rfl
theorem wl_X1_start : Cond.selects RX1 yX1_start yX1_start ∈ gx_Ts := gx_t2 45 (by decide +kernel) rfl
theorem wk_X1_start : Cond.code yX1_start cX1_start 2 (Option.none : Option Jvm.ClassFile.FieldType) ∈ gx_Ts := gx_t2 46 (rfl) rfl
theorem wm_X1_44 : Cond.methodLink RX1 44 yJ9_max_7cf53 ∈ gx_Ts := gx_t2 47 (by decide +kernel) rfl
theorem wm_X5_230 : Cond.methodLink RX5 230 yX1_makeFinal ∈ gx_Ts := gx_t2 48 (by decide +kernel) rfl
theorem wy_X1_makeFinal : Cond.instanceMethod yX1_makeFinal ∈ gx_Ts := gx_t2 49 (by decide +kernel) rfl
theorem wl_X1_makeFinal : Cond.selects RX1 yX1_makeFinal yX1_makeFinal ∈ gx_Ts := gx_t2 50 (by decide +kernel) rfl
theorem wk_X1_makeFinal : Cond.code yX1_makeFinal cX1_makeFinal 3 (Option.none : Option Jvm.ClassFile.FieldType) ∈ gx_Ts := gx_t2 51 (rfl) rfl
theorem wm_X1_56 : Cond.methodLink RX1 56 yX4_hasAllLocalTimes ∈ gx_Ts := gx_t2 52 (by decide +kernel) rfl
theorem wy_X4_hasAllLocalTimes : Cond.instanceMethod yX4_hasAllLocalTimes ∈ gx_Ts := gx_t2 53 (by decide +kernel) rfl
theorem wl_X4_hasAllLocalTimes : Cond.selects RX4 yX4_hasAllLocalTimes yX4_hasAllLocalTimes ∈ gx_Ts := gx_t2 54 (by decide +kernel) rfl
theorem wk_X4_hasAllLocalTimes : Cond.code yX4_hasAllLocalTimes cX4_hasAllLocalTimes 1 (Option.some Jvm.ClassFile.FieldType.boolean) ∈ gx_Ts := gx_t2 55 (rfl) rfl
theorem wm_X5_233 : Cond.methodLink RX5 233 yX1_takeAll ∈ gx_Ts := gx_t2 56 (by decide +kernel) rfl
theorem wy_X1_takeAll : Cond.instanceMethod yX1_takeAll ∈ gx_Ts := gx_t2 57 (by decide +kernel) rfl
theorem wl_X1_takeAll : Cond.selects RX1 yX1_takeAll yX1_takeAll ∈ gx_Ts := gx_t2 58 (by decide +kernel) rfl
theorem wk_X1_takeAll : Cond.code yX1_takeAll cX1_takeAll 3 (Option.none : Option Jvm.ClassFile.FieldType) ∈ gx_Ts := gx_t2 59 (rfl) rfl
theorem wm_X1_66 : Cond.methodLink RX1 66 yX1_earliestWaiting ∈ gx_Ts := gx_t2 60 (by decide +kernel) rfl
theorem wy_X1_earliestWaiting : Cond.instanceMethod yX1_earliestWaiting ∈ gx_Ts := gx_t2 62 (by decide +kernel) rfl
theorem wk_X1_earliestWaiting : Cond.code yX1_earliestWaiting cX1_earliestWaiting 5 (Option.some (Jvm.ClassFile.FieldType.object "GroupOrder$Part")) ∈ gx_Ts := gx_t2 63 (rfl) rfl
theorem wm_X1_73 : Cond.methodLink RX1 73 yX4_waits ∈ gx_Ts := gx_t2 64 (by decide +kernel) rfl
theorem wy_X4_waits : Cond.instanceMethod yX4_waits ∈ gx_Ts := gx_t2 65 (by decide +kernel) rfl
theorem wl_X4_waits : Cond.selects RX4 yX4_waits yX4_waits ∈ gx_Ts := gx_t2 66 (by decide +kernel) rfl
theorem wk_X4_waits : Cond.code yX4_waits cX4_waits 1 (Option.some Jvm.ClassFile.FieldType.boolean) ∈ gx_Ts := gx_t2 67 (rfl) rfl
theorem wm_X1_76 : Cond.methodLink RX1 76 yX4_isEarlierThan ∈ gx_Ts := gx_t2 68 (by decide +kernel) rfl
theorem wy_X4_isEarlierThan : Cond.instanceMethod yX4_isEarlierThan ∈ gx_Ts := gx_t2 69 (by decide +kernel) rfl
theorem wl_X4_isEarlierThan : Cond.selects RX4 yX4_isEarlierThan yX4_isEarlierThan ∈ gx_Ts := gx_t2 70 (by decide +kernel) rfl
theorem wk_X4_isEarlierThan : Cond.code yX4_isEarlierThan cX4_isEarlierThan 3 (Option.some Jvm.ClassFile.FieldType.boolean) ∈ gx_Ts := gx_t2 71 (rfl) rfl
theorem wm_X4_36 : Cond.methodLink RX4 36 yX4_leastTime ∈ gx_Ts := gx_t2 72 (by decide +kernel) rfl
theorem wy_X4_leastTime : Cond.instanceMethod yX4_leastTime ∈ gx_Ts := gx_t2 74 (by decide +kernel) rfl
theorem wk_X4_leastTime : Cond.code yX4_leastTime cX4_leastTime 1 (Option.some Jvm.ClassFile.FieldType.int) ∈ gx_Ts := gx_t2 75 (rfl) rfl
theorem wm_X4_40 : Cond.methodLink RX4 40 yJ6_compare_7cf53 ∈ gx_Ts := gx_t2 76 (by decide +kernel) rfl
theorem ws_J6_compare_7cf53 : Cond.static yJ6_compare_7cf53 ∈ gx_Ts := gx_t2 77 (by decide +kernel) rfl
theorem wk_J6_compare_7cf53 : Cond.code yJ6_compare_7cf53 cJ6_compare_7cf53 2 (Option.some Jvm.ClassFile.FieldType.int) ∈ gx_Ts := gx_t2 78 (rfl) rfl
theorem wm_X5_236 : Cond.methodLink RX5 236 yX5_workOutAll ∈ gx_Ts := gx_t2 79 (by decide +kernel) rfl
theorem wy_X5_workOutAll : Cond.instanceMethod yX5_workOutAll ∈ gx_Ts := gx_t2 81 (by decide +kernel) rfl
theorem wk_X5_workOutAll : Cond.code yX5_workOutAll cX5_workOutAll 4 (Option.none : Option Jvm.ClassFile.FieldType) ∈ gx_Ts := gx_t2 82 (rfl) rfl
theorem wm_X5_256 : Cond.methodLink RX5 256 yX5_putValues ∈ gx_Ts := gx_t2 83 (by decide +kernel) rfl
theorem wy_X5_putValues : Cond.instanceMethod yX5_putValues ∈ gx_Ts := gx_t2 85 (by decide +kernel) rfl
theorem wk_X5_putValues : Cond.code yX5_putValues cX5_putValues 4 (Option.none : Option Jvm.ClassFile.FieldType) ∈ gx_Ts := gx_t2 86 (rfl) rfl
theorem wm_X5_259 : Cond.methodLink RX5 259 yX5_workOut ∈ gx_Ts := gx_t2 87 (by decide +kernel) rfl
theorem wy_X5_workOut : Cond.instanceMethod yX5_workOut ∈ gx_Ts := gx_t2 89 (by decide +kernel) rfl
theorem wk_X5_workOut : Cond.code yX5_workOut cX5_workOut 7 (Option.none : Option Jvm.ClassFile.FieldType) ∈ gx_Ts := gx_t2 90 (rfl) rfl
theorem wm_X5_265 : Cond.methodLink RX5 265 yX3_behindB ∈ gx_Ts := gx_t2 91 (by decide +kernel) rfl
theorem wy_X3_behindB : Cond.instanceMethod yX3_behindB ∈ gx_Ts := gx_t2 92 (by decide +kernel) rfl
theorem wl_X3_behindB : Cond.selects RX3 yX3_behindB yX3_behindB ∈ gx_Ts := gx_t2 93 (by decide +kernel) rfl
theorem wk_X3_behindB : Cond.code yX3_behindB cX3_behindB 3 (Option.some Jvm.ClassFile.FieldType.int) ∈ gx_Ts := gx_t2 94 (rfl) rfl
theorem wm_X3_30 : Cond.methodLink RX3 30 yX3_isMoved ∈ gx_Ts := gx_t2 95 (by decide +kernel) rfl
theorem wy_X3_isMoved : Cond.instanceMethod yX3_isMoved ∈ gx_Ts := gx_t2 96 (by decide +kernel) rfl
theorem wl_X3_isMoved : Cond.selects RX3 yX3_isMoved yX3_isMoved ∈ gx_Ts := gx_t2 97 (by decide +kernel) rfl
theorem wk_X3_isMoved : Cond.code yX3_isMoved cX3_isMoved 2 (Option.some Jvm.ClassFile.FieldType.boolean) ∈ gx_Ts := gx_t2 98 (rfl) rfl
theorem wm_X5_268 : Cond.methodLink RX5 268 yX3_behindA ∈ gx_Ts := gx_t2 99 (by decide +kernel) rfl
theorem wy_X3_behindA : Cond.instanceMethod yX3_behindA ∈ gx_Ts := gx_t2 100 (by decide +kernel) rfl
theorem wl_X3_behindA : Cond.selects RX3 yX3_behindA yX3_behindA ∈ gx_Ts := gx_t2 101 (by decide +kernel) rfl
theorem wk_X3_behindA : Cond.code yX3_behindA cX3_behindA 3 (Option.some Jvm.ClassFile.FieldType.int) ∈ gx_Ts := gx_t2 102 (rfl) rfl
theorem wm_X5_271 : Cond.methodLink RX5 271 yX3_reply ∈ gx_Ts := gx_t2 103 (by decide +kernel) rfl
theorem wy_X3_reply : Cond.instanceMethod yX3_reply ∈ gx_Ts := gx_t2 104 (by decide +kernel) rfl
theorem wl_X3_reply : Cond.selects RX3 yX3_reply yX3_reply ∈ gx_Ts := gx_t2 105 (by decide +kernel) rfl
theorem wk_X3_reply : Cond.code yX3_reply cX3_reply 3 (Option.some Jvm.ClassFile.FieldType.int) ∈ gx_Ts := gx_t2 106 (rfl) rfl
theorem wm_X3_34 : Cond.methodLink RX3 34 yX3_behindA ∈ gx_Ts := gx_t2 107 (by decide +kernel) rfl
theorem wm_L_31 : Cond.methodLink RL 31 yX5_twice ∈ gx_Ts := gx_t2 108 (by decide +kernel) rfl
theorem wy_X5_twice : Cond.instanceMethod yX5_twice ∈ gx_Ts := gx_t2 109 (by decide +kernel) rfl
theorem wl_X5_twice : Cond.selects RX5 yX5_twice yX5_twice ∈ gx_Ts := gx_t2 110 (by decide +kernel) rfl
theorem wk_X5_twice : Cond.code yX5_twice cX5_twice 2 (Option.some Jvm.ClassFile.FieldType.int) ∈ gx_Ts := gx_t2 111 (rfl) rfl
theorem wm_L_35 : Cond.methodLink RL 35 yX5_up ∈ gx_Ts := gx_t2 112 (by decide +kernel) rfl
theorem wy_X5_up : Cond.instanceMethod yX5_up ∈ gx_Ts := gx_t2 113 (by decide +kernel) rfl
theorem wl_X5_up : Cond.selects RX5 yX5_up yX5_up ∈ gx_Ts := gx_t2 114 (by decide +kernel) rfl
theorem wk_X5_up : Cond.code yX5_up cX5_up 3 (Option.some Jvm.ClassFile.FieldType.boolean) ∈ gx_Ts := gx_t2 115 (rfl) rfl
theorem wm_X5_92 : Cond.methodLink RX5 92 yX5_isGroup ∈ gx_Ts := gx_t2 116 (by decide +kernel) rfl
theorem wy_X5_isGroup : Cond.instanceMethod yX5_isGroup ∈ gx_Ts := gx_t2 118 (by decide +kernel) rfl
theorem wk_X5_isGroup : Cond.code yX5_isGroup cX5_isGroup 2 (Option.some Jvm.ClassFile.FieldType.boolean) ∈ gx_Ts := gx_t2 119 (rfl) rfl
theorem wm_L_40 : Cond.methodLink RL 40 yX5_flight ∈ gx_Ts := gx_t2 120 (by decide +kernel) rfl
theorem wy_X5_flight : Cond.instanceMethod yX5_flight ∈ gx_Ts := gx_t2 121 (by decide +kernel) rfl
theorem wl_X5_flight : Cond.selects RX5 yX5_flight yX5_flight ∈ gx_Ts := gx_t2 122 (by decide +kernel) rfl
theorem wk_X5_flight : Cond.code yX5_flight cX5_flight 4 (Option.some Jvm.ClassFile.FieldType.int) ∈ gx_Ts := gx_t2 123 (rfl) rfl
theorem wm_L_45 : Cond.methodLink RL 45 yX5_flying ∈ gx_Ts := gx_t2 124 (by decide +kernel) rfl
theorem wy_X5_flying : Cond.instanceMethod yX5_flying ∈ gx_Ts := gx_t2 125 (by decide +kernel) rfl
theorem wl_X5_flying : Cond.selects RX5 yX5_flying yX5_flying ∈ gx_Ts := gx_t2 126 (by decide +kernel) rfl
theorem wk_X5_flying : Cond.code yX5_flying cX5_flying 1 (Option.some Jvm.ClassFile.FieldType.int) ∈ gx_Ts := gx_t2 127 (rfl) rfl
theorem wm_L_50 : Cond.methodLink RL 50 yX5_taken ∈ gx_Ts := gx_t2 128 (by decide +kernel) rfl
theorem wy_X5_taken : Cond.instanceMethod yX5_taken ∈ gx_Ts := gx_t2 129 (by decide +kernel) rfl
theorem wl_X5_taken : Cond.selects RX5 yX5_taken yX5_taken ∈ gx_Ts := gx_t2 130 (by decide +kernel) rfl
theorem wk_X5_taken : Cond.code yX5_taken cX5_taken 3 (Option.some Jvm.ClassFile.FieldType.int) ∈ gx_Ts := gx_t2 131 (rfl) rfl
theorem wm_L_54 : Cond.methodLink RL 54 yX5_answer ∈ gx_Ts := gx_t2 132 (by decide +kernel) rfl
theorem wy_X5_answer : Cond.instanceMethod yX5_answer ∈ gx_Ts := gx_t2 133 (by decide +kernel) rfl
theorem wl_X5_answer : Cond.selects RX5 yX5_answer yX5_answer ∈ gx_Ts := gx_t2 134 (by decide +kernel) rfl
theorem wk_X5_answer : Cond.code yX5_answer cX5_answer 2 (Option.some Jvm.ClassFile.FieldType.int) ∈ gx_Ts := gx_t2 135 (rfl) rfl
theorem wm_X5_141 : Cond.methodLink RX5 141 yX5_answered ∈ gx_Ts := gx_t2 136 (by decide +kernel) rfl
theorem wy_X5_answered : Cond.instanceMethod yX5_answered ∈ gx_Ts := gx_t2 137 (by decide +kernel) rfl
theorem wl_X5_answered : Cond.selects RX5 yX5_answered yX5_answered ∈ gx_Ts := gx_t2 138 (by decide +kernel) rfl
theorem wk_X5_answered : Cond.code yX5_answered cX5_answered 2 (Option.some Jvm.ClassFile.FieldType.boolean) ∈ gx_Ts := gx_t2 139 (rfl) rfl
theorem wm_X5_147 : Cond.methodLink RX5 147 yX5_hasOrder ∈ gx_Ts := gx_t2 140 (by decide +kernel) rfl
theorem wy_X5_hasOrder : Cond.instanceMethod yX5_hasOrder ∈ gx_Ts := gx_t2 142 (by decide +kernel) rfl
theorem wk_X5_hasOrder : Cond.code yX5_hasOrder cX5_hasOrder 2 (Option.some Jvm.ClassFile.FieldType.boolean) ∈ gx_Ts := gx_t2 143 (rfl) rfl
theorem wm_L_58 : Cond.methodLink RL 58 yX5_answered ∈ gx_Ts := gx_t2 144 (by decide +kernel) rfl
theorem wm_L_63 : Cond.methodLink RL 63 yX5_time ∈ gx_Ts := gx_t2 145 (by decide +kernel) rfl
theorem wy_X5_time : Cond.instanceMethod yX5_time ∈ gx_Ts := gx_t2 146 (by decide +kernel) rfl
theorem wl_X5_time : Cond.selects RX5 yX5_time yX5_time ∈ gx_Ts := gx_t2 147 (by decide +kernel) rfl
theorem wk_X5_time : Cond.code yX5_time cX5_time 5 (Option.some Jvm.ClassFile.FieldType.int) ∈ gx_Ts := gx_t2 148 (rfl) rfl
theorem wm_L_68 : Cond.methodLink RL 68 yX5_value ∈ gx_Ts := gx_t2 149 (by decide +kernel) rfl
theorem wy_X5_value : Cond.instanceMethod yX5_value ∈ gx_Ts := gx_t2 150 (by decide +kernel) rfl
theorem wl_X5_value : Cond.selects RX5 yX5_value yX5_value ∈ gx_Ts := gx_t2 151 (by decide +kernel) rfl
theorem wk_X5_value : Cond.code yX5_value cX5_value 2 (Option.some Jvm.ClassFile.FieldType.int) ∈ gx_Ts := gx_t2 152 (rfl) rfl
theorem wm_L_72 : Cond.methodLink RL 72 yX5_clock ∈ gx_Ts := gx_t2 153 (by decide +kernel) rfl
theorem wy_X5_clock : Cond.instanceMethod yX5_clock ∈ gx_Ts := gx_t2 154 (by decide +kernel) rfl
theorem wl_X5_clock : Cond.selects RX5 yX5_clock yX5_clock ∈ gx_Ts := gx_t2 155 (by decide +kernel) rfl
theorem wk_X5_clock : Cond.code yX5_clock cX5_clock 2 (Option.some Jvm.ClassFile.FieldType.int) ∈ gx_Ts := gx_t2 156 (rfl) rfl
theorem wm_L_76 : Cond.methodLink RL 76 yX5_seen ∈ gx_Ts := gx_t2 157 (by decide +kernel) rfl
theorem wy_X5_seen : Cond.instanceMethod yX5_seen ∈ gx_Ts := gx_t2 158 (by decide +kernel) rfl
theorem wl_X5_seen : Cond.selects RX5 yX5_seen yX5_seen ∈ gx_Ts := gx_t2 159 (by decide +kernel) rfl
theorem wk_X5_seen : Cond.code yX5_seen cX5_seen 2 (Option.some Jvm.ClassFile.FieldType.int) ∈ gx_Ts := gx_t2 160 (rfl) rfl
theorem wm_L_80 : Cond.methodLink RL 80 yX5_agree ∈ gx_Ts := gx_t2 161 (by decide +kernel) rfl
theorem wy_X5_agree : Cond.instanceMethod yX5_agree ∈ gx_Ts := gx_t2 162 (by decide +kernel) rfl
theorem wl_X5_agree : Cond.selects RX5 yX5_agree yX5_agree ∈ gx_Ts := gx_t2 163 (by decide +kernel) rfl
theorem wk_X5_agree : Cond.code yX5_agree cX5_agree 1 (Option.some Jvm.ClassFile.FieldType.boolean) ∈ gx_Ts := gx_t2 164 (rfl) rfl
theorem wm_X5_174 : Cond.methodLink RX5 174 yX5_groupsTookInOrder ∈ gx_Ts := gx_t2 165 (by decide +kernel) rfl
theorem wy_X5_groupsTookInOrder : Cond.instanceMethod yX5_groupsTookInOrder ∈ gx_Ts := gx_t2 167 (by decide +kernel) rfl
theorem wk_X5_groupsTookInOrder : Cond.code yX5_groupsTookInOrder cX5_groupsTookInOrder 4 (Option.some Jvm.ClassFile.FieldType.boolean) ∈ gx_Ts := gx_t2 168 (rfl) rfl
theorem wm_X5_278 : Cond.methodLink RX5 278 yX5_isBehind ∈ gx_Ts := gx_t2 169 (by decide +kernel) rfl
theorem wy_X5_isBehind : Cond.instanceMethod yX5_isBehind ∈ gx_Ts := gx_t2 171 (by decide +kernel) rfl
theorem wk_X5_isBehind : Cond.code yX5_isBehind cX5_isBehind 4 (Option.some Jvm.ClassFile.FieldType.boolean) ∈ gx_Ts := gx_t2 172 (rfl) rfl
theorem wm_X5_282 : Cond.methodLink RX5 282 yX5_finalTimeOf ∈ gx_Ts := gx_t2 173 (by decide +kernel) rfl
theorem wy_X5_finalTimeOf : Cond.instanceMethod yX5_finalTimeOf ∈ gx_Ts := gx_t2 175 (by decide +kernel) rfl
theorem wk_X5_finalTimeOf : Cond.code yX5_finalTimeOf cX5_finalTimeOf 4 (Option.some Jvm.ClassFile.FieldType.int) ∈ gx_Ts := gx_t2 176 (rfl) rfl
theorem wm_X5_294 : Cond.methodLink RX5 294 yJ6_compare_7cf53 ∈ gx_Ts := gx_t2 177 (by decide +kernel) rfl
theorem wm_X5_178 : Cond.methodLink RX5 178 yX5_clientsWereFollowed ∈ gx_Ts := gx_t2 178 (by decide +kernel) rfl
theorem wy_X5_clientsWereFollowed : Cond.instanceMethod yX5_clientsWereFollowed ∈ gx_Ts := gx_t2 180 (by decide +kernel) rfl
theorem wk_X5_clientsWereFollowed : Cond.code yX5_clientsWereFollowed cX5_clientsWereFollowed 4 (Option.some Jvm.ClassFile.FieldType.boolean) ∈ gx_Ts := gx_t2 181 (rfl) rfl
theorem wm_X5_181 : Cond.methodLink RX5 181 yX5_replayGivesTheSame ∈ gx_Ts := gx_t2 182 (by decide +kernel) rfl
theorem wy_X5_replayGivesTheSame : Cond.instanceMethod yX5_replayGivesTheSame ∈ gx_Ts := gx_t2 184 (by decide +kernel) rfl
theorem wk_X5_replayGivesTheSame : Cond.code yX5_replayGivesTheSame cX5_replayGivesTheSame 3 (Option.some Jvm.ClassFile.FieldType.boolean) ∈ gx_Ts := gx_t2 185 (rfl) rfl
theorem wm_X5_286 : Cond.methodLink RX5 286 yX5_nextAnswered ∈ gx_Ts := gx_t2 186 (by decide +kernel) rfl
theorem wy_X5_nextAnswered : Cond.instanceMethod yX5_nextAnswered ∈ gx_Ts := gx_t2 188 (by decide +kernel) rfl
theorem wk_X5_nextAnswered : Cond.code yX5_nextAnswered cX5_nextAnswered 6 (Option.some (Jvm.ClassFile.FieldType.object "GroupOrder$Order")) ∈ gx_Ts := gx_t2 189 (rfl) rfl
theorem wm_X5_290 : Cond.methodLink RX5 290 yX5_replayAnswersTheSame ∈ gx_Ts := gx_t2 190 (by decide +kernel) rfl
theorem wy_X5_replayAnswersTheSame : Cond.instanceMethod yX5_replayAnswersTheSame ∈ gx_Ts := gx_t2 192 (by decide +kernel) rfl
theorem wk_X5_replayAnswersTheSame : Cond.code yX5_replayAnswersTheSame cX5_replayAnswersTheSame 4 (Option.some Jvm.ClassFile.FieldType.boolean) ∈ gx_Ts := gx_t2 193 (rfl) rfl
theorem wm_X5_274 : Cond.methodLink RX5 274 yX5_isWorkedOutAt ∈ gx_Ts := gx_t2 194 (by decide +kernel) rfl
theorem wy_X5_isWorkedOutAt : Cond.instanceMethod yX5_isWorkedOutAt ∈ gx_Ts := gx_t2 196 (by decide +kernel) rfl
theorem wk_X5_isWorkedOutAt : Cond.code yX5_isWorkedOutAt cX5_isWorkedOutAt 4 (Option.some Jvm.ClassFile.FieldType.boolean) ∈ gx_Ts := gx_t2 197 (rfl) rfl
theorem wm_L_85 : Cond.methodLink RL 85 yX5_count ∈ gx_Ts := gx_t2 198 (by decide +kernel) rfl
theorem wy_X5_count : Cond.instanceMethod yX5_count ∈ gx_Ts := gx_t2 199 (by decide +kernel) rfl
theorem wl_X5_count : Cond.selects RX5 yX5_count yX5_count ∈ gx_Ts := gx_t2 200 (by decide +kernel) rfl
theorem wk_X5_count : Cond.code yX5_count cX5_count 2 (Option.some Jvm.ClassFile.FieldType.int) ∈ gx_Ts := gx_t2 201 (rfl) rfl
theorem wm_X5_187 : Cond.methodLink RX5 187 yX5_countAnswered ∈ gx_Ts := gx_t2 202 (by decide +kernel) rfl
theorem wy_X5_countAnswered : Cond.instanceMethod yX5_countAnswered ∈ gx_Ts := gx_t2 204 (by decide +kernel) rfl
theorem wk_X5_countAnswered : Cond.code yX5_countAnswered cX5_countAnswered 3 (Option.some Jvm.ClassFile.FieldType.int) ∈ gx_Ts := gx_t2 205 (rfl) rfl
theorem wm_X5_191 : Cond.methodLink RX5 191 yX5_countWorkedOutByAll ∈ gx_Ts := gx_t2 206 (by decide +kernel) rfl
theorem wy_X5_countWorkedOutByAll : Cond.instanceMethod yX5_countWorkedOutByAll ∈ gx_Ts := gx_t2 208 (by decide +kernel) rfl
theorem wk_X5_countWorkedOutByAll : Cond.code yX5_countWorkedOutByAll cX5_countWorkedOutByAll 3 (Option.some Jvm.ClassFile.FieldType.int) ∈ gx_Ts := gx_t2 209 (rfl) rfl
theorem wm_L_9 : Cond.methodLink RL 9 yL_cell ∈ gx_Ts := gx_t2 210 (by decide +kernel) rfl
theorem ws_L_cell : Cond.static yL_cell ∈ gx_Ts := gx_t2 211 (by decide +kernel) rfl
theorem wk_L_cell : Cond.code yL_cell cL_cell 2 (Option.some Jvm.ClassFile.FieldType.int) ∈ gx_Ts := gx_t2 212 (rfl) rfl
theorem wc_L_18 : Cond.classLink RL 18 RX6 ∈ gx_Ts := gx_t2 213 (by decide +kernel) rfl
theorem wn_X6 : Cond.instantiable RX6 34 ∈ gx_Ts := gx_t2 214 (by decide +kernel) rfl
theorem wm_L_20 : Cond.methodLink RL 20 yX6_init ∈ gx_Ts := gx_t2 215 (by decide +kernel) rfl
theorem wy_X6_init : Cond.instanceMethod yX6_init ∈ gx_Ts := gx_t2 216 (by decide +kernel) rfl
theorem wk_X6_init : Cond.code yX6_init cX6_init 3 (Option.none : Option Jvm.ClassFile.FieldType) ∈ gx_Ts := gx_t2 217 (rfl) rfl
theorem wm_X6_1 : Cond.methodLink RX6 1 objectInit ∈ gx_Ts := gx_t2 218 (by decide +kernel) rfl
theorem wf_X6_101 : Cond.fieldLink RX6 101 RX6 "groups" "I" ∈ gx_Ts := gx_t2 219 (by decide +kernel) rfl
theorem wf_X6_7 : Cond.fieldLink RX6 7 RX6 "clocks" "[I" ∈ gx_Ts := gx_t2 220 (by decide +kernel) rfl
theorem wf_X6_13 : Cond.fieldLink RX6 13 RX6 "down" "[Z" ∈ gx_Ts := gx_t2 221 (by decide +kernel) rfl
theorem wf_X6_17 : Cond.fieldLink RX6 17 RX6 "values" "[I" ∈ gx_Ts := gx_t2 222 (by decide +kernel) rfl
theorem wf_X6_124 : Cond.fieldLink RX6 124 RX6 "orders" "I" ∈ gx_Ts := gx_t2 223 (by decide +kernel) rfl
theorem wf_X6_20 : Cond.fieldLink RX6 20 RX6 "clients" "[I" ∈ gx_Ts := gx_t2 224 (by decide +kernel) rfl
theorem wf_X6_23 : Cond.fieldLink RX6 23 RX6 "kinds" "[I" ∈ gx_Ts := gx_t2 225 (by decide +kernel) rfl
theorem wf_X6_26 : Cond.fieldLink RX6 26 RX6 "as" "[I" ∈ gx_Ts := gx_t2 226 (by decide +kernel) rfl
theorem wf_X6_29 : Cond.fieldLink RX6 29 RX6 "bs" "[I" ∈ gx_Ts := gx_t2 227 (by decide +kernel) rfl
theorem wf_X6_32 : Cond.fieldLink RX6 32 RX6 "cs" "[I" ∈ gx_Ts := gx_t2 228 (by decide +kernel) rfl
theorem wf_X6_35 : Cond.fieldLink RX6 35 RX6 "sentAt" "[I" ∈ gx_Ts := gx_t2 229 (by decide +kernel) rfl
theorem wf_X6_38 : Cond.fieldLink RX6 38 RX6 "answered" "[Z" ∈ gx_Ts := gx_t2 230 (by decide +kernel) rfl
theorem wf_X6_41 : Cond.fieldLink RX6 41 RX6 "answers" "[I" ∈ gx_Ts := gx_t2 231 (by decide +kernel) rfl
theorem wf_X6_44 : Cond.fieldLink RX6 44 RX6 "times" "[I" ∈ gx_Ts := gx_t2 232 (by decide +kernel) rfl
theorem wf_X6_47 : Cond.fieldLink RX6 47 RX6 "started" "[Z" ∈ gx_Ts := gx_t2 233 (by decide +kernel) rfl
theorem wf_X6_50 : Cond.fieldLink RX6 50 RX6 "finals" "[I" ∈ gx_Ts := gx_t2 234 (by decide +kernel) rfl
theorem wf_X6_53 : Cond.fieldLink RX6 53 RX6 "isTaken" "[Z" ∈ gx_Ts := gx_t2 235 (by decide +kernel) rfl
theorem wf_X6_56 : Cond.fieldLink RX6 56 RX6 "sent" "[Z" ∈ gx_Ts := gx_t2 236 (by decide +kernel) rfl
theorem wf_X6_59 : Cond.fieldLink RX6 59 RX6 "worked" "[Z" ∈ gx_Ts := gx_t2 237 (by decide +kernel) rfl
theorem wf_X6_62 : Cond.fieldLink RX6 62 RX6 "locals" "[I" ∈ gx_Ts := gx_t2 238 (by decide +kernel) rfl
theorem wf_X6_65 : Cond.fieldLink RX6 65 RX6 "came" "[Z" ∈ gx_Ts := gx_t2 239 (by decide +kernel) rfl
theorem wf_X6_68 : Cond.fieldLink RX6 68 RX6 "cameA" "[I" ∈ gx_Ts := gx_t3 0 (by decide +kernel) rfl
theorem wf_X6_71 : Cond.fieldLink RX6 71 RX6 "cameB" "[I" ∈ gx_Ts := gx_t3 1 (by decide +kernel) rfl
theorem wf_X6_74 : Cond.fieldLink RX6 74 RX6 "takenCount" "[I" ∈ gx_Ts := gx_t3 2 (by decide +kernel) rfl
theorem wf_X6_77 : Cond.fieldLink RX6 77 RX6 "takenRow" "[I" ∈ gx_Ts := gx_t3 3 (by decide +kernel) rfl
theorem wf_X6_109 : Cond.fieldLink RX6 109 RX6 "flying" "I" ∈ gx_Ts := gx_t3 4 (by decide +kernel) rfl
theorem wf_X6_80 : Cond.fieldLink RX6 80 RX6 "kindOf" "[I" ∈ gx_Ts := gx_t3 5 (by decide +kernel) rfl
theorem wf_X6_83 : Cond.fieldLink RX6 83 RX6 "orderOf" "[I" ∈ gx_Ts := gx_t3 6 (by decide +kernel) rfl
theorem wf_X6_86 : Cond.fieldLink RX6 86 RX6 "fromOf" "[I" ∈ gx_Ts := gx_t3 7 (by decide +kernel) rfl
theorem wf_X6_89 : Cond.fieldLink RX6 89 RX6 "toOf" "[I" ∈ gx_Ts := gx_t3 8 (by decide +kernel) rfl
theorem wf_X6_92 : Cond.fieldLink RX6 92 RX6 "timeOf" "[I" ∈ gx_Ts := gx_t3 9 (by decide +kernel) rfl
theorem wf_X6_95 : Cond.fieldLink RX6 95 RX6 "aOf" "[I" ∈ gx_Ts := gx_t3 10 (by decide +kernel) rfl
theorem wf_X6_98 : Cond.fieldLink RX6 98 RX6 "bOf" "[I" ∈ gx_Ts := gx_t3 11 (by decide +kernel) rfl
theorem wf_X6_139 : Cond.fieldLink RX6 139 RX6 "brought" "I" ∈ gx_Ts := gx_t3 12 (by decide +kernel) rfl
theorem wa_boolean : Cond.arrayClass Jvm.ClassFile.FieldType.boolean ∈ gx_Ts := gx_t3 82 (by decide +kernel) rfl
theorem wm_L_25 : Cond.methodLink RL 25 yX6_send ∈ gx_Ts := gx_t3 83 (by decide +kernel) rfl
theorem wy_X6_send : Cond.instanceMethod yX6_send ∈ gx_Ts := gx_t3 84 (by decide +kernel) rfl
theorem wl_X6_send : Cond.selects RX6 yX6_send yX6_send ∈ gx_Ts := gx_t3 85 (by decide +kernel) rfl
theorem wk_X6_send : Cond.code yX6_send cX6_send 7 (Option.some Jvm.ClassFile.FieldType.int) ∈ gx_Ts := gx_t3 86 (rfl) rfl
theorem wm_X6_120 : Cond.methodLink RX6 120 yX6_isIn ∈ gx_Ts := gx_t3 87 (by decide +kernel) rfl
theorem ws_X6_isIn : Cond.static yX6_isIn ∈ gx_Ts := gx_t3 88 (by decide +kernel) rfl
theorem wk_X6_isIn : Cond.code yX6_isIn cX6_isIn 2 (Option.some Jvm.ClassFile.FieldType.boolean) ∈ gx_Ts := gx_t3 89 (rfl) rfl
theorem wt_X6_123 : Cond.constant RX6 123 (1000000 : Int32) ∈ gx_Ts := gx_t3 90 (by decide +kernel) rfl
theorem wm_X6_127 : Cond.methodLink RX6 127 yX6_putOthers ∈ gx_Ts := gx_t3 91 (by decide +kernel) rfl
theorem wy_X6_putOthers : Cond.instanceMethod yX6_putOthers ∈ gx_Ts := gx_t3 93 (by decide +kernel) rfl
theorem wk_X6_putOthers : Cond.code yX6_putOthers cX6_putOthers 6 (Option.none : Option Jvm.ClassFile.FieldType) ∈ gx_Ts := gx_t3 94 (rfl) rfl
theorem wm_X6_112 : Cond.methodLink RX6 112 yX6_isOf ∈ gx_Ts := gx_t3 95 (by decide +kernel) rfl
theorem wy_X6_isOf : Cond.instanceMethod yX6_isOf ∈ gx_Ts := gx_t3 97 (by decide +kernel) rfl
theorem wk_X6_isOf : Cond.code yX6_isOf cX6_isOf 3 (Option.some Jvm.ClassFile.FieldType.boolean) ∈ gx_Ts := gx_t3 98 (rfl) rfl
theorem wm_X6_116 : Cond.methodLink RX6 116 yX6_put ∈ gx_Ts := gx_t3 99 (by decide +kernel) rfl
theorem wy_X6_put : Cond.instanceMethod yX6_put ∈ gx_Ts := gx_t3 101 (by decide +kernel) rfl
theorem wk_X6_put : Cond.code yX6_put cX6_put 6 (Option.none : Option Jvm.ClassFile.FieldType) ∈ gx_Ts := gx_t3 102 (rfl) rfl
theorem wm_L_30 : Cond.methodLink RL 30 yX6_bring ∈ gx_Ts := gx_t3 103 (by decide +kernel) rfl
theorem wy_X6_bring : Cond.instanceMethod yX6_bring ∈ gx_Ts := gx_t3 104 (by decide +kernel) rfl
theorem wl_X6_bring : Cond.selects RX6 yX6_bring yX6_bring ∈ gx_Ts := gx_t3 105 (by decide +kernel) rfl
theorem wk_X6_bring : Cond.code yX6_bring cX6_bring 3 (Option.some Jvm.ClassFile.FieldType.int) ∈ gx_Ts := gx_t3 106 (rfl) rfl
theorem wm_X6_155 : Cond.methodLink RX6 155 yX6_move ∈ gx_Ts := gx_t3 107 (by decide +kernel) rfl
theorem wy_X6_move : Cond.instanceMethod yX6_move ∈ gx_Ts := gx_t3 109 (by decide +kernel) rfl
theorem wk_X6_move : Cond.code yX6_move cX6_move 3 (Option.none : Option Jvm.ClassFile.FieldType) ∈ gx_Ts := gx_t3 110 (rfl) rfl
theorem wm_X6_158 : Cond.methodLink RX6 158 yX6_comes ∈ gx_Ts := gx_t3 111 (by decide +kernel) rfl
theorem wy_X6_comes : Cond.instanceMethod yX6_comes ∈ gx_Ts := gx_t3 113 (by decide +kernel) rfl
theorem wk_X6_comes : Cond.code yX6_comes cX6_comes 5 (Option.none : Option Jvm.ClassFile.FieldType) ∈ gx_Ts := gx_t3 114 (rfl) rfl
theorem wm_X6_135 : Cond.methodLink RX6 135 yX6_comesStart ∈ gx_Ts := gx_t3 115 (by decide +kernel) rfl
theorem wy_X6_comesStart : Cond.instanceMethod yX6_comesStart ∈ gx_Ts := gx_t3 117 (by decide +kernel) rfl
theorem wk_X6_comesStart : Cond.code yX6_comesStart cX6_comesStart 3 (Option.none : Option Jvm.ClassFile.FieldType) ∈ gx_Ts := gx_t3 118 (rfl) rfl
theorem wm_X6_105 : Cond.methodLink RX6 105 yX6_at ∈ gx_Ts := gx_t3 119 (by decide +kernel) rfl
theorem ws_X6_at : Cond.static yX6_at ∈ gx_Ts := gx_t3 120 (by decide +kernel) rfl
theorem wk_X6_at : Cond.code yX6_at cX6_at 2 (Option.some Jvm.ClassFile.FieldType.int) ∈ gx_Ts := gx_t3 121 (rfl) rfl
theorem wm_X6_131 : Cond.methodLink RX6 131 yX6_of ∈ gx_Ts := gx_t3 122 (by decide +kernel) rfl
theorem ws_X6_of : Cond.static yX6_of ∈ gx_Ts := gx_t3 123 (by decide +kernel) rfl
theorem wk_X6_of : Cond.code yX6_of cX6_of 3 (Option.some Jvm.ClassFile.FieldType.int) ∈ gx_Ts := gx_t3 124 (rfl) rfl
theorem wm_X6_142 : Cond.methodLink RX6 142 yX6_makesFinal ∈ gx_Ts := gx_t3 125 (by decide +kernel) rfl
theorem wy_X6_makesFinal : Cond.instanceMethod yX6_makesFinal ∈ gx_Ts := gx_t3 127 (by decide +kernel) rfl
theorem wk_X6_makesFinal : Cond.code yX6_makesFinal cX6_makesFinal 7 (Option.some Jvm.ClassFile.FieldType.boolean) ∈ gx_Ts := gx_t3 128 (rfl) rfl
theorem wm_X6_146 : Cond.methodLink RX6 146 yX6_takes ∈ gx_Ts := gx_t3 129 (by decide +kernel) rfl
theorem wy_X6_takes : Cond.instanceMethod yX6_takes ∈ gx_Ts := gx_t3 131 (by decide +kernel) rfl
theorem wk_X6_takes : Cond.code yX6_takes cX6_takes 6 (Option.some Jvm.ClassFile.FieldType.boolean) ∈ gx_Ts := gx_t3 132 (rfl) rfl
theorem wm_X6_149 : Cond.methodLink RX6 149 yX6_works ∈ gx_Ts := gx_t3 133 (by decide +kernel) rfl
theorem wy_X6_works : Cond.instanceMethod yX6_works ∈ gx_Ts := gx_t3 135 (by decide +kernel) rfl
theorem wk_X6_works : Cond.code yX6_works cX6_works 5 (Option.some Jvm.ClassFile.FieldType.boolean) ∈ gx_Ts := gx_t3 136 (rfl) rfl
theorem wm_X6_152 : Cond.methodLink RX6 152 yX6_workOut ∈ gx_Ts := gx_t3 137 (by decide +kernel) rfl
theorem wy_X6_workOut : Cond.instanceMethod yX6_workOut ∈ gx_Ts := gx_t3 139 (by decide +kernel) rfl
theorem wk_X6_workOut : Cond.code yX6_workOut cX6_workOut 9 (Option.none : Option Jvm.ClassFile.FieldType) ∈ gx_Ts := gx_t3 140 (rfl) rfl
theorem wm_L_34 : Cond.methodLink RL 34 yX6_twice ∈ gx_Ts := gx_t3 141 (by decide +kernel) rfl
theorem wy_X6_twice : Cond.instanceMethod yX6_twice ∈ gx_Ts := gx_t3 142 (by decide +kernel) rfl
theorem wl_X6_twice : Cond.selects RX6 yX6_twice yX6_twice ∈ gx_Ts := gx_t3 143 (by decide +kernel) rfl
theorem wk_X6_twice : Cond.code yX6_twice cX6_twice 2 (Option.some Jvm.ClassFile.FieldType.int) ∈ gx_Ts := gx_t3 144 (rfl) rfl
theorem wm_L_39 : Cond.methodLink RL 39 yX6_up ∈ gx_Ts := gx_t3 145 (by decide +kernel) rfl
theorem wy_X6_up : Cond.instanceMethod yX6_up ∈ gx_Ts := gx_t3 146 (by decide +kernel) rfl
theorem wl_X6_up : Cond.selects RX6 yX6_up yX6_up ∈ gx_Ts := gx_t3 147 (by decide +kernel) rfl
theorem wk_X6_up : Cond.code yX6_up cX6_up 3 (Option.some Jvm.ClassFile.FieldType.boolean) ∈ gx_Ts := gx_t3 148 (rfl) rfl
theorem wm_L_44 : Cond.methodLink RL 44 yX6_flight ∈ gx_Ts := gx_t3 149 (by decide +kernel) rfl
theorem wy_X6_flight : Cond.instanceMethod yX6_flight ∈ gx_Ts := gx_t3 150 (by decide +kernel) rfl
theorem wl_X6_flight : Cond.selects RX6 yX6_flight yX6_flight ∈ gx_Ts := gx_t3 151 (by decide +kernel) rfl
theorem wk_X6_flight : Cond.code yX6_flight cX6_flight 3 (Option.some Jvm.ClassFile.FieldType.int) ∈ gx_Ts := gx_t3 152 (rfl) rfl
theorem wm_L_49 : Cond.methodLink RL 49 yX6_flying ∈ gx_Ts := gx_t3 153 (by decide +kernel) rfl
theorem wy_X6_flying : Cond.instanceMethod yX6_flying ∈ gx_Ts := gx_t3 154 (by decide +kernel) rfl
theorem wl_X6_flying : Cond.selects RX6 yX6_flying yX6_flying ∈ gx_Ts := gx_t3 155 (by decide +kernel) rfl
theorem wk_X6_flying : Cond.code yX6_flying cX6_flying 1 (Option.some Jvm.ClassFile.FieldType.int) ∈ gx_Ts := gx_t3 156 (rfl) rfl
theorem wm_L_53 : Cond.methodLink RL 53 yX6_taken ∈ gx_Ts := gx_t3 157 (by decide +kernel) rfl
theorem wy_X6_taken : Cond.instanceMethod yX6_taken ∈ gx_Ts := gx_t3 158 (by decide +kernel) rfl
theorem wl_X6_taken : Cond.selects RX6 yX6_taken yX6_taken ∈ gx_Ts := gx_t3 159 (by decide +kernel) rfl
theorem wk_X6_taken : Cond.code yX6_taken cX6_taken 3 (Option.some Jvm.ClassFile.FieldType.int) ∈ gx_Ts := gx_t3 160 (rfl) rfl
theorem wm_L_57 : Cond.methodLink RL 57 yX6_answer ∈ gx_Ts := gx_t3 161 (by decide +kernel) rfl
theorem wy_X6_answer : Cond.instanceMethod yX6_answer ∈ gx_Ts := gx_t3 162 (by decide +kernel) rfl
theorem wl_X6_answer : Cond.selects RX6 yX6_answer yX6_answer ∈ gx_Ts := gx_t3 163 (by decide +kernel) rfl
theorem wk_X6_answer : Cond.code yX6_answer cX6_answer 2 (Option.some Jvm.ClassFile.FieldType.int) ∈ gx_Ts := gx_t3 164 (rfl) rfl
theorem wm_L_62 : Cond.methodLink RL 62 yX6_answered ∈ gx_Ts := gx_t3 165 (by decide +kernel) rfl
theorem wy_X6_answered : Cond.instanceMethod yX6_answered ∈ gx_Ts := gx_t3 166 (by decide +kernel) rfl
theorem wl_X6_answered : Cond.selects RX6 yX6_answered yX6_answered ∈ gx_Ts := gx_t3 167 (by decide +kernel) rfl
theorem wk_X6_answered : Cond.code yX6_answered cX6_answered 2 (Option.some Jvm.ClassFile.FieldType.boolean) ∈ gx_Ts := gx_t3 168 (rfl) rfl
theorem wm_L_67 : Cond.methodLink RL 67 yX6_time ∈ gx_Ts := gx_t3 169 (by decide +kernel) rfl
theorem wy_X6_time : Cond.instanceMethod yX6_time ∈ gx_Ts := gx_t3 170 (by decide +kernel) rfl
theorem wl_X6_time : Cond.selects RX6 yX6_time yX6_time ∈ gx_Ts := gx_t3 171 (by decide +kernel) rfl
theorem wk_X6_time : Cond.code yX6_time cX6_time 5 (Option.some Jvm.ClassFile.FieldType.int) ∈ gx_Ts := gx_t3 172 (rfl) rfl
theorem wm_L_71 : Cond.methodLink RL 71 yX6_value ∈ gx_Ts := gx_t3 173 (by decide +kernel) rfl
theorem wy_X6_value : Cond.instanceMethod yX6_value ∈ gx_Ts := gx_t3 174 (by decide +kernel) rfl
theorem wl_X6_value : Cond.selects RX6 yX6_value yX6_value ∈ gx_Ts := gx_t3 175 (by decide +kernel) rfl
theorem wk_X6_value : Cond.code yX6_value cX6_value 2 (Option.some Jvm.ClassFile.FieldType.int) ∈ gx_Ts := gx_t3 176 (rfl) rfl
theorem wm_L_75 : Cond.methodLink RL 75 yX6_clock ∈ gx_Ts := gx_t3 177 (by decide +kernel) rfl
theorem wy_X6_clock : Cond.instanceMethod yX6_clock ∈ gx_Ts := gx_t3 178 (by decide +kernel) rfl
theorem wl_X6_clock : Cond.selects RX6 yX6_clock yX6_clock ∈ gx_Ts := gx_t3 179 (by decide +kernel) rfl
theorem wk_X6_clock : Cond.code yX6_clock cX6_clock 2 (Option.some Jvm.ClassFile.FieldType.int) ∈ gx_Ts := gx_t3 180 (rfl) rfl
theorem wm_L_79 : Cond.methodLink RL 79 yX6_seen ∈ gx_Ts := gx_t3 181 (by decide +kernel) rfl
theorem wy_X6_seen : Cond.instanceMethod yX6_seen ∈ gx_Ts := gx_t3 182 (by decide +kernel) rfl
theorem wl_X6_seen : Cond.selects RX6 yX6_seen yX6_seen ∈ gx_Ts := gx_t3 183 (by decide +kernel) rfl
theorem wk_X6_seen : Cond.code yX6_seen cX6_seen 2 (Option.some Jvm.ClassFile.FieldType.int) ∈ gx_Ts := gx_t3 184 (rfl) rfl
theorem wm_L_84 : Cond.methodLink RL 84 yX6_agree ∈ gx_Ts := gx_t3 185 (by decide +kernel) rfl
theorem wy_X6_agree : Cond.instanceMethod yX6_agree ∈ gx_Ts := gx_t3 186 (by decide +kernel) rfl
theorem wl_X6_agree : Cond.selects RX6 yX6_agree yX6_agree ∈ gx_Ts := gx_t3 187 (by decide +kernel) rfl
theorem wk_X6_agree : Cond.code yX6_agree cX6_agree 6 (Option.some Jvm.ClassFile.FieldType.boolean) ∈ gx_Ts := gx_t3 188 (rfl) rfl
theorem wm_L_88 : Cond.methodLink RL 88 yX6_count ∈ gx_Ts := gx_t3 189 (by decide +kernel) rfl
theorem wy_X6_count : Cond.instanceMethod yX6_count ∈ gx_Ts := gx_t3 190 (by decide +kernel) rfl
theorem wl_X6_count : Cond.selects RX6 yX6_count yX6_count ∈ gx_Ts := gx_t3 191 (by decide +kernel) rfl
theorem wk_X6_count : Cond.code yX6_count cX6_count 4 (Option.some Jvm.ClassFile.FieldType.int) ∈ gx_Ts := gx_t3 192 (rfl) rfl
theorem wm_X6_162 : Cond.methodLink RX6 162 yX6_doneCount ∈ gx_Ts := gx_t3 193 (by decide +kernel) rfl
theorem wy_X6_doneCount : Cond.instanceMethod yX6_doneCount ∈ gx_Ts := gx_t3 195 (by decide +kernel) rfl
theorem wk_X6_doneCount : Cond.code yX6_doneCount cX6_doneCount 5 (Option.some Jvm.ClassFile.FieldType.int) ∈ gx_Ts := gx_t3 196 (rfl) rfl
theorem wl_X5_answeredOrdersOf : Cond.selects RX5 yX5_answeredOrdersOf yX5_answeredOrdersOf ∈ gx_Ts := gx_tp (n := 9) (List.mem_append_left _ (List.mem_of_getElem? (i := 0) rfl))
theorem wl_X5_putStarts : Cond.selects RX5 yX5_putStarts yX5_putStarts ∈ gx_Ts := gx_tp (n := 9) (List.mem_append_left _ (List.mem_of_getElem? (i := 1) rfl))
theorem wl_X5_keeperOf : Cond.selects RX5 yX5_keeperOf yX5_keeperOf ∈ gx_Ts := gx_tp (n := 9) (List.mem_append_left _ (List.mem_of_getElem? (i := 2) rfl))
theorem wl_X5_deliver : Cond.selects RX5 yX5_deliver yX5_deliver ∈ gx_Ts := gx_tp (n := 9) (List.mem_append_left _ (List.mem_of_getElem? (i := 3) rfl))
theorem wl_X5_receive : Cond.selects RX5 yX5_receive yX5_receive ∈ gx_Ts := gx_tp (n := 9) (List.mem_append_left _ (List.mem_of_getElem? (i := 4) rfl))
theorem wl_X1_earliestWaiting : Cond.selects RX1 yX1_earliestWaiting yX1_earliestWaiting ∈ gx_Ts := gx_tp (n := 7) (List.mem_append_left _ (List.mem_of_getElem? (i := 5) rfl))
theorem wl_X4_leastTime : Cond.selects RX4 yX4_leastTime yX4_leastTime ∈ gx_Ts := gx_tp (n := 11) (List.mem_append_left _ (List.mem_of_getElem? (i := 6) rfl))
theorem wl_X5_workOutAll : Cond.selects RX5 yX5_workOutAll yX5_workOutAll ∈ gx_Ts := gx_tp (n := 9) (List.mem_append_left _ (List.mem_of_getElem? (i := 7) rfl))
theorem wl_X5_putValues : Cond.selects RX5 yX5_putValues yX5_putValues ∈ gx_Ts := gx_tp (n := 9) (List.mem_append_left _ (List.mem_of_getElem? (i := 8) rfl))
theorem wl_X5_workOut : Cond.selects RX5 yX5_workOut yX5_workOut ∈ gx_Ts := gx_tp (n := 9) (List.mem_append_left _ (List.mem_of_getElem? (i := 9) rfl))
theorem wl_X5_isGroup : Cond.selects RX5 yX5_isGroup yX5_isGroup ∈ gx_Ts := gx_tp (n := 9) (List.mem_append_left _ (List.mem_of_getElem? (i := 10) rfl))
theorem wl_X5_hasOrder : Cond.selects RX5 yX5_hasOrder yX5_hasOrder ∈ gx_Ts := gx_tp (n := 9) (List.mem_append_left _ (List.mem_of_getElem? (i := 11) rfl))
theorem wl_X5_groupsTookInOrder : Cond.selects RX5 yX5_groupsTookInOrder yX5_groupsTookInOrder ∈ gx_Ts := gx_tp (n := 9) (List.mem_append_left _ (List.mem_of_getElem? (i := 12) rfl))
theorem wl_X5_isBehind : Cond.selects RX5 yX5_isBehind yX5_isBehind ∈ gx_Ts := gx_tp (n := 9) (List.mem_append_left _ (List.mem_of_getElem? (i := 13) rfl))
theorem wl_X5_finalTimeOf : Cond.selects RX5 yX5_finalTimeOf yX5_finalTimeOf ∈ gx_Ts := gx_tp (n := 9) (List.mem_append_left _ (List.mem_of_getElem? (i := 14) rfl))
theorem wl_X5_clientsWereFollowed : Cond.selects RX5 yX5_clientsWereFollowed yX5_clientsWereFollowed ∈ gx_Ts := gx_tp (n := 9) (List.mem_append_left _ (List.mem_of_getElem? (i := 15) rfl))
theorem wl_X5_replayGivesTheSame : Cond.selects RX5 yX5_replayGivesTheSame yX5_replayGivesTheSame ∈ gx_Ts := gx_tp (n := 9) (List.mem_append_right _ (List.mem_append_left _ (List.mem_of_getElem? (i := 0) rfl)))
theorem wl_X5_nextAnswered : Cond.selects RX5 yX5_nextAnswered yX5_nextAnswered ∈ gx_Ts := gx_tp (n := 9) (List.mem_append_right _ (List.mem_append_left _ (List.mem_of_getElem? (i := 1) rfl)))
theorem wl_X5_replayAnswersTheSame : Cond.selects RX5 yX5_replayAnswersTheSame yX5_replayAnswersTheSame ∈ gx_Ts := gx_tp (n := 9) (List.mem_append_right _ (List.mem_append_left _ (List.mem_of_getElem? (i := 2) rfl)))
theorem wl_X5_isWorkedOutAt : Cond.selects RX5 yX5_isWorkedOutAt yX5_isWorkedOutAt ∈ gx_Ts := gx_tp (n := 9) (List.mem_append_right _ (List.mem_append_left _ (List.mem_of_getElem? (i := 3) rfl)))
theorem wl_X5_countAnswered : Cond.selects RX5 yX5_countAnswered yX5_countAnswered ∈ gx_Ts := gx_tp (n := 9) (List.mem_append_right _ (List.mem_append_left _ (List.mem_of_getElem? (i := 4) rfl)))
theorem wl_X5_countWorkedOutByAll : Cond.selects RX5 yX5_countWorkedOutByAll yX5_countWorkedOutByAll ∈ gx_Ts := gx_tp (n := 9) (List.mem_append_right _ (List.mem_append_left _ (List.mem_of_getElem? (i := 5) rfl)))
theorem wl_X6_putOthers : Cond.selects RX6 yX6_putOthers yX6_putOthers ∈ gx_Ts := gx_tp (n := 34) (List.mem_append_right _ (List.mem_append_left _ (List.mem_of_getElem? (i := 6) rfl)))
theorem wl_X6_isOf : Cond.selects RX6 yX6_isOf yX6_isOf ∈ gx_Ts := gx_tp (n := 34) (List.mem_append_right _ (List.mem_append_left _ (List.mem_of_getElem? (i := 7) rfl)))
theorem wl_X6_put : Cond.selects RX6 yX6_put yX6_put ∈ gx_Ts := gx_tp (n := 34) (List.mem_append_right _ (List.mem_append_left _ (List.mem_of_getElem? (i := 8) rfl)))
theorem wl_X6_move : Cond.selects RX6 yX6_move yX6_move ∈ gx_Ts := gx_tp (n := 34) (List.mem_append_right _ (List.mem_append_left _ (List.mem_of_getElem? (i := 9) rfl)))
theorem wl_X6_comes : Cond.selects RX6 yX6_comes yX6_comes ∈ gx_Ts := gx_tp (n := 34) (List.mem_append_right _ (List.mem_append_left _ (List.mem_of_getElem? (i := 10) rfl)))
theorem wl_X6_comesStart : Cond.selects RX6 yX6_comesStart yX6_comesStart ∈ gx_Ts := gx_tp (n := 34) (List.mem_append_right _ (List.mem_append_left _ (List.mem_of_getElem? (i := 11) rfl)))
theorem wl_X6_makesFinal : Cond.selects RX6 yX6_makesFinal yX6_makesFinal ∈ gx_Ts := gx_tp (n := 34) (List.mem_append_right _ (List.mem_append_left _ (List.mem_of_getElem? (i := 12) rfl)))
theorem wl_X6_takes : Cond.selects RX6 yX6_takes yX6_takes ∈ gx_Ts := gx_tp (n := 34) (List.mem_append_right _ (List.mem_append_left _ (List.mem_of_getElem? (i := 13) rfl)))
theorem wl_X6_works : Cond.selects RX6 yX6_works yX6_works ∈ gx_Ts := gx_tp (n := 34) (List.mem_append_right _ (List.mem_append_left _ (List.mem_of_getElem? (i := 14) rfl)))
theorem wl_X6_workOut : Cond.selects RX6 yX6_workOut yX6_workOut ∈ gx_Ts := gx_tp (n := 34) (List.mem_append_right _ (List.mem_append_left _ (List.mem_of_getElem? (i := 15) rfl)))
theorem wl_X6_doneCount : Cond.selects RX6 yX6_doneCount yX6_doneCount ∈ gx_Ts := gx_tp (n := 34) (List.mem_append_right _ (List.mem_append_right _ (List.mem_of_getElem? (i := 0) rfl)))
theorem wx_X0 : ∀ w ∈ u_ws RX0 TX0 2, w ∈ gx_Ts := by
  have h : (u_ws RX0 TX0 2).all (fun w => decide (w ∈ lw_tbl) && goodWord w) = true := by decide +kernel
  intro w hw
  have h1 := List.all_eq_true.mp h w hw
  simp only [Bool.and_eq_true, decide_eq_true_eq] at h1
  exact List.mem_filter.mpr h1
theorem wx_X1 : ∀ w ∈ u_ws RX1 TX1 7, w ∈ gx_Ts := by
  have h : (u_ws RX1 TX1 7).all (fun w => decide (w ∈ lw_tbl) && goodWord w) = true := by decide +kernel
  intro w hw
  have h1 := List.all_eq_true.mp h w hw
  simp only [Bool.and_eq_true, decide_eq_true_eq] at h1
  exact List.mem_filter.mpr h1
theorem wx_X2 : ∀ w ∈ u_ws RX2 TX2 4, w ∈ gx_Ts := by
  have h : (u_ws RX2 TX2 4).all (fun w => decide (w ∈ lw_tbl) && goodWord w) = true := by decide +kernel
  intro w hw
  have h1 := List.all_eq_true.mp h w hw
  simp only [Bool.and_eq_true, decide_eq_true_eq] at h1
  exact List.mem_filter.mpr h1
theorem wx_X3 : ∀ w ∈ u_ws RX3 TX3 10, w ∈ gx_Ts := by
  have h : (u_ws RX3 TX3 10).all (fun w => decide (w ∈ lw_tbl) && goodWord w) = true := by decide +kernel
  intro w hw
  have h1 := List.all_eq_true.mp h w hw
  simp only [Bool.and_eq_true, decide_eq_true_eq] at h1
  exact List.mem_filter.mpr h1
theorem wx_X4 : ∀ w ∈ u_ws RX4 TX4 11, w ∈ gx_Ts := by
  have h : (u_ws RX4 TX4 11).all (fun w => decide (w ∈ lw_tbl) && goodWord w) = true := by decide +kernel
  intro w hw
  have h1 := List.all_eq_true.mp h w hw
  simp only [Bool.and_eq_true, decide_eq_true_eq] at h1
  exact List.mem_filter.mpr h1
theorem wx_X5 : ∀ w ∈ u_ws RX5 TX5 9, w ∈ gx_Ts := by
  have h : (u_ws RX5 TX5 9).all (fun w => decide (w ∈ lw_tbl) && goodWord w) = true := by decide +kernel
  intro w hw
  have h1 := List.all_eq_true.mp h w hw
  simp only [Bool.and_eq_true, decide_eq_true_eq] at h1
  exact List.mem_filter.mpr h1
theorem wx_X6 : ∀ w ∈ u_ws RX6 TX6 34, w ∈ gx_Ts := by
  have h : (u_ws RX6 TX6 34).all (fun w => decide (w ∈ lw_tbl) && goodWord w) = true := by decide +kernel
  intro w hw
  have h1 := List.all_eq_true.mp h w hw
  simp only [Bool.and_eq_true, decide_eq_true_eq] at h1
  exact List.mem_filter.mpr h1
